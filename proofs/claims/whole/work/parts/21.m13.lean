/-! run() -/
def rgOf (ss : List SH) (w : Nat → Nat) (n : Nat) : List Nat := (List.range n).map (fun i => ow ss (w i))
theorem rgOf_len {ss : List SH} {w : Nat → Nat} {n : Nat} : (rgOf ss w n).length = n := by unfold rgOf; rw [List.length_map, List.length_range]
theorem rgOf_get {ss : List SH} {w : Nat → Nat} {n k : Nat} (hk : k < n) : (rgOf ss w n).getD k 0 = ow ss (w k) := by
  unfold rgOf
  rw [List.getD_eq_getElem?_getD, List.getElem?_map, List.getElem?_range hk]; rfl
def ringR (d : Int) (ss : List SH) (rg : List Nat) : Prop := (rg = [] ∧ ∀ n, 3 ≤ n → n % 2 = 1 → n ≤ tS ss ss.length → ∀ w, ¬ WR d ss n w) ∨ ∃ n w, 3 ≤ n ∧ n % 2 = 1 ∧ n ≤ tS ss ss.length ∧ (∀ k, 3 ≤ k → k % 2 = 1 → k < n → ∀ w, ¬ WR d ss k w) ∧ WR d ss n w ∧ (∀ v, WR d ss n v → lexL n w v) ∧ rg = rgOf ss w n
/-- what run() leaves, the steps being enough -/
def runR (d : Int) (ss : List SH) (many : Nat) (kp : Option KPs) (rg : List Nat) : Prop :=
  (∃ most w, most < 12 ∧ (∀ k, k < most → ∀ w, ¬ FV d ss many k w) ∧ FV d ss many most w ∧ (∀ v, FV d ss many most v → lexL (tS ss ss.length) w v) ∧ kp = some (kpOf ss w) ∧ rg = []) ∨
  ((∀ k, k < 12 → ∀ w, ¬ FV d ss many k w) ∧ kp = none ∧ (many = 2 → ringR d ss rg) ∧ (¬ many = 2 → rg = []))
noncomputable def cdRun (ss : List SH) (c : Int32) (t : Int64) : Int32 := cI (opS ss) 1 (cI (c < 2 ∨ nI 4 < c ∨ t < 0) 2 0)
section M13
variable {l : Launch} {B E0 : Nat} {D : va_G} {h0 h : HM} {m : Nat} {a : Nat → Nat} {d : Int} {s : Nat → Int32} {I : Nat → Nat → Int32} {G : Nat → Nat → Int64} {ss : List SH} {kp : Option KPs} {rg : List Nat} {cl : Prop}
theorem iw_X7_findRing_X7 : ∀ w ∈ u_ws RX7 TX7 27, w ∈ wsX7_findRing := by decide +kernel
theorem m_findRing (v : Nat) (hM : MR h0 h m a (lZ d) s I G) (P : MP d ss s I) (hw : wfSS ss) (h25 : s 25 = 0) : CM l B E0 D yX7_findRing wsX7_findRing (v + 3) 0 0 [.ref m] h (fun r h1 => r = none ∧ ∃ s1 I1 rg, MR h0 h1 m a (lZ d) s1 I1 G ∧ ringR d ss rg ∧ s1 25 = nI rg.length ∧ (∀ k, k < rg.length → I1 24 k = nI (rg.getD k 0)) ∧ (∀ k, k ≠ 25 → s1 k = s k) ∧ ∀ k, k ≠ 23 → k ≠ 24 → I1 k = I k) := by
  have hl := hw.1
  have ht := hw.2.1
  refine CM.of (cc := cX7_findRing) (maxL := 3) (ret := none) (by decide) rfl (Nat.le_of_ble_eq_true rfl) (fun X E hin => ?_)
  show J X B D 3 _ h 0 0 0 [(0, .ref m)] []
  generalize hQ : jQ X B D _ _ _ = Q
  have loop : ∀ (t n : Nat), tS ss ss.length + 2 - n ≤ t → 3 ≤ n → n % 2 = 1 → n ≤ 20 → ∀ (h : HM) (I1 : Nat → Nat → Int32), MR h0 h m a (lZ d) s I1 G → (∀ k, k ≠ 23 → k ≠ 24 → I1 k = I k) → (∀ k, 3 ≤ k → k % 2 = 1 → k < n → ∀ w, ¬ WR d ss k w) → J X B D 3 Q h 0 0 2 [(1, .int (nI n)), (0, .ref m)] [] := by
    intro t
    induction t with
    | zero =>
      intro n hn h3 ho h20 h I1 hM qI no
      refine j_iload_n E dX7_findRing_2 rfl ?_
      refine j_aload_n E dX7_findRing_3 rfl ?_
      refine j_getfield (ref := "ColourPartsModel") (C := RX7) (T := TX7) (N := 27) (ci := 8) E 10 dX7_findRing_4 iw_X7_findRing_X7 rfl (by decide) (by decide +kernel) rfl hM.obj rfl ?_
      refine J.topi (x' := nI (tS ss ss.length)) (P.1) ?_
      refine j_icmp_gt E (tgt := 66) dX7_findRing_7 (by decide) (fun c => ?_) (fun c => ?_)
      ·
        rw [← hQ]
        exact j_vret E dX7_findRing_66 rfl (by omega) (by omega) ⟨rfl, s, I1, [], hM, Or.inl ⟨rfl, fun k h1 h2 h4 => no k h1 h2 (by omega)⟩, h25, fun k hk => absurd hk (Nat.not_lt_zero _), fun _ _ => rfl, qI⟩
      · exact absurd (nI_lt (show tS ss ss.length < n by omega) (by omega)) c
    | succ t ih =>
      intro n hn h3 ho h20 h I1 hM qI no
      refine j_iload_n E dX7_findRing_2 rfl ?_
      refine j_aload_n E dX7_findRing_3 rfl ?_
      refine j_getfield (ref := "ColourPartsModel") (C := RX7) (T := TX7) (N := 27) (ci := 8) E 10 dX7_findRing_4 iw_X7_findRing_X7 rfl (by decide) (by decide +kernel) rfl hM.obj rfl ?_
      refine J.topi (x' := nI (tS ss ss.length)) (P.1) ?_
      refine j_icmp_gt E (tgt := 66) dX7_findRing_7 (by decide) (fun c => ?_) (fun c => ?_)
      ·
        rw [← hQ]
        exact j_vret E dX7_findRing_66 rfl (by omega) (by omega) ⟨rfl, s, I1, [], hM, Or.inl ⟨rfl, fun k h1 h2 h4 => no k h1 h2 (Nat.not_le.mp (fun z => nI_nlt (show n ≤ tS ss ss.length by omega) (by omega) c))⟩, h25, fun k hk => absurd hk (Nat.not_lt_zero _), fun _ _ => rfl, qI⟩
      · have hnP : n ≤ tS ss ss.length := Nat.not_lt.mp (fun z => c (nI_lt z (by omega)))
        refine j_aload_n E dX7_findRing_10 rfl ?_
        refine j_getfield (ref := "ColourPartsModel") (C := RX7) (T := TX7) (N := 27) (ci := 8) E 25 dX7_findRing_11 iw_X7_findRing_X7 rfl (by decide) (by decide +kernel) rfl hM.obj rfl ?_
        refine J.topi (x' := (0 : Int32)) (h25) ?_
        refine j_if_ne E (tgt := 66) dX7_findRing_14 (by decide) (fun c2 => ?_) (fun c2 => ?_)
        · exact absurd rfl c2
        ·
          refine j_aload_n E dX7_findRing_17 rfl ?_
          refine j_iload_n E dX7_findRing_18 rfl ?_
          have P1 : MP d ss s I1 := P.keep rfl ⟨qI 11 (by decide) (by decide), qI 12 (by decide) (by decide), qI 13 (by decide) (by decide)⟩
          refine j_callV (np := 1) (C := RX7) (T := TX7) (N := 27) (ci := 8) E (m_isRing v hM P1 hw (show 1 ≤ n ∧ n ≤ 12 by omega)) gX7_findRing_X7_isRing rfl ⟨rfl, by decide, by decide, by decide +kernel⟩ dX7_findRing_19 (by omega) (by decide) rfl hM.obj rfl rfl (Nat.le_of_ble_eq_true rfl) (by omega) (by omega) (fun r h1 p2 => ?_)
          obtain ⟨f, hM, (⟨nf, rfl⟩ | ⟨w, hwr, hlx, rfl, hf⟩)⟩ := p2
          · refine J.wide (k' := 0) (n' := 0) (by omega) (by omega) ?_
            refine j_if_eq E (tgt := 60) dX7_findRing_22 (by decide) (fun c3 => ?_) (fun c3 => ?_)
            ·
              refine j_iinc E dX7_findRing_60 rfl (show nI n + Int32.ofInt 2 = nI (n + 2) from nI_add n 2) (by decide) ?_
              refine j_goto E (tgt := 2) dX7_findRing_63 (by decide) ?_
              refine J.sub [(1, .int (nI (n + 2))), (0, .ref m)] ⟨rfl, rfl, trivial⟩ ?_
              refine ih (n + 2) (by omega) (by omega) (by omega) (by omega) h1 _ hM (fun k h1 h2 => (uA_ne _ _ h1).trans (qI k h1 h2)) (fun k h1 h2 h4 => ?_)
              by_cases e : k = n
              · rw [e]; exact nf
              · exact no k h1 h2 (by omega)
            · exact absurd rfl c3
          · refine J.wide (k' := 0) (n' := 0) (by omega) (by omega) ?_
            refine j_if_eq E (tgt := 60) dX7_findRing_22 (by decide) (fun c3 => ?_) (fun c3 => ?_)
            · exact absurd c3 (by decide)
            ·
              refine j_aload_n E dX7_findRing_25 rfl ?_
              refine j_iload_n E dX7_findRing_26 rfl ?_
              refine j_putfield (ref := "ColourPartsModel") (C := RX7) (T := TX7) (N := 27) (ci := 8) E 25 dX7_findRing_27 iw_X7_findRing_X7 tyX7 tyX7_ok nmX7 rfl (by decide) (by decide +kernel) rfl rfl rfl rfl hM.obj (Nat.le_of_ble_eq_true rfl) ?_
              refine MR.gen (hM.pS 25 _ (by decide) rfl) (fun h hM => ?_)
              refine j_iconst (x := nI 0) E dX7_findRing_30 (by decide) ?_
              refine j_istore_n E dX7_findRing_31 (by decide) ?_
              have copy : ∀ (t k : Nat) (h : HM) (g : Nat → Int32), k + t = n → MR h0 h m a (lZ d) (uA s 25 (nI n)) (uA (uA I1 23 f) 24 g) G → (∀ i, i < k → g i = nI (ow ss (w i))) → J X B D 3 Q h 0 0 32 [(2, .int (nI k)), (1, .int (nI n)), (0, .ref m)] [] := by
                intro t
                induction t with
                | zero =>
                  intro k h g hk hM hg
                  refine j_iload_n E dX7_findRing_32 rfl ?_
                  refine j_iload_n E dX7_findRing_33 rfl ?_
                  refine j_icmp_ge E (tgt := 60) dX7_findRing_34 (by decide) (fun c4 => ?_) (fun c4 => ?_)
                  ·
                    refine j_iinc E dX7_findRing_60 rfl (show nI n + Int32.ofInt 2 = nI (n + 2) from nI_add n 2) (by decide) ?_
                    refine j_goto E (tgt := 2) dX7_findRing_63 (by decide) ?_
                    refine J.sub [(2, .int (nI k)), (1, .int (nI (n + 2))), (0, .ref m)] ⟨rfl, rfl, rfl, trivial⟩ ?_
                    refine j_iload_n E dX7_findRing_2 rfl ?_
                    refine j_aload_n E dX7_findRing_3 rfl ?_
                    refine j_getfield (ref := "ColourPartsModel") (C := RX7) (T := TX7) (N := 27) (ci := 8) E 10 dX7_findRing_4 iw_X7_findRing_X7 rfl (by decide) (by decide +kernel) rfl hM.obj rfl ?_
                    refine J.topi (x' := nI (tS ss ss.length)) (((uA_ne _ _ (by decide)).trans P.1)) ?_
                    have last : J X B D 3 Q h 0 0 66 [(2, .int (nI k)), (1, .int (nI (n + 2))), (0, .ref m)] [] := by
                      rw [← hQ]
                      exact j_vret E dX7_findRing_66 rfl (by omega) (by omega) ⟨rfl, _, _, rgOf ss w n, hM, Or.inr ⟨n, w, h3, ho, hnP, no, hwr, hlx, rfl⟩, (uA_eq _ _ _).trans (by rw [rgOf_len]), fun i hi => by rw [rgOf_len] at hi; rw [rgOf_get hi]; exact (hg i (by omega)), fun k h1 => uA_ne _ _ h1, fun k h1 h2 => (uA_ne _ _ h2).trans ((uA_ne _ _ h1).trans (qI k h1 h2))⟩
                    refine j_icmp_gt E (tgt := 66) dX7_findRing_7 (by decide) (fun c5 => ?_) (fun c5 => ?_)
                    · exact last
                    ·
                      refine j_aload_n E dX7_findRing_10 rfl ?_
                      refine j_getfield (ref := "ColourPartsModel") (C := RX7) (T := TX7) (N := 27) (ci := 8) E 25 dX7_findRing_11 iw_X7_findRing_X7 rfl (by decide) (by decide +kernel) rfl hM.obj rfl ?_
                      refine J.topi (x' := nI n) (uA_eq _ _ _) ?_
                      refine j_if_ne E (tgt := 66) dX7_findRing_14 (by decide) (fun c6 => ?_) (fun c6 => ?_)
                      · exact last
                      · exact absurd ((nI_eq (show n < 2 ^ 31 by omega) (show 0 < 2 ^ 31 by decide)).mp c6) (by omega)
                  · exact absurd (nI_le (show n ≤ k by omega) (by omega)) c4
                | succ t ih2 =>
                  intro k h g hk hM hg
                  refine j_iload_n E dX7_findRing_32 rfl ?_
                  refine j_iload_n E dX7_findRing_33 rfl ?_
                  refine j_icmp_ge E (tgt := 60) dX7_findRing_34 (by decide) (fun c4 => ?_) (fun c4 => ?_)
                  · exact absurd c4 (nI_ge (show k < n by omega) (by omega))
                  · have wk := (hwr k (by omega)).1
                    refine j_aload_n E dX7_findRing_37 rfl ?_
                    refine j_getfield (ref := "ColourPartsModel") (C := RX7) (T := TX7) (N := 27) (ci := 8) E 24 dX7_findRing_38 iw_X7_findRing_X7 rfl (by decide) (by decide +kernel) rfl hM.obj rfl ?_
                    refine j_iload_n E dX7_findRing_41 rfl ?_
                    refine j_aload_n E dX7_findRing_42 rfl ?_
                    refine j_getfield (ref := "ColourPartsModel") (C := RX7) (T := TX7) (N := 27) (ci := 8) E 11 dX7_findRing_43 iw_X7_findRing_X7 rfl (by decide) (by decide +kernel) rfl hM.obj rfl ?_
                    refine j_aload_n E dX7_findRing_46 rfl ?_
                    refine j_getfield (ref := "ColourPartsModel") (C := RX7) (T := TX7) (N := 27) (ci := 8) E 23 dX7_findRing_47 iw_X7_findRing_X7 rfl (by decide) (by decide +kernel) rfl hM.obj rfl ?_
                    refine j_iload_n E dX7_findRing_50 rfl ?_
                    refine j_iaload E k dX7_findRing_51 (hM.gI 23 13 (by decide)) rfl (by omega) (by omega) ?_
                    refine J.topi (x' := nI (w k)) (hf k (by omega)) ?_
                    refine j_iaload E (w k) dX7_findRing_52 (hM.gI 11 12 (by decide)) rfl (by omega) (by omega) ?_
                    refine J.topi (x' := nI (ow ss (w k))) ((P1.2.1 _ wk).1) ?_
                    refine j_iastore E k dX7_findRing_53 (hM.gI 24 12 (by decide)) rfl (by omega) (by omega) ?_
                    refine MR.gen (hM.pI 24 12 _ (by decide)) (fun h hM => ?_)
                    refine j_iinc E dX7_findRing_54 rfl (nI_1 k) (by decide) ?_
                    refine j_goto E (tgt := 32) dX7_findRing_57 (by decide) ?_
                    refine J.sub [(2, .int (nI (k + 1))), (1, .int (nI n)), (0, .ref m)] ⟨rfl, rfl, rfl, trivial⟩ ?_
                    rw [uA_uA] at hM
                    refine ih2 (k + 1) h _ (by omega) hM (fun i hi => ?_)
                    rw [uA_eq]
                    by_cases e : i = k
                    · rw [e]; exact upd_eq
                    · exact (upd_ne e).trans (hg i (by omega))
              refine J.sub [(2, .int (nI 0)), (1, .int (nI n)), (0, .ref m)] ⟨rfl, rfl, rfl, trivial⟩ ?_
              refine copy n 0 h (uA I1 23 f 24) (by omega) ?_ (fun i hi => absurd hi (Nat.not_lt_zero _))
              rw [uA_self]
              exact hM
  refine j_iconst (x := nI 3) E dX7_findRing_0 (by decide) ?_
  refine j_istore_n E dX7_findRing_1 (by decide) ?_
  refine J.sub [(1, .int (nI 3)), (0, .ref m)] ⟨rfl, rfl, trivial⟩ ?_
  exact loop (tS ss ss.length + 2) 3 (by omega) (by omega) (by omega) (by omega) h I hM (fun _ _ _ => rfl) (fun k h1 _ h2 => by omega)
theorem nI_i2l {n : Nat} (hn : n < 1000) : (nI n).toInt64 = lZ (n : Int) := by
  refine Int64.toInt_inj.mp ?_
  rw [Int32.toInt_toInt64, lZ_toInt (by omega) (by omega)]
  exact iZ_toInt (z := (n : Int)) (by omega) (by omega)
theorem fits_bI (p : Prop) : fits .boolean (.int (bI p)) = true := by
  rcases bI_01 p with e | e <;> rw [e] <;> rfl
theorem iw_X7_run_X7 : ∀ w ∈ u_ws RX7 TX7 27, w ∈ wsX7_run := by decide +kernel
theorem m_run (v : Nat) (hM : MR h0 h m a (lZ d) s I G) (A : MA ss s I G) (hw : wfSS ss) (hd : 1 ≤ d ∧ d ≤ 65536) (K : MK kp rg cl s I G) (c : Int32) (t : Int64) : CM l B E0 D yX7_run wsX7_run (v + 6) 0 0 [.ref m, .int c, .long t] h (fun r h1 => (∃ y : Int32, r = some (.int y)) ∧ (∃ s1 I1 G1, MR h0 h1 m a (lZ d) s1 I1 G1 ∧ MA ss s1 I1 G1 ∧ s1 0 = cdRun ss c t ∧ (¬ cdRun ss c t = 0 → MK kp rg cl s1 I1 G1) ∧ (cdRun ss c t = 0 → (¬ lZ (tS ss ss.length : Nat) ≤ t → MK kp rg False s1 I1 G1 ∧ r = some (.int 2)) ∧ (lZ (tS ss ss.length : Nat) ≤ t → ∀ many, many ≤ 4 → c = nI many → ∃ kp1 rg1, runR d ss many kp1 rg1 ∧ MK kp1 rg1 True s1 I1 G1 ∧ ((kp1 = none ∧ r = some (.int 1)) ∨ (¬ kp1 = none ∧ r = some (.int 0))))))) := by
  have hl := hw.1
  have ht := hw.2.1
  refine CM.of (cc := cX7_run) (maxL := 5) (ret := (some .int)) (by decide) rfl (Nat.le_of_ble_eq_true rfl) (fun X E hin => ?_)
  show J X B D 5 _ h 0 0 0 [(0, .ref m), (1, .int c), (2, .long t)] []
  generalize hQ : jQ X B D _ _ _ = Q
  have tail : ∀ x, x = cdRun ss c t → (x = 0 ∨ 0 < x) → J X B D 5 Q h 0 0 33 [(0, .ref m), (1, .int c), (2, .long t)] [.int x, .ref m] := by
    intro x hx hx2
    refine j_putfield (ref := "ColourPartsModel") (C := RX7) (T := TX7) (N := 27) (ci := 8) E 0 dX7_run_33 iw_X7_run_X7 tyX7 tyX7_ok nmX7 rfl (by decide) (by decide +kernel) rfl rfl rfl rfl hM.obj (Nat.le_of_ble_eq_true rfl) ?_
    refine MR.gen (hM.pS 0 _ (by decide) rfl) (fun h hM => ?_)
    refine j_aload_n E dX7_run_36 rfl ?_
    refine j_getfield (ref := "ColourPartsModel") (C := RX7) (T := TX7) (N := 27) (ci := 8) E 0 dX7_run_37 iw_X7_run_X7 rfl (by decide) (by decide +kernel) rfl hM.obj rfl ?_
    refine J.topi (x' := x) (uA_eq _ _ _) ?_
    have K1 : MK kp rg cl (uA s 0 x) I G := K.keep ⟨rfl, rfl, rfl, rfl, rfl⟩ ⟨rfl, rfl, rfl⟩ rfl
    have A1 : MA ss (uA s 0 x) I G := A.keep rfl ⟨rfl, rfl, rfl, rfl⟩ ⟨rfl, rfl, rfl⟩
    refine j_if_le E (tgt := 45) dX7_run_40 (by decide) (fun c1 => ?_) (fun c1 => ?_)
    · have hx0 := hx2.resolve_right (fun z => Int32.not_le.mpr z c1)
      have hcd : cdRun ss c t = 0 := hx.symm.trans hx0
      refine j_aload_n E dX7_run_45 rfl ?_
      refine j_aload_n E dX7_run_46 rfl ?_
      refine j_callV (np := 0) (C := RX7) (T := TX7) (N := 27) (ci := 8) E (m_allPieces (v + 4) hM A1 hw.1) gX7_run_X7_allPieces rfl ⟨rfl, by decide, by decide, by decide +kernel⟩ dX7_run_47 (by omega) (by decide) rfl hM.obj rfl rfl (Nat.le_of_ble_eq_true rfl) (by omega) (by omega) (fun r9 h9 p9 => J.pure p9 ?_)
      refine J.wide (k' := 0) (n' := 0) (by omega) (by omega) ?_
      refine j_i2l E dX7_run_50 ?_
      refine J.topl (x' := lZ (tS ss ss.length : Nat)) (nI_i2l (by omega)) ?_
      refine j_lload_n E dX7_run_51 rfl ?_
      refine j_lcmp E dX7_run_52 ?_
      have set : ∀ q : Prop, (q ↔ lZ (tS ss ss.length : Nat) ≤ t) → J X B D 5 Q h 0 0 61 [(0, .ref m), (1, .int c), (2, .long t)] [.int (bI q), .ref m] := by
        intro q hq
        refine j_putfield (ref := "ColourPartsModel") (C := RX7) (T := TX7) (N := 27) (ci := 8) E 26 dX7_run_61 iw_X7_run_X7 tyX7 tyX7_ok nmX7 rfl (by decide) (by decide +kernel) rfl rfl (nb_bI _) (fits_bI _) hM.obj (Nat.le_of_ble_eq_true rfl) ?_
        refine MR.gen (hM.pS 26 _ (by decide) rfl) (fun h hM => ?_)
        refine j_aload_n E dX7_run_64 rfl ?_
        refine j_getfield (ref := "ColourPartsModel") (C := RX7) (T := TX7) (N := 27) (ci := 8) E 26 dX7_run_65 iw_X7_run_X7 rfl (by decide) (by decide +kernel) rfl hM.obj rfl ?_
        refine J.topi (x' := bI q) (uA_eq _ _ _) ?_
        refine j_if_ne E (tgt := 73) dX7_run_68 (by decide) (fun c2 => ?_) (fun c2 => ?_)
        · have hq1 := hq.mp (bI_n.mp c2)
          have hb1 : bI q = 1 := bI_t (bI_n.mp c2)
          rw [hb1] at hM
          refine j_aload_n E dX7_run_73 rfl ?_
          refine j_callV (np := 0) (C := RX7) (T := TX7) (N := 27) (ci := 8) E (m_part (v + 1) hM (A1.keep rfl ⟨rfl, rfl, rfl, rfl⟩ ⟨rfl, rfl, rfl⟩) hw hd) gX7_run_X7_part rfl ⟨rfl, by decide, by decide, by decide +kernel⟩ dX7_run_74 (by omega) (by decide) rfl hM.obj rfl rfl (Nat.le_of_ble_eq_true rfl) (by omega) (by omega) (fun r h1 p2 => ?_)
          obtain ⟨rfl, s1, I1, G1, hM, P, qs, qI, hG⟩ := p2
          refine J.wide (k' := 0) (n' := 0) (by omega) (by omega) ?_
          have hcm : ¬ (c < 2 ∨ nI 4 < c ∨ t < 0) := fun z => by
            by_cases e : opS ss
            · rw [cdRun, cI_t e] at hcd; exact absurd hcd (by decide)
            · rw [cdRun, cI_f e, cI_t z] at hcd; exact absurd hcd (by decide)
          obtain ⟨many, hm0, hcmy⟩ := nI_of (x := c) (fun z => hcm (Or.inl (Int32.lt_trans z (by decide))))
          have hm4 : many ≤ 4 := Nat.not_lt.mp (fun z => hcm (Or.inr (Or.inl (by rw [hcmy]; exact nI_lt z hm0))))
          subst hcmy
          refine j_aload_n E dX7_run_77 rfl ?_
          refine j_iconst (x := nI 0) E dX7_run_78 (by decide) ?_
          refine j_putfield (ref := "ColourPartsModel") (C := RX7) (T := TX7) (N := 27) (ci := 8) E 17 dX7_run_79 iw_X7_run_X7 tyX7 tyX7_ok nmX7 rfl (by decide) (by decide +kernel) rfl rfl rfl rfl hM.obj (Nat.le_of_ble_eq_true rfl) ?_
          refine MR.gen (hM.pS 17 _ (by decide) rfl) (fun h hM => ?_)
          refine j_aload_n E dX7_run_82 rfl ?_
          refine j_iconst (x := nI 0) E dX7_run_83 (by decide) ?_
          refine j_putfield (ref := "ColourPartsModel") (C := RX7) (T := TX7) (N := 27) (ci := 8) E 25 dX7_run_84 iw_X7_run_X7 tyX7 tyX7_ok nmX7 rfl (by decide) (by decide +kernel) rfl rfl rfl rfl hM.obj (Nat.le_of_ble_eq_true rfl) ?_
          refine MR.gen (hM.pS 25 _ (by decide) rfl) (fun h hM => ?_)
          refine j_iconst (x := nI 0) E dX7_run_87 (by decide) ?_
          refine j_istore E dX7_run_88 (by decide) ?_
          have X1 : uA (uA s1 17 (nI 0)) 25 (nI 0) 0 = cdRun ss (nI many) t ∧ uA (uA s1 17 (nI 0)) 25 (nI 0) 2 = s 2 ∧ uA (uA s1 17 (nI 0)) 25 (nI 0) 10 = s1 10 ∧ uA (uA s1 17 (nI 0)) 25 (nI 0) 17 = 0 ∧ uA (uA s1 17 (nI 0)) 25 (nI 0) 25 = 0 ∧ uA (uA s1 17 (nI 0)) 25 (nI 0) 26 = 1 := ⟨(qs 0 (by decide)).trans hx, (qs 2 (by decide)).trans rfl, rfl, rfl, rfl, (qs 26 (by decide)).trans rfl⟩
          generalize uA (uA s1 17 (nI 0)) 25 (nI 0) = s2 at hM X1
          obtain ⟨x0, x2, x10, x17, x25, x26⟩ := X1
          have P2 : MP d ss s2 I1 := P.keep x10 ⟨rfl, rfl, rfl⟩
          have A2 : MA ss s2 I1 G1 := A.keep x2 ⟨qI 5 (by decide) (by decide) (by decide), qI 6 (by decide) (by decide) (by decide), qI 8 (by decide) (by decide) (by decide), qI 9 (by decide) (by decide) (by decide)⟩ ⟨hG 3 (by decide) (by decide), hG 4 (by decide) (by decide), hG 7 (by decide) (by decide)⟩
          have fin : ∀ (h : HM) (s3 : Nat → Int32) (I3 : Nat → Nat → Int32) (G3 : Nat → Nat → Int64) (kp1 : Option KPs) (rg1 : List Nat) (z : Value), MR h0 h m a (lZ d) s3 I3 G3 → MA ss s3 I3 G3 → s3 0 = cdRun ss (nI many) t → runR d ss many kp1 rg1 → MK kp1 rg1 True s3 I3 G3 → J X B D 5 Q h 0 0 140 [(0, .ref m), (1, .int (nI many)), (2, .long t)] [] := by
            intro h s3 I3 G3 kp1 rg1 z hM A3 e0 R1 K3
            cases kp1 with
            | none =>
              refine j_aload_n E dX7_run_140 rfl ?_
              refine j_getfield (ref := "ColourPartsModel") (C := RX7) (T := TX7) (N := 27) (ci := 8) E 17 dX7_run_141 iw_X7_run_X7 rfl (by decide) (by decide +kernel) rfl hM.obj rfl ?_
              refine J.topi (x' := (0 : Int32)) (K3.2.2.2.1 rfl) ?_
              refine j_if_eq E (tgt := 151) dX7_run_144 (by decide) (fun c7 => ?_) (fun c7 => ?_)
              ·
                refine j_iconst (x := nI 1) E dX7_run_151 (by decide) ?_
                rw [← hQ]
                exact j_iret E dX7_run_152 rfl rfl (by omega) (by omega) ⟨⟨_, rfl⟩, ⟨_, _, _, hM, A3, e0, fun z => absurd hcd z, fun _ => ⟨fun z => absurd hq1 z, fun _ many2 h2 h3 => ⟨none, rg1, by rw [← (nI_eq (by omega) (by omega)).mp h3]; exact R1, K3, Or.inl ⟨rfl, rfl⟩⟩⟩⟩⟩
              · exact absurd rfl c7
            | some ps =>
              refine j_aload_n E dX7_run_140 rfl ?_
              refine j_getfield (ref := "ColourPartsModel") (C := RX7) (T := TX7) (N := 27) (ci := 8) E 17 dX7_run_141 iw_X7_run_X7 rfl (by decide) (by decide +kernel) rfl hM.obj rfl ?_
              refine J.topi (x' := (1 : Int32)) ((K3.2.2.2.2 ps rfl).1) ?_
              refine j_if_eq E (tgt := 151) dX7_run_144 (by decide) (fun c7 => ?_) (fun c7 => ?_)
              · exact absurd c7 (by decide)
              ·
                refine j_iconst (x := nI 0) E dX7_run_147 (by decide) ?_
                refine j_goto E (tgt := 152) dX7_run_148 (by decide) ?_
                rw [← hQ]
                exact j_iret E dX7_run_152 rfl rfl (by omega) (by omega) ⟨⟨_, rfl⟩, ⟨_, _, _, hM, A3, e0, fun z => absurd hcd z, fun _ => ⟨fun z => absurd hq1 z, fun _ many2 h2 h3 => ⟨some ps, rg1, by rw [← (nI_eq (by omega) (by omega)).mp h3]; exact R1, K3, Or.inr ⟨(by intro z; cases z), rfl⟩⟩⟩⟩⟩
          have none_ : ∀ (h : HM) (I3 : Nat → Nat → Int32), MR h0 h m a (lZ d) s2 I3 G1 → (∀ k, k ≠ 16 → I3 k = I1 k) → (∀ k, k < 12 → ∀ w, ¬ FV d ss many k w) → J X B D 5 Q h 0 0 124 [(0, .ref m), (1, .int (nI many)), (2, .long t)] [] := by
            intro h I3 hM qJ no
            have P3 : MP d ss s2 I3 := P2.keep rfl ⟨qJ 11 (by decide), qJ 12 (by decide), qJ 13 (by decide)⟩
            have A3 : MA ss s2 I3 G1 := A2.keep rfl ⟨qJ 5 (by decide), qJ 6 (by decide), qJ 8 (by decide), qJ 9 (by decide)⟩ ⟨rfl, rfl, rfl⟩
            refine j_aload_n E dX7_run_124 rfl ?_
            refine j_getfield (ref := "ColourPartsModel") (C := RX7) (T := TX7) (N := 27) (ci := 8) E 17 dX7_run_125 iw_X7_run_X7 rfl (by decide) (by decide +kernel) rfl hM.obj rfl ?_
            refine J.topi (x' := (0 : Int32)) (x17) ?_
            refine j_if_ne E (tgt := 140) dX7_run_128 (by decide) (fun c7 => ?_) (fun c7 => ?_)
            · exact absurd rfl c7
            ·
              refine j_iload_n E dX7_run_131 rfl ?_
              refine j_iconst (x := nI 2) E dX7_run_132 (by decide) ?_
              refine j_icmp_ne E (tgt := 140) dX7_run_133 (by decide) (fun c8 => ?_) (fun c8 => ?_)
              · have ne : ¬ many = 2 := fun z => c8 (congrArg nI z)
                refine fin h s2 I3 G1 none [] (.int 0) hM A3 x0 (Or.inr ⟨no, rfl, fun z => absurd z ne, fun _ => rfl⟩) ⟨x26.trans (bI_t trivial).symm, x25, fun k hk => absurd hk (Nat.not_lt_zero _), fun _ => x17, fun ps z => (by cases z)⟩
              · have e2 : many = 2 := (nI_eq hm0 (by decide)).mp c8
                refine j_aload_n E dX7_run_136 rfl ?_
                refine j_callV (np := 0) (C := RX7) (T := TX7) (N := 27) (ci := 8) E (m_findRing (v + 2) hM P3 hw x25) gX7_run_X7_findRing rfl ⟨rfl, by decide, by decide, by decide +kernel⟩ dX7_run_137 (by omega) (by decide) rfl hM.obj rfl rfl (Nat.le_of_ble_eq_true rfl) (by omega) (by omega) (fun r h1 p2 => ?_)
                obtain ⟨rfl, s3, I4, rg1, hM, R1, z25, z24, qs3, qI3⟩ := p2
                refine J.wide (k' := 0) (n' := 0) (by omega) (by omega) ?_
                refine fin h1 s3 I4 G1 none rg1 (.int 0) hM (A3.keep (qs3 2 (by decide)) ⟨qI3 5 (by decide) (by decide), qI3 6 (by decide) (by decide), qI3 8 (by decide) (by decide), qI3 9 (by decide) (by decide)⟩ ⟨rfl, rfl, rfl⟩) ((qs3 0 (by decide)).trans x0) (Or.inr ⟨no, rfl, fun _ => R1, fun z => absurd e2 z⟩) ⟨((qs3 26 (by decide)).trans x26).trans (bI_t trivial).symm, z25, z24, fun _ => (qs3 17 (by decide)).trans x17, fun ps z => (by cases z)⟩
          have loop : ∀ (t2 j : Nat) (h : HM) (I3 : Nat → Nat → Int32), j + t2 = 12 → MR h0 h m a (lZ d) s2 I3 G1 → (∀ k, k ≠ 16 → I3 k = I1 k) → (∀ k, k < j → ∀ w, ¬ FV d ss many k w) → J X B D 5 Q h 0 0 90 [(4, .int (nI j)), (0, .ref m), (1, .int (nI many)), (2, .long t)] [] := by
            intro t2
            induction t2 with
            | zero =>
              intro j h I3 hj hM qJ no
              refine j_iload E dX7_run_90 rfl ?_
              refine j_bipush (x := nI 12) E dX7_run_92 (by decide) ?_
              refine j_icmp_ge E (tgt := 124) dX7_run_94 (by decide) (fun c7 => ?_) (fun c7 => ?_)
              · refine J.sub [(0, .ref m), (1, .int (nI many)), (2, .long t)] ⟨rfl, rfl, rfl, trivial⟩ ?_
                exact none_ h I3 hM qJ (fun k hk => no k (by omega))
              · exact absurd (nI_le (show 12 ≤ j by omega) (by omega)) c7
            | succ t2 ih =>
              intro j h I3 hj hM qJ no
              have P3 : MP d ss s2 I3 := P2.keep rfl ⟨qJ 11 (by decide), qJ 12 (by decide), qJ 13 (by decide)⟩
              have A3 : MA ss s2 I3 G1 := A2.keep rfl ⟨qJ 5 (by decide), qJ 6 (by decide), qJ 8 (by decide), qJ 9 (by decide)⟩ ⟨rfl, rfl, rfl⟩
              refine j_iload E dX7_run_90 rfl ?_
              refine j_bipush (x := nI 12) E dX7_run_92 (by decide) ?_
              refine j_icmp_ge E (tgt := 124) dX7_run_94 (by decide) (fun c7 => ?_) (fun c7 => ?_)
              · exact absurd c7 (nI_ge (show j < 12 by omega) (by decide))
              ·
                refine j_aload_n E dX7_run_97 rfl ?_
                refine j_getfield (ref := "ColourPartsModel") (C := RX7) (T := TX7) (N := 27) (ci := 8) E 17 dX7_run_98 iw_X7_run_X7 rfl (by decide) (by decide +kernel) rfl hM.obj rfl ?_
                refine J.topi (x' := (0 : Int32)) (x17) ?_
                refine j_if_ne E (tgt := 124) dX7_run_101 (by decide) (fun c8 => ?_) (fun c8 => ?_)
                · exact absurd rfl c8
                ·
                  refine j_aload_n E dX7_run_104 rfl ?_
                  refine j_iload_n E dX7_run_105 rfl ?_
                  refine j_iload E dX7_run_106 rfl ?_
                  refine j_callV (np := 2) (C := RX7) (T := TX7) (N := 27) (ci := 8) E (m_isFound (v + 2) hM A3 P3 hw (show many < 100 by omega) (show j < 100 by omega)) gX7_run_X7_isFound rfl ⟨rfl, by decide, by decide, by decide +kernel⟩ dX7_run_108 (by omega) (by decide) rfl hM.obj rfl rfl (Nat.le_of_ble_eq_true rfl) (by omega) (by omega) (fun r h1 p2 => ?_)
                  obtain ⟨f, hM, (⟨nf, rfl⟩ | ⟨w, hfv, hlx, rfl, hf⟩)⟩ := p2
                  · refine J.wide (k' := 0) (n' := 0) (by omega) (by omega) ?_
                    refine j_if_eq E (tgt := 118) dX7_run_111 (by decide) (fun c9 => ?_) (fun c9 => ?_)
                    ·
                      refine j_iinc E dX7_run_118 rfl (nI_1 j) (by decide) ?_
                      refine j_goto E (tgt := 90) dX7_run_121 (by decide) ?_
                      refine J.sub [(4, .int (nI (j + 1))), (0, .ref m), (1, .int (nI many)), (2, .long t)] ⟨rfl, rfl, rfl, rfl, trivial⟩ ?_
                      refine ih (j + 1) h1 _ (by omega) hM (fun k hk => (uA_ne _ _ hk).trans (qJ k hk)) (fun k hk => ?_)
                      by_cases e : k = j
                      · rw [e]; exact nf
                      · exact no k (by omega)
                    · exact absurd rfl c9
                  · refine J.wide (k' := 0) (n' := 0) (by omega) (by omega) ?_
                    refine j_if_eq E (tgt := 118) dX7_run_111 (by decide) (fun c9 => ?_) (fun c9 => ?_)
                    · exact absurd c9 (by decide)
                    ·
                      refine j_aload_n E dX7_run_114 rfl ?_
                      refine j_callV (np := 0) (C := RX7) (T := TX7) (N := 27) (ci := 8) E (m_keep (v + 1) hM (A3.keep rfl ⟨rfl, rfl, rfl, rfl⟩ ⟨rfl, rfl, rfl⟩) (P3.keep rfl ⟨rfl, rfl, rfl⟩) hw (w := w) (fun i hi => ⟨(congrFun (uA_eq _ _ _) i).trans (hf i hi), by have := (hfv i hi).1; omega⟩) x26 x25) gX7_run_X7_keep rfl ⟨rfl, by decide, by decide, by decide +kernel⟩ dX7_run_115 (by omega) (by decide) rfl hM.obj rfl rfl (Nat.le_of_ble_eq_true rfl) (by omega) (by omega) (fun r h2 p3 => ?_)
                      obtain ⟨rfl, s4, I4, G4, hM, K4, q4, qI4, qG4⟩ := p3
                      refine J.wide (k' := 0) (n' := 0) (by omega) (by omega) ?_
                      have A4 : MA ss s4 I4 G4 := A3.keep (q4 2 (by decide) (by decide) (by decide)) ⟨(qI4 5 (by decide) (by decide)).trans (uA_ne _ _ (by decide)), (qI4 6 (by decide) (by decide)).trans (uA_ne _ _ (by decide)), (qI4 8 (by decide) (by decide)).trans (uA_ne _ _ (by decide)), (qI4 9 (by decide) (by decide)).trans (uA_ne _ _ (by decide))⟩ ⟨qG4 3 (by decide) (by decide) (by decide), qG4 4 (by decide) (by decide) (by decide), qG4 7 (by decide) (by decide) (by decide)⟩
                      have k17 : s4 17 = 1 := (K4.2.2.2.2 _ rfl).1
                      have out : J X B D 5 Q h2 0 0 124 [(4, .int (nI (j + 1))), (0, .ref m), (1, .int (nI many)), (2, .long t)] [] := by
                        refine j_aload_n E dX7_run_124 rfl ?_
                        refine j_getfield (ref := "ColourPartsModel") (C := RX7) (T := TX7) (N := 27) (ci := 8) E 17 dX7_run_125 iw_X7_run_X7 rfl (by decide) (by decide +kernel) rfl hM.obj rfl ?_
                        refine J.topi (x' := (1 : Int32)) (k17) ?_
                        refine j_if_ne E (tgt := 140) dX7_run_128 (by decide) (fun c10 => ?_) (fun c10 => ?_)
                        · refine J.sub [(0, .ref m), (1, .int (nI many)), (2, .long t)] ⟨rfl, rfl, rfl, trivial⟩ ?_
                          exact fin h2 s4 I4 G4 _ [] (.int 0) hM A4 ((q4 0 (by decide) (by decide) (by decide)).trans x0) (Or.inl ⟨j, w, by omega, no, hfv, hlx, rfl, rfl⟩) K4
                        · exact absurd c10 (by decide)
                      refine j_iinc E dX7_run_118 rfl (nI_1 j) (by decide) ?_
                      refine j_goto E (tgt := 90) dX7_run_121 (by decide) ?_
                      refine J.sub [(4, .int (nI (j + 1))), (0, .ref m), (1, .int (nI many)), (2, .long t)] ⟨rfl, rfl, rfl, rfl, trivial⟩ ?_
                      refine j_iload E dX7_run_90 rfl ?_
                      refine j_bipush (x := nI 12) E dX7_run_92 (by decide) ?_
                      refine j_icmp_ge E (tgt := 124) dX7_run_94 (by decide) (fun c10 => ?_) (fun c10 => ?_)
                      · exact out
                      ·
                        refine j_aload_n E dX7_run_97 rfl ?_
                        refine j_getfield (ref := "ColourPartsModel") (C := RX7) (T := TX7) (N := 27) (ci := 8) E 17 dX7_run_98 iw_X7_run_X7 rfl (by decide) (by decide +kernel) rfl hM.obj rfl ?_
                        refine J.topi (x' := (1 : Int32)) (k17) ?_
                        refine j_if_ne E (tgt := 124) dX7_run_101 (by decide) (fun c11 => ?_) (fun c11 => ?_)
                        · exact out
                        · exact absurd c11 (by decide)
          refine J.sub [(4, .int (nI 0)), (0, .ref m), (1, .int (nI many)), (2, .long t)] ⟨rfl, rfl, rfl, rfl, trivial⟩ ?_
          exact loop 12 0 h I1 (by omega) hM (fun _ _ => rfl) (fun k hk => absurd hk (Nat.not_lt_zero _))
        · have nq := bI_z.mp c2
          refine j_iconst (x := nI 2) E dX7_run_71 (by decide) ?_
          rw [← hQ]
          exact j_iret E dX7_run_72 rfl rfl (by omega) (by omega) ⟨⟨_, rfl⟩, ⟨_, _, _, hM, A1.keep rfl ⟨rfl, rfl, rfl, rfl⟩ ⟨rfl, rfl, rfl⟩, ((uA_ne _ _ (by decide)).trans (uA_eq _ _ _)).trans hx, fun z => absurd hcd z, fun _ => ⟨fun z => ⟨⟨(uA_eq _ _ _).trans (by rw [bI_f nq, bI_f id]), K1.2⟩, rfl⟩, fun z => absurd (hq.mpr z) nq⟩⟩⟩
      refine j_if_gt E (tgt := 60) dX7_run_53 (by decide) (fun c2 => ?_) (fun c2 => ?_)
      ·
        refine j_iconst (x := nI 0) E dX7_run_60 (by decide) ?_
        refine J.topi (x' := bI False) ((bI_f id).symm) ?_
        exact set False ⟨fun z => z.elim, fun z => (Int64.not_lt.mpr z) (cmp_gt.mp c2)⟩
      ·
        refine j_iconst (x := nI 1) E dX7_run_56 (by decide) ?_
        refine J.topi (x' := bI True) ((bI_t trivial).symm) ?_
        refine j_goto E (tgt := 61) dX7_run_57 (by decide) ?_
        exact set True ⟨fun _ => Int64.not_lt.mp (fun z => c2 (cmp_gt.mpr z)), fun _ => trivial⟩
    · have hne : ¬ cdRun ss c t = 0 := fun z => c1 (by rw [hx, z]; exact Int32.le_refl _)
      refine j_iconst (x := nI 0) E dX7_run_43 (by decide) ?_
      rw [← hQ]
      exact j_iret E dX7_run_44 rfl rfl (by omega) (by omega) ⟨⟨_, rfl⟩, ⟨_, _, _, hM, A1, (uA_eq _ _ _).trans hx, fun _ => K1, fun z => absurd z hne⟩⟩
  refine j_aload_n E dX7_run_0 rfl ?_
  refine j_aload_n E dX7_run_1 rfl ?_
  refine j_callV (np := 0) (C := RX7) (T := TX7) (N := 27) (ci := 8) E (m_isOpen (v + 4) hM A hw) gX7_run_X7_isOpen rfl ⟨rfl, by decide, by decide, by decide +kernel⟩ dX7_run_2 (by omega) (by decide) rfl hM.obj rfl rfl (Nat.le_of_ble_eq_true rfl) (by omega) (by omega) (fun r9 h9 p9 => J.pure p9 ?_)
  refine J.wide (k' := 0) (n' := 0) (by omega) (by omega) ?_
  have bad : ¬ opS ss → (c < 2 ∨ nI 4 < c ∨ t < 0) → J X B D 5 Q h 0 0 28 [(0, .ref m), (1, .int c), (2, .long t)] [.ref m] := by
    intro h1 h2
    refine j_iconst (x := nI 2) E dX7_run_28 (by decide) ?_
    refine j_goto E (tgt := 33) dX7_run_29 (by decide) ?_
    exact tail 2 (by rw [cdRun, cI_f h1, cI_t h2]) (Or.inr (by decide))
  refine j_if_eq E (tgt := 12) dX7_run_5 (by decide) (fun c1 => ?_) (fun c1 => ?_)
  · have no := bI_z.mp c1
    refine j_iload_n E dX7_run_12 rfl ?_
    refine j_iconst (x := nI 2) E dX7_run_13 (by decide) ?_
    refine j_icmp_lt E (tgt := 28) dX7_run_14 (by decide) (fun c2 => ?_) (fun c2 => ?_)
    · exact bad no (Or.inl c2)
    ·
      refine j_iload_n E dX7_run_17 rfl ?_
      refine j_iconst (x := nI 4) E dX7_run_18 (by decide) ?_
      refine j_icmp_gt E (tgt := 28) dX7_run_19 (by decide) (fun c3 => ?_) (fun c3 => ?_)
      · exact bad no (Or.inr (Or.inl c3))
      ·
        refine j_lload_n E dX7_run_22 rfl ?_
        refine j_lconst (x := lZ 0) E dX7_run_23 (by decide) ?_
        refine j_lcmp E dX7_run_24 ?_
        refine j_if_ge E (tgt := 32) dX7_run_25 (by decide) (fun c4 => ?_) (fun c4 => ?_)
        ·
          refine j_iconst (x := nI 0) E dX7_run_32 (by decide) ?_
          exact tail 0 (by rw [cdRun, cI_f no, cI_f (fun z => z.elim c2 (fun z => z.elim c3 (fun z => Int64.not_lt.mpr (cmp_ge.mp c4) z)))]) (Or.inl rfl)
        · exact bad no (Or.inr (Or.inr (cmp_lt.mp (Int32.not_le.mp c4))))
  ·
    refine j_iconst (x := nI 1) E dX7_run_8 (by decide) ?_
    refine j_goto E (tgt := 33) dX7_run_9 (by decide) ?_
    exact tail 1 (by rw [cdRun, cI_t (bI_n.mp c1)]) (Or.inr (by decide))
end M13
