/-! the kept colouring, the ring -/
noncomputable def kpOf (ss : List SH) (w : Nat → Nat) : KPs := (List.range (tS ss ss.length)).map (fun p => (ow ss p, w p, ar ss p))
theorem kpOf_len {ss : List SH} {w : Nat → Nat} : (kpOf ss w).length = tS ss ss.length := by unfold kpOf; rw [List.length_map, List.length_range]
theorem kpOf_get {ss : List SH} {w : Nat → Nat} {k : Nat} (hk : k < tS ss ss.length) : (kpOf ss w).getD k (0, 0, 0) = (ow ss k, w k, ar ss k) := by
  unfold kpOf
  rw [List.getD_eq_getElem?_getD, List.getElem?_map, List.getElem?_range hk]; rfl
theorem kpOf_S {ss : List SH} {w : Nat → Nat} {k : Nat} (hk : k < tS ss ss.length) : kS (kpOf ss w) k = ow ss k := by unfold kS; rw [kpOf_get hk]
theorem kpOf_C {ss : List SH} {w : Nat → Nat} {k : Nat} (hk : k < tS ss ss.length) : kC (kpOf ss w) k = w k := by unfold kC; rw [kpOf_get hk]
theorem kpOf_A {ss : List SH} {w : Nat → Nat} {k : Nat} (hk : k < tS ss ss.length) : kA (kpOf ss w) k = ar ss k := by unfold kA; rw [kpOf_get hk]
theorem kpOf_u {ss : List SH} {w : Nat → Nat} : uC (kS (kpOf ss w)) (kC (kpOf ss w)) (kpOf ss w).length = uC (ow ss) w (tS ss ss.length) := by
  rw [kpOf_len]
  exact uC_congr (fun k hk => ⟨kpOf_S hk, kpOf_C hk⟩)
/-- step k of a closed walk over n pieces -/
def stepW (d : Int) (ss : List SH) (n : Nat) (w : Nat → Nat) (k : Nat) : Prop := (k = 0 ∨ NR d ss (w (k - 1)) (w k)) ∧ (∀ i, i < k → ¬ w i = w k) ∧ (k + 1 < n ∨ NR d ss (w k) (w 0))
def okR (d : Int) (ss : List SH) (n : Nat) (w : Nat → Nat) (k : Nat) : Prop := w k < tS ss ss.length ∧ stepW d ss n w k
theorem stepW_congr {d : Int} {ss : List SH} {n k : Nat} {w v : Nat → Nat} (h : ∀ i, i < k + 1 → w i = v i) : stepW d ss n w k ↔ stepW d ss n v k := by
  unfold stepW
  rw [h k (by omega), h (k - 1) (by omega), h 0 (by omega)]
  refine and_congr Iff.rfl (and_congr ⟨fun z i hi => ?_, fun z i hi => ?_⟩ Iff.rfl)
  · rw [← h i (by omega)]; exact z i hi
  · rw [h i (by omega)]; exact z i hi
def WR (d : Int) (ss : List SH) (n : Nat) (w : Nat → Nat) : Prop := ∀ k, k < n → okR d ss n w k
section M11
variable {l : Launch} {B E0 : Nat} {D : va_G} {h0 h : HM} {m : Nat} {a : Nat → Nat} {d : Int} {s : Nat → Int32} {I : Nat → Nat → Int32} {G : Nat → Nat → Int64} {ss : List SH} {kp : Option KPs} {rg : List Nat} {cl : Prop}
theorem iw_X7_keep_X7 : ∀ w ∈ u_ws RX7 TX7 27, w ∈ wsX7_keep := by decide +kernel
theorem m_keep (v : Nat) (hM : MR h0 h m a (lZ d) s I G) (A : MA ss s I G) (P : MP d ss s I) (hw : wfSS ss) {w : Nat → Nat} (hc : ∀ i, i < tS ss ss.length → I 16 i = nI (w i) ∧ w i < 100) (hcl : s 26 = 1) (hrg : s 25 = 0) : CM l B E0 D yX7_keep wsX7_keep (v + 4) 0 0 [.ref m] h (fun r h1 => r = none ∧ ∃ s1 I1 G1, MR h0 h1 m a (lZ d) s1 I1 G1 ∧ MK (some (kpOf ss w)) [] True s1 I1 G1 ∧ (∀ k, k ≠ 17 → k ≠ 18 → k ≠ 19 → s1 k = s k) ∧ (∀ k, k ≠ 20 → k ≠ 21 → I1 k = I k) ∧ ∀ k, k ≠ 14 → k ≠ 15 → k ≠ 22 → G1 k = G k) := by
  have hl := hw.1
  have ht := hw.2.1
  refine CM.of (cc := cX7_keep) (maxL := 2) (ret := none) (by decide) rfl (Nat.le_of_ble_eq_true rfl) (fun X E hin => ?_)
  show J X B D 2 _ h 0 0 0 [(0, .ref m)] []
  generalize hQ : jQ X B D _ _ _ = Q
  refine j_aload_n E dX7_keep_0 rfl ?_
  refine j_iconst (x := nI 1) E dX7_keep_1 (by decide) ?_
  refine j_putfield (ref := "ColourPartsModel") (C := RX7) (T := TX7) (N := 27) (ci := 8) E 17 dX7_keep_2 iw_X7_keep_X7 tyX7 tyX7_ok nmX7 rfl (by decide) (by decide +kernel) rfl rfl rfl rfl hM.obj (Nat.le_of_ble_eq_true rfl) ?_
  refine MR.gen (hM.pS 17 _ (by decide) rfl) (fun h hM => ?_)
  refine j_aload_n E dX7_keep_5 rfl ?_
  refine j_aload_n E dX7_keep_6 rfl ?_
  refine j_getfield (ref := "ColourPartsModel") (C := RX7) (T := TX7) (N := 27) (ci := 8) E 10 dX7_keep_7 iw_X7_keep_X7 rfl (by decide) (by decide +kernel) rfl hM.obj rfl ?_
  refine J.topi (x' := nI (tS ss ss.length)) (P.1) ?_
  refine j_putfield (ref := "ColourPartsModel") (C := RX7) (T := TX7) (N := 27) (ci := 8) E 18 dX7_keep_10 iw_X7_keep_X7 tyX7 tyX7_ok nmX7 rfl (by decide) (by decide +kernel) rfl rfl rfl rfl hM.obj (Nat.le_of_ble_eq_true rfl) ?_
  refine MR.gen (hM.pS 18 _ (by decide) rfl) (fun h hM => ?_)
  refine j_aload_n E dX7_keep_13 rfl ?_
  refine j_aload_n E dX7_keep_14 rfl ?_
  refine j_aload_n E dX7_keep_15 rfl ?_
  refine j_getfield (ref := "ColourPartsModel") (C := RX7) (T := TX7) (N := 27) (ci := 8) E 10 dX7_keep_16 iw_X7_keep_X7 rfl (by decide) (by decide +kernel) rfl hM.obj rfl ?_
  refine J.topi (x' := nI (tS ss ss.length)) (P.1) ?_
  refine j_callV (np := 1) (C := RX7) (T := TX7) (N := 27) (ci := 8) E (m_usedUpTo (v + 2) hM (P.keep rfl ⟨rfl, rfl, rfl⟩) hw (Nat.le_refl _) hc) gX7_keep_X7_usedUpTo rfl ⟨rfl, by decide, by decide, by decide +kernel⟩ dX7_keep_19 (by omega) (by decide) rfl hM.obj rfl rfl (Nat.le_of_ble_eq_true rfl) (by omega) (by omega) (fun r9 h9 p9 => J.pure p9 ?_)
  refine J.wide (k' := 0) (n' := 0) (by omega) (by omega) ?_
  refine j_putfield (ref := "ColourPartsModel") (C := RX7) (T := TX7) (N := 27) (ci := 8) E 19 dX7_keep_22 iw_X7_keep_X7 tyX7 tyX7_ok nmX7 rfl (by decide) (by decide +kernel) rfl rfl rfl rfl hM.obj (Nat.le_of_ble_eq_true rfl) ?_
  refine MR.gen (hM.pS 19 _ (by decide) rfl) (fun h hM => ?_)
  refine j_iconst (x := nI 0) E dX7_keep_25 (by decide) ?_
  refine j_istore_n E dX7_keep_26 (by decide) ?_
  have key : ∀ (t k : Nat) (h : HM) (s1 : Nat → Int32) (I1 : Nat → Nat → Int32) (G1 : Nat → Nat → Int64), k + t = tS ss ss.length → MR h0 h m a (lZ d) s1 I1 G1 → s1 17 = 1 ∧ s1 18 = nI (tS ss ss.length) ∧ s1 19 = nI (uC (ow ss) w (tS ss ss.length)) → (∀ k, k ≠ 17 → k ≠ 18 → k ≠ 19 → s1 k = s k) → (∀ k, k ≠ 20 → k ≠ 21 → I1 k = I k) → (∀ k, k ≠ 14 → k ≠ 15 → k ≠ 22 → G1 k = G k) → (∀ i, i < k → I1 20 i = nI (ow ss i) ∧ I1 21 i = nI (w i) ∧ G1 22 i = lZ (ar ss i)) → J X B D 2 Q h 0 0 27 [(1, .int (nI k)), (0, .ref m)] [] := by
    intro t
    induction t with
    | zero =>
      intro k h s1 I1 G1 hk hM hs qs qI qG hd
      have P1 : MP d ss s1 I1 := P.keep (qs 10 (by decide) (by decide) (by decide)) ⟨qI 11 (by decide) (by decide), qI 12 (by decide) (by decide), qI 13 (by decide) (by decide)⟩
      refine j_iload_n E dX7_keep_27 rfl ?_
      refine j_aload_n E dX7_keep_28 rfl ?_
      refine j_getfield (ref := "ColourPartsModel") (C := RX7) (T := TX7) (N := 27) (ci := 8) E 10 dX7_keep_29 iw_X7_keep_X7 rfl (by decide) (by decide +kernel) rfl hM.obj rfl ?_
      refine J.topi (x' := nI (tS ss ss.length)) (P1.1) ?_
      refine j_icmp_ge E (tgt := 76) dX7_keep_32 (by decide) (fun c => ?_) (fun c => ?_)
      ·
        rw [← hQ]
        refine j_vret E dX7_keep_76 rfl (by omega) (by omega) ⟨rfl, _, _, _, hM, ⟨(qs 26 (by decide) (by decide) (by decide)).trans (hcl.trans (bI_t trivial).symm), (qs 25 (by decide) (by decide) (by decide)).trans hrg, fun k hk => absurd hk (Nat.not_lt_zero _), fun z => (by cases z), fun ps e => ?_⟩, qs, qI, qG⟩
        obtain rfl := Option.some.inj e
        refine ⟨hs.1, hs.2.1.trans (by rw [kpOf_len]), hs.2.2.trans (by rw [kpOf_u]), fun i hi => ?_⟩
        rw [kpOf_len] at hi
        rw [kpOf_S hi, kpOf_C hi, kpOf_A hi]
        exact hd i (by omega)
      · exact absurd (nI_le (show tS ss ss.length ≤ k by omega) (by omega)) c
    | succ t ih =>
      intro k h s1 I1 G1 hk hM hs qs qI qG hd
      have hkl : k < tS ss ss.length := by omega
      have P1 : MP d ss s1 I1 := P.keep (qs 10 (by decide) (by decide) (by decide)) ⟨qI 11 (by decide) (by decide), qI 12 (by decide) (by decide), qI 13 (by decide) (by decide)⟩
      have A1 : MA ss s1 I1 G1 := A.keep (qs 2 (by decide) (by decide) (by decide)) ⟨qI 5 (by decide) (by decide), qI 6 (by decide) (by decide), qI 8 (by decide) (by decide), qI 9 (by decide) (by decide)⟩ ⟨qG 3 (by decide) (by decide) (by decide), qG 4 (by decide) (by decide) (by decide), qG 7 (by decide) (by decide) (by decide)⟩
      refine j_iload_n E dX7_keep_27 rfl ?_
      refine j_aload_n E dX7_keep_28 rfl ?_
      refine j_getfield (ref := "ColourPartsModel") (C := RX7) (T := TX7) (N := 27) (ci := 8) E 10 dX7_keep_29 iw_X7_keep_X7 rfl (by decide) (by decide +kernel) rfl hM.obj rfl ?_
      refine J.topi (x' := nI (tS ss ss.length)) (P1.1) ?_
      refine j_icmp_ge E (tgt := 76) dX7_keep_32 (by decide) (fun c => ?_) (fun c => ?_)
      · exact absurd c (nI_ge hkl (by omega))
      ·
        refine j_aload_n E dX7_keep_35 rfl ?_
        refine j_getfield (ref := "ColourPartsModel") (C := RX7) (T := TX7) (N := 27) (ci := 8) E 20 dX7_keep_36 iw_X7_keep_X7 rfl (by decide) (by decide +kernel) rfl hM.obj rfl ?_
        refine j_iload_n E dX7_keep_39 rfl ?_
        refine j_aload_n E dX7_keep_40 rfl ?_
        refine j_getfield (ref := "ColourPartsModel") (C := RX7) (T := TX7) (N := 27) (ci := 8) E 11 dX7_keep_41 iw_X7_keep_X7 rfl (by decide) (by decide +kernel) rfl hM.obj rfl ?_
        refine j_iload_n E dX7_keep_44 rfl ?_
        refine j_iaload E k dX7_keep_45 (hM.gI 11 12 (by decide)) rfl (by omega) (by omega) ?_
        refine J.topi (x' := nI (ow ss k)) ((P1.2.1 k hkl).1) ?_
        refine j_iastore E k dX7_keep_46 (hM.gI 20 12 (by decide)) rfl (by omega) (by omega) ?_
        refine MR.gen (hM.pI 20 12 _ (by decide)) (fun h hM => ?_)
        refine j_aload_n E dX7_keep_47 rfl ?_
        refine j_getfield (ref := "ColourPartsModel") (C := RX7) (T := TX7) (N := 27) (ci := 8) E 21 dX7_keep_48 iw_X7_keep_X7 rfl (by decide) (by decide +kernel) rfl hM.obj rfl ?_
        refine j_iload_n E dX7_keep_51 rfl ?_
        refine j_aload_n E dX7_keep_52 rfl ?_
        refine j_getfield (ref := "ColourPartsModel") (C := RX7) (T := TX7) (N := 27) (ci := 8) E 16 dX7_keep_53 iw_X7_keep_X7 rfl (by decide) (by decide +kernel) rfl hM.obj rfl ?_
        refine j_iload_n E dX7_keep_56 rfl ?_
        refine j_iaload E k dX7_keep_57 (hM.gI 16 13 (by decide)) rfl (by omega) (by omega) ?_
        refine J.topi (x' := nI (w k)) (((congrFun (qI 16 (by decide) (by decide)) k).trans (hc k hkl).1)) ?_
        refine j_iastore E k dX7_keep_58 (hM.gI 21 12 (by decide)) rfl (by omega) (by omega) ?_
        refine MR.gen (hM.pI 21 12 _ (by decide)) (fun h hM => ?_)
        refine j_aload_n E dX7_keep_59 rfl ?_
        refine j_getfield (ref := "ColourPartsModel") (C := RX7) (T := TX7) (N := 27) (ci := 8) E 22 dX7_keep_60 iw_X7_keep_X7 rfl (by decide) (by decide +kernel) rfl hM.obj rfl ?_
        refine j_iload_n E dX7_keep_63 rfl ?_
        refine j_aload_n E dX7_keep_64 rfl ?_
        refine j_iload_n E dX7_keep_65 rfl ?_
        refine j_callV (np := 1) (C := RX7) (T := TX7) (N := 27) (ci := 8) E (m_areaOf v hM (A1.keep rfl ⟨rfl, rfl, rfl, rfl⟩ ⟨rfl, rfl, rfl⟩) (P1.keep rfl ⟨rfl, rfl, rfl⟩) hw hkl) gX7_keep_X7_areaOf rfl ⟨rfl, by decide, by decide, by decide +kernel⟩ dX7_keep_66 (by omega) (by decide) rfl hM.obj rfl rfl (Nat.le_of_ble_eq_true rfl) (by omega) (by omega) (fun r h1 p2 => ?_)
        obtain ⟨rfl, G2, hM, hG2⟩ := p2
        refine J.wide (k' := 0) (n' := 0) (by omega) (by omega) ?_
        refine j_lastore E k dX7_keep_69 (hM.gJ 22 12 (by decide)) rfl (by omega) (by omega) ?_
        refine MR.gen (hM.pJ 22 12 _ (by decide)) (fun h hM => ?_)
        refine j_iinc E dX7_keep_70 rfl (nI_1 k) (by decide) ?_
        refine j_goto E (tgt := 27) dX7_keep_73 (by decide) ?_
        refine J.sub [(1, .int (nI (k + 1))), (0, .ref m)] ⟨rfl, rfl, trivial⟩ ?_
        refine ih (k + 1) _ s1 _ _ (by omega) hM hs qs (fun j h1 h2 => (uA_ne _ _ h2).trans ((uA_ne _ _ h1).trans (qI j h1 h2))) (fun j h1 h2 h3 => (uA_ne _ _ h3).trans ((hG2 j h1 h2).trans (qG j h1 h2 h3))) (fun i hi => ?_)
        show upd (I1 20) k (nI (ow ss k)) i = _ ∧ upd (I1 21) k (nI (w k)) i = _ ∧ vp_updL (G2 22) k (lZ (ar ss k)) i = _
        by_cases e : i = k
        · rw [e, upd_eq, upd_eq]; exact ⟨rfl, rfl, if_pos rfl⟩
        · rw [upd_ne e, upd_ne e]
          refine ⟨(hd i (by omega)).1, (hd i (by omega)).2.1, (show vp_updL (G2 22) k (lZ (ar ss k)) i = G2 22 i from if_neg e).trans ?_⟩
          rw [hG2 22 (by decide) (by decide)]
          exact (hd i (by omega)).2.2
  refine J.sub [(1, .int (nI 0)), (0, .ref m)] ⟨rfl, rfl, trivial⟩ ?_
  refine key (tS ss ss.length) 0 h _ I G (by omega) hM ⟨rfl, rfl, rfl⟩ (fun k h1 h2 h3 => (uA_ne _ _ h3).trans ((uA_ne _ _ h2).trans (uA_ne _ _ h1))) (fun _ _ _ => rfl) (fun _ _ _ _ => rfl) (fun i hi => absurd hi (Nat.not_lt_zero _))
theorem iw_X7_isStep_X7 : ∀ w ∈ u_ws RX7 TX7 27, w ∈ wsX7_isStep := by decide +kernel
theorem m_isStep (v : Nat) (hM : MR h0 h m a (lZ d) s I G) (P : MP d ss s I) (hw : wfSS ss) {w : Nat → Nat} {k n : Nat} (hn : 1 ≤ n ∧ n ≤ 12) (hk : k < n) (hc : ∀ i, i < k + 1 → I 23 i = nI (w i) ∧ w i < tS ss ss.length) : CM l B E0 D yX7_isStep wsX7_isStep (v + 1) 0 0 [.ref m, .int (nI k), .int (nI n)] h (fun r h1 => r = some (.int (bI (stepW d ss n w k))) ∧ h1 = h) := by
  have hl := hw.1
  have ht := hw.2.1
  refine CM.of (cc := cX7_isStep) (maxL := 6) (ret := (some .boolean)) (by decide) rfl (Nat.le_of_ble_eq_true rfl) (fun X E hin => ?_)
  show J X B D 6 _ h 0 0 0 [(0, .ref m), (1, .int (nI k)), (2, .int (nI n))] []
  generalize hQ : jQ X B D _ _ _ = Q
  have ck := (hc k (by omega)).2
  have c0 := (hc 0 (by omega)).2
  have tail : ∀ (t i : Nat), i + t = k → ∀ p : Prop, (p ↔ (k = 0 ∨ NR d ss (w (k - 1)) (w k)) ∧ ∀ j, j < i → ¬ w j = w k) → J X B D 6 Q h 0 0 42 [(5, .int (nI i)), (4, .int (bI p)), (3, .int (nI (w k))), (2, .int (nI n)), (1, .int (nI k)), (0, .ref m)] [] := by
    intro t
    induction t with
    | zero =>
      intro i hi p hp
      rw [show i = k by omega] at hp
      refine j_iload E dX7_isStep_42 rfl ?_
      refine j_iload_n E dX7_isStep_44 rfl ?_
      refine j_icmp_ge E (tgt := 77) dX7_isStep_45 (by decide) (fun c1 => ?_) (fun c1 => ?_)
      ·
        refine j_iload E dX7_isStep_77 rfl ?_
        refine j_if_eq E (tgt := 112) dX7_isStep_79 (by decide) (fun c2 => ?_) (fun c2 => ?_)
        ·
          refine j_iconst (x := nI 0) E dX7_isStep_112 (by decide) ?_
          refine J.topi (x' := bI (stepW d ss n w k)) ((bI_f (fun z => bI_z.mp c2 (hp.mpr ⟨z.1, z.2.1⟩))).symm) ?_
          rw [← hQ]
          exact j_iret E dX7_isStep_113 rfl (nb_bI _) (by omega) (by omega) ⟨rfl, rfl⟩
        · have pp := hp.mp (bI_n.mp c2)
          obtain ⟨n1, rfl⟩ : ∃ n1, n = n1 + 1 := ⟨n - 1, by omega⟩
          refine j_iload_n E dX7_isStep_82 rfl ?_
          refine j_iload_n E dX7_isStep_83 rfl ?_
          refine j_iconst (x := nI 1) E dX7_isStep_84 (by decide) ?_
          refine j_isub E dX7_isStep_85 ?_
          refine J.topi (x' := nI n1) (nI_pred n1) ?_
          refine j_icmp_lt E (tgt := 108) dX7_isStep_86 (by decide) (fun c3 => ?_) (fun c3 => ?_)
          ·
            refine j_iconst (x := nI 1) E dX7_isStep_108 (by decide) ?_
            refine J.topi (x' := bI (stepW d ss (n1 + 1) w k)) ((bI_t ⟨pp.1, pp.2, Or.inl (by have : k < n1 := Nat.not_le.mp (fun z => nI_nlt z (by omega) c3); omega)⟩).symm) ?_
            refine j_goto E (tgt := 113) dX7_isStep_109 (by decide) ?_
            rw [← hQ]
            exact j_iret E dX7_isStep_113 rfl (nb_bI _) (by omega) (by omega) ⟨rfl, rfl⟩
          · have ge : ¬ k + 1 < n1 + 1 := fun z => c3 (nI_lt (by omega) (by omega))
            refine j_aload_n E dX7_isStep_89 rfl ?_
            refine j_getfield (ref := "ColourPartsModel") (C := RX7) (T := TX7) (N := 27) (ci := 8) E 13 dX7_isStep_90 iw_X7_isStep_X7 rfl (by decide) (by decide +kernel) rfl hM.obj rfl ?_
            refine j_bipush (x := nI 12) E dX7_isStep_93 (by decide) ?_
            refine j_iload_n E dX7_isStep_95 rfl ?_
            refine j_imul E dX7_isStep_96 ?_
            refine J.topi (x' := nI (12 * w k)) (pk_mul _ _) ?_
            refine j_aload_n E dX7_isStep_97 rfl ?_
            refine j_getfield (ref := "ColourPartsModel") (C := RX7) (T := TX7) (N := 27) (ci := 8) E 23 dX7_isStep_98 iw_X7_isStep_X7 rfl (by decide) (by decide +kernel) rfl hM.obj rfl ?_
            refine j_iconst (x := nI 0) E dX7_isStep_101 (by decide) ?_
            refine j_iaload E 0 dX7_isStep_102 (hM.gI 23 13 (by decide)) rfl (by omega) (by omega) ?_
            refine J.topi (x' := nI (w 0)) ((hc 0 (by omega)).1) ?_
            refine j_iadd E dX7_isStep_103 ?_
            refine J.topi (x' := nI (12 * w k + w 0)) (nI_add _ _) ?_
            refine j_zaload E (12 * w k + w 0) dX7_isStep_104 (hM.gZ 13 144 (by decide)) rfl (by omega) (by omega) ?_
            refine J.topi (x' := bI (NR d ss (w k) (w 0))) (P.2.2 _ _ ck c0) ?_
            refine j_if_eq E (tgt := 112) dX7_isStep_105 (by decide) (fun c4 => ?_) (fun c4 => ?_)
            ·
              refine j_iconst (x := nI 0) E dX7_isStep_112 (by decide) ?_
              refine J.topi (x' := bI (stepW d ss (n1 + 1) w k)) ((bI_f (fun z => z.2.2.elim ge (bI_z.mp c4))).symm) ?_
              rw [← hQ]
              exact j_iret E dX7_isStep_113 rfl (nb_bI _) (by omega) (by omega) ⟨rfl, rfl⟩
            ·
              refine j_iconst (x := nI 1) E dX7_isStep_108 (by decide) ?_
              refine J.topi (x' := bI (stepW d ss (n1 + 1) w k)) ((bI_t ⟨pp.1, pp.2, Or.inr (bI_n.mp c4)⟩).symm) ?_
              refine j_goto E (tgt := 113) dX7_isStep_109 (by decide) ?_
              rw [← hQ]
              exact j_iret E dX7_isStep_113 rfl (nb_bI _) (by omega) (by omega) ⟨rfl, rfl⟩
      · exact absurd (nI_le (show k ≤ i by omega) (by omega)) c1
    | succ t ih =>
      intro i hi p hp
      have hik : i < k := by omega
      have ci := (hc i (by omega)).2
      have step : ∀ p2 : Prop, (p2 ↔ p ∧ ¬ w i = w k) → J X B D 6 Q h 0 0 69 [(5, .int (nI i)), (3, .int (nI (w k))), (2, .int (nI n)), (1, .int (nI k)), (0, .ref m)] [.int (bI p2)] := by
        intro p2 hp2
        refine j_istore E dX7_isStep_69 (by decide) ?_
        refine j_iinc E dX7_isStep_71 rfl (nI_1 i) (by decide) ?_
        refine j_goto E (tgt := 42) dX7_isStep_74 (by decide) ?_
        refine J.sub [(5, .int (nI (i + 1))), (4, .int (bI p2)), (3, .int (nI (w k))), (2, .int (nI n)), (1, .int (nI k)), (0, .ref m)] ⟨rfl, rfl, rfl, rfl, rfl, rfl, trivial⟩ ?_
        refine ih (i + 1) (by omega) p2 ⟨fun z => ⟨(hp.mp (hp2.mp z).1).1, fun j hj => ?_⟩, fun z => hp2.mpr ⟨hp.mpr ⟨z.1, fun j hj => z.2 j (by omega)⟩, z.2 i (by omega)⟩⟩
        by_cases e : j = i
        · rw [e]; exact (hp2.mp z).2
        · exact (hp.mp (hp2.mp z).1).2 j (by omega)
      refine j_iload E dX7_isStep_42 rfl ?_
      refine j_iload_n E dX7_isStep_44 rfl ?_
      refine j_icmp_ge E (tgt := 77) dX7_isStep_45 (by decide) (fun c1 => ?_) (fun c1 => ?_)
      · exact absurd c1 (nI_ge hik (by omega))
      ·
        refine j_iload E dX7_isStep_48 rfl ?_
        refine j_if_eq E (tgt := 68) dX7_isStep_50 (by decide) (fun c2 => ?_) (fun c2 => ?_)
        · refine J.sub [(5, .int (nI i)), (3, .int (nI (w k))), (2, .int (nI n)), (1, .int (nI k)), (0, .ref m)] ⟨rfl, rfl, rfl, rfl, rfl, trivial⟩ ?_
          refine j_iconst (x := nI 0) E dX7_isStep_68 (by decide) ?_
          refine J.topi (x' := bI False) ((bI_f id).symm) ?_
          exact step False ⟨fun z => z.elim, fun z => bI_z.mp c2 z.1⟩
        ·
          refine j_aload_n E dX7_isStep_53 rfl ?_
          refine j_getfield (ref := "ColourPartsModel") (C := RX7) (T := TX7) (N := 27) (ci := 8) E 23 dX7_isStep_54 iw_X7_isStep_X7 rfl (by decide) (by decide +kernel) rfl hM.obj rfl ?_
          refine j_iload E dX7_isStep_57 rfl ?_
          refine j_iaload E i dX7_isStep_59 (hM.gI 23 13 (by decide)) rfl (by omega) (by omega) ?_
          refine J.topi (x' := nI (w i)) ((hc i (by omega)).1) ?_
          refine j_iload_n E dX7_isStep_60 rfl ?_
          refine J.sub [(5, .int (nI i)), (3, .int (nI (w k))), (2, .int (nI n)), (1, .int (nI k)), (0, .ref m)] ⟨rfl, rfl, rfl, rfl, rfl, trivial⟩ ?_
          refine j_icmp_eq E (tgt := 68) dX7_isStep_61 (by decide) (fun c3 => ?_) (fun c3 => ?_)
          ·
            refine j_iconst (x := nI 0) E dX7_isStep_68 (by decide) ?_
            refine J.topi (x' := bI False) ((bI_f id).symm) ?_
            exact step False ⟨fun z => z.elim, fun z => z.2 ((nI_eq (by omega) (by omega)).mp c3)⟩
          ·
            refine j_iconst (x := nI 1) E dX7_isStep_64 (by decide) ?_
            refine J.topi (x' := bI True) ((bI_t trivial).symm) ?_
            refine j_goto E (tgt := 69) dX7_isStep_65 (by decide) ?_
            exact step True ⟨fun _ => ⟨bI_n.mp c2, fun e => c3 (congrArg nI e)⟩, fun _ => trivial⟩
  have join : ∀ p : Prop, (p ↔ (k = 0 ∨ NR d ss (w (k - 1)) (w k))) → J X B D 6 Q h 0 0 37 [(3, .int (nI (w k))), (2, .int (nI n)), (1, .int (nI k)), (0, .ref m)] [.int (bI p)] := by
    intro p hp
    refine j_istore E dX7_isStep_37 (by decide) ?_
    refine j_iconst (x := nI 0) E dX7_isStep_39 (by decide) ?_
    refine j_istore E dX7_isStep_40 (by decide) ?_
    refine J.sub [(5, .int (nI 0)), (4, .int (bI p)), (3, .int (nI (w k))), (2, .int (nI n)), (1, .int (nI k)), (0, .ref m)] ⟨rfl, rfl, rfl, rfl, rfl, rfl, trivial⟩ ?_
    exact tail k 0 (by omega) p ⟨fun z => ⟨hp.mp z, fun j hj => absurd hj (Nat.not_lt_zero _)⟩, fun z => hp.mpr z.1⟩
  refine j_aload_n E dX7_isStep_0 rfl ?_
  refine j_getfield (ref := "ColourPartsModel") (C := RX7) (T := TX7) (N := 27) (ci := 8) E 23 dX7_isStep_1 iw_X7_isStep_X7 rfl (by decide) (by decide +kernel) rfl hM.obj rfl ?_
  refine j_iload_n E dX7_isStep_4 rfl ?_
  refine j_iaload E k dX7_isStep_5 (hM.gI 23 13 (by decide)) rfl (by omega) (by omega) ?_
  refine J.topi (x' := nI (w k)) ((hc k (by omega)).1) ?_
  refine j_istore_n E dX7_isStep_6 (by decide) ?_
  refine j_iload_n E dX7_isStep_7 rfl ?_
  refine J.sub [(3, .int (nI (w k))), (2, .int (nI n)), (1, .int (nI k)), (0, .ref m)] ⟨rfl, rfl, rfl, rfl, trivial⟩ ?_
  refine j_if_eq E (tgt := 32) dX7_isStep_8 (by decide) (fun c1 => ?_) (fun c1 => ?_)
  · have e : k = 0 := (nI_eq (show k < 2 ^ 31 by omega) (show 0 < 2 ^ 31 by decide)).mp c1
    refine j_iconst (x := nI 1) E dX7_isStep_32 (by decide) ?_
    refine J.topi (x' := bI True) ((bI_t trivial).symm) ?_
    refine j_goto E (tgt := 37) dX7_isStep_33 (by decide) ?_
    exact join True ⟨fun _ => Or.inl e, fun _ => trivial⟩
  · have e : ¬ k = 0 := fun z => c1 (by rw [z]; rfl)
    obtain ⟨k1, rfl⟩ : ∃ k1, k = k1 + 1 := ⟨k - 1, by omega⟩
    have ck1 := (hc k1 (by omega)).2
    refine j_aload_n E dX7_isStep_11 rfl ?_
    refine j_getfield (ref := "ColourPartsModel") (C := RX7) (T := TX7) (N := 27) (ci := 8) E 13 dX7_isStep_12 iw_X7_isStep_X7 rfl (by decide) (by decide +kernel) rfl hM.obj rfl ?_
    refine j_bipush (x := nI 12) E dX7_isStep_15 (by decide) ?_
    refine j_aload_n E dX7_isStep_17 rfl ?_
    refine j_getfield (ref := "ColourPartsModel") (C := RX7) (T := TX7) (N := 27) (ci := 8) E 23 dX7_isStep_18 iw_X7_isStep_X7 rfl (by decide) (by decide +kernel) rfl hM.obj rfl ?_
    refine j_iload_n E dX7_isStep_21 rfl ?_
    refine j_iconst (x := nI 1) E dX7_isStep_22 (by decide) ?_
    refine j_isub E dX7_isStep_23 ?_
    refine J.topi (x' := nI k1) (nI_pred k1) ?_
    refine j_iaload E k1 dX7_isStep_24 (hM.gI 23 13 (by decide)) rfl (by omega) (by omega) ?_
    refine J.topi (x' := nI (w k1)) ((hc k1 (by omega)).1) ?_
    refine j_imul E dX7_isStep_25 ?_
    refine J.topi (x' := nI (12 * w k1)) (pk_mul _ _) ?_
    refine j_iload_n E dX7_isStep_26 rfl ?_
    refine j_iadd E dX7_isStep_27 ?_
    refine J.topi (x' := nI (12 * w k1 + w (k1 + 1))) (nI_add _ _) ?_
    refine j_zaload E (12 * w k1 + w (k1 + 1)) dX7_isStep_28 (hM.gZ 13 144 (by decide)) rfl (by omega) (by omega) ?_
    refine J.topi (x' := bI (NR d ss (w k1) (w (k1 + 1)))) (P.2.2 _ _ ck1 ck) ?_
    refine j_if_eq E (tgt := 36) dX7_isStep_29 (by decide) (fun c2 => ?_) (fun c2 => ?_)
    ·
      refine j_iconst (x := nI 0) E dX7_isStep_36 (by decide) ?_
      refine J.topi (x' := bI False) ((bI_f id).symm) ?_
      exact join False ⟨fun z => z.elim, fun z => z.elim e (bI_z.mp c2)⟩
    ·
      refine j_iconst (x := nI 1) E dX7_isStep_32 (by decide) ?_
      refine J.topi (x' := bI True) ((bI_t trivial).symm) ?_
      refine j_goto E (tgt := 37) dX7_isStep_33 (by decide) ?_
      exact join True ⟨fun _ => Or.inr (bI_n.mp c2), fun _ => trivial⟩
end M11
