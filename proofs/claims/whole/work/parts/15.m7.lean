/-! near(), pair() and what is asked of a kept colouring, of the ring: the reference -/
abbrev KPs : Type := List (Nat × Nat × Int)
def kS (ps : KPs) (k : Nat) : Nat := (ps.getD k (0, 0, 0)).1
def kC (ps : KPs) (k : Nat) : Nat := (ps.getD k (0, 0, 0)).2.1
def kA (ps : KPs) (k : Nat) : Int := (ps.getD k (0, 0, 0)).2.2
noncomputable def uC (sh co : Nat → Nat) : Nat → Nat
  | 0 => 0
  | n + 1 => uC sh co n + bN (0 < n ∧ sh n = sh (n - 1) ∧ ¬ co n = co (n - 1))
theorem uC_le (sh co : Nat → Nat) : ∀ n, uC sh co n ≤ n
  | 0 => Nat.le_refl _
  | n + 1 => by have := uC_le sh co n; have := bN_le (0 < n ∧ sh n = sh (n - 1) ∧ ¬ co n = co (n - 1)); show uC sh co n + _ ≤ _; omega
def wfK (kp : Option KPs) : Prop := ∀ ps, kp = some ps → ps.length ≤ 12 ∧ ∀ k, k < ps.length → kS ps k < 10 ∧ kC ps k < 4 ∧ 0 ≤ kA ps k ∧ kA ps k ≤ 100000000000000
def MK (kp : Option KPs) (rg : List Nat) (cl : Prop) (s : Nat → Int32) (I : Nat → Nat → Int32) (G : Nat → Nat → Int64) : Prop :=
  s 26 = bI cl ∧ s 25 = nI rg.length ∧ (∀ k, k < rg.length → I 24 k = nI (rg.getD k 0)) ∧ (kp = none → s 17 = 0) ∧ ∀ ps, kp = some ps → s 17 = 1 ∧ s 18 = nI ps.length ∧ s 19 = nI (uC (kS ps) (kC ps) ps.length) ∧ ∀ k, k < ps.length → I 20 k = nI (kS ps k) ∧ I 21 k = nI (kC ps k) ∧ G 22 k = lZ (kA ps k)
theorem MK.keep {kp : Option KPs} {rg : List Nat} {cl : Prop} {s s1 : Nat → Int32} {I I1 : Nat → Nat → Int32} {G G1 : Nat → Nat → Int64} (K : MK kp rg cl s I G) (h1 : s1 26 = s 26 ∧ s1 25 = s 25 ∧ s1 17 = s 17 ∧ s1 18 = s 18 ∧ s1 19 = s 19) (h2 : I1 24 = I 24 ∧ I1 20 = I 20 ∧ I1 21 = I 21) (h3 : G1 22 = G 22) : MK kp rg cl s1 I1 G1 := by
  unfold MK
  rw [h1.1, h1.2.1, h1.2.2.1, h1.2.2.2.1, h1.2.2.2.2, h2.1, h2.2.1, h2.2.2, h3]
  exact K
def isF (ps : KPs) (j f : Nat) : Prop := f < ps.length ∧ kS ps f = j ∧ ∀ i, i < f → ¬ kS ps i = j
theorem isF_one {ps : KPs} {j f g : Nat} (h1 : isF ps j f) (h2 : isF ps j g) : f = g := by
  rcases Nat.lt_trichotomy f g with q | q | q
  · exact absurd h1.2.1 (h2.2.2 f q)
  · exact q
  · exact absurd h2.2.1 (h1.2.2 g q)
noncomputable def cdNear (ss : List SH) : Int32 := bI (opS ss)
def badP (k side : Int32) : Prop := k < 0 ∨ side < 0 ∨ nI 1 < side
noncomputable def cdPair (ss : List SH) (k side : Int32) : Int32 := cI (badP k side) 1 (cI (opS ss) 2 0)
def kth (P : Nat → Nat → Prop) (n K i j : Nat) : Prop := i < j ∧ j < n ∧ P i j ∧ totC P n i + rowC P i j = K
noncomputable def cdBal (c p : Int32) : Int32 := cI (p < 0 ∨ nI 1 < p) 1 (cI (c < 0 ∨ nI 3 < c) 2 0)
noncomputable def balU (ps : KPs) (c p : Int32) : Nat → Int
  | 0 => 0
  | n + 1 => balU ps c p n + cI (nI (kC ps n) = c) (cI (p = 0) 1 (kA ps n)) 0
theorem balU_b {kp : Option KPs} {ps : KPs} (hk : wfK kp) (e : kp = some ps) (c p : Int32) : ∀ n, n ≤ ps.length → 0 ≤ balU ps c p n ∧ balU ps c p n ≤ n * 100000000000000
  | 0, _ => ⟨Int.le_refl _, by simp [balU]⟩
  | n + 1, h => by
    obtain ⟨h1, h2⟩ := balU_b hk e c p n (by omega)
    have h3 := (hk ps e).2 n (by omega)
    have h4 : 0 ≤ cI (nI (kC ps n) = c) (cI (p = 0) 1 (kA ps n)) 0 ∧ cI (nI (kC ps n) = c) (cI (p = 0) 1 (kA ps n)) 0 ≤ 100000000000000 := by
      by_cases q : nI (kC ps n) = c
      · rw [cI_t q]
        by_cases q2 : p = 0
        · rw [cI_t q2]; omega
        · rw [cI_f q2]; omega
      · rw [cI_f q]; omega
    show 0 ≤ balU ps c p n + _ ∧ balU ps c p n + _ ≤ _
    omega
section M7
variable {l : Launch} {B E0 : Nat} {D : va_G} {h0 h : HM} {m : Nat} {a : Nat → Nat} {d : Int} {s : Nat → Int32} {I : Nat → Nat → Int32} {G : Nat → Nat → Int64} {ss : List SH} {kp : Option KPs} {rg : List Nat} {cl : Prop}
theorem iw_X7_near_X7 : ∀ w ∈ u_ws RX7 TX7 27, w ∈ wsX7_near := by decide +kernel
theorem m_near (v : Nat) (hM : MR h0 h m a (lZ d) s I G) (A : MA ss s I G) (hw : wfSS ss) (hd : 1 ≤ d ∧ d ≤ 65536) : CM l B E0 D yX7_near wsX7_near (v + 5) 0 0 [.ref m] h (fun r h1 => (∃ y : Int32, r = some (.int y)) ∧ (∃ s1 G1, MR h0 h1 m a (lZ d) s1 I G1 ∧ s1 0 = cdNear ss ∧ (∀ k, k ≠ 0 → s1 k = s k) ∧ gK G G1 ∧ (cdNear ss = 0 → r = some (.int (nI (totC (nPr d ss) ss.length ss.length)))))) := by
  have hl := hw.1
  refine CM.of (cc := cX7_near) (maxL := 4) (ret := (some .int)) (by decide) rfl (Nat.le_of_ble_eq_true rfl) (fun X E hin => ?_)
  show J X B D 4 _ h 0 0 0 [(0, .ref m)] []
  generalize hQ : jQ X B D _ _ _ = Q
  have tail : ∀ c, c = cdNear ss → J X B D 4 Q h 0 0 13 [(0, .ref m)] [.int c, .ref m] := by
    intro c hc
    refine j_putfield (ref := "ColourPartsModel") (C := RX7) (T := TX7) (N := 27) (ci := 8) E 0 dX7_near_13 iw_X7_near_X7 tyX7 tyX7_ok nmX7 rfl (by decide) (by decide +kernel) rfl rfl rfl rfl hM.obj (Nat.le_of_ble_eq_true rfl) ?_
    refine MR.gen (hM.pS 0 _ (by decide) rfl) (fun h hM => ?_)
    refine j_iconst (x := nI 0) E dX7_near_16 (by decide) ?_
    refine j_istore_n E dX7_near_17 (by decide) ?_
    refine j_iconst (x := nI 0) E dX7_near_18 (by decide) ?_
    refine j_istore_n E dX7_near_19 (by decide) ?_
    have A1 : MA ss (uA s 0 c) I G := A.keep rfl ⟨rfl, rfl, rfl, rfl⟩ ⟨rfl, rfl, rfl⟩
    have e2 : uA s 0 c 2 = nI ss.length := A1.1
    have outer : ∀ (t i : Nat) (h : HM) (G1 : Nat → Nat → Int64), i + t = ss.length → MR h0 h m a (lZ d) (uA s 0 c) I G1 → gK G G1 → J X B D 4 Q h 0 0 20 [(2, .int (nI i)), (1, .int (nI (totC (nPr d ss) ss.length i))), (0, .ref m)] [] := by
      intro t
      induction t with
      | zero =>
        intro i h G1 hi hM hG
        refine j_iload_n E dX7_near_20 rfl ?_
        refine j_aload_n E dX7_near_21 rfl ?_
        refine j_getfield (ref := "ColourPartsModel") (C := RX7) (T := TX7) (N := 27) (ci := 8) E 2 dX7_near_22 iw_X7_near_X7 rfl (by decide) (by decide +kernel) rfl hM.obj rfl ?_
        refine J.topi (x' := nI ss.length) (e2) ?_
        refine j_icmp_ge E (tgt := 76) dX7_near_25 (by decide) (fun c1 => ?_) (fun c1 => ?_)
        ·
          refine j_iload_n E dX7_near_76 rfl ?_
          rw [← hQ]
          exact j_iret E dX7_near_77 rfl rfl (by omega) (by omega) ⟨⟨_, rfl⟩, ⟨_, _, hM, (uA_eq _ _ _).trans hc, fun k h1 => uA_ne _ _ h1, hG, fun _ => by rw [show i = ss.length by omega]⟩⟩
        · exact absurd (nI_le (show ss.length ≤ i by omega) (by omega)) c1
      | succ t ih =>
        intro i h G1 hi hM hG
        have hil : i < ss.length := by omega
        refine j_iload_n E dX7_near_20 rfl ?_
        refine j_aload_n E dX7_near_21 rfl ?_
        refine j_getfield (ref := "ColourPartsModel") (C := RX7) (T := TX7) (N := 27) (ci := 8) E 2 dX7_near_22 iw_X7_near_X7 rfl (by decide) (by decide +kernel) rfl hM.obj rfl ?_
        refine J.topi (x' := nI ss.length) (e2) ?_
        refine j_icmp_ge E (tgt := 76) dX7_near_25 (by decide) (fun c1 => ?_) (fun c1 => ?_)
        · exact absurd c1 (nI_ge hil (by omega))
        ·
          refine j_aload_n E dX7_near_28 rfl ?_
          refine j_getfield (ref := "ColourPartsModel") (C := RX7) (T := TX7) (N := 27) (ci := 8) E 0 dX7_near_29 iw_X7_near_X7 rfl (by decide) (by decide +kernel) rfl hM.obj rfl ?_
          refine J.topi (x' := c) (uA_eq _ _ _) ?_
          refine j_if_ne E (tgt := 76) dX7_near_32 (by decide) (fun c2 => ?_) (fun c2 => ?_)
          ·
            refine j_iload_n E dX7_near_76 rfl ?_
            rw [← hQ]
            exact j_iret E dX7_near_77 rfl rfl (by omega) (by omega) ⟨⟨_, rfl⟩, ⟨_, _, hM, (uA_eq _ _ _).trans hc, fun k h1 => uA_ne _ _ h1, hG, fun w => absurd (hc.trans w) c2⟩⟩
          · have inner : ∀ (t2 j : Nat) (h : HM) (G1 : Nat → Nat → Int64), j + t2 = ss.length → i < j → MR h0 h m a (lZ d) (uA s 0 c) I G1 → gK G G1 → J X B D 4 Q h 0 0 39 [(3, .int (nI j)), (2, .int (nI i)), (1, .int (nI (totC (nPr d ss) ss.length i + rowC (nPr d ss) i j))), (0, .ref m)] [] := by
              intro t2
              induction t2 with
              | zero =>
                intro j h G1 hj hij hM hG
                refine j_iload_n E dX7_near_39 rfl ?_
                refine j_aload_n E dX7_near_40 rfl ?_
                refine j_getfield (ref := "ColourPartsModel") (C := RX7) (T := TX7) (N := 27) (ci := 8) E 2 dX7_near_41 iw_X7_near_X7 rfl (by decide) (by decide +kernel) rfl hM.obj rfl ?_
                refine J.topi (x' := nI ss.length) (e2) ?_
                refine j_icmp_ge E (tgt := 70) dX7_near_44 (by decide) (fun c3 => ?_) (fun c3 => ?_)
                ·
                  refine j_iinc E dX7_near_70 rfl (nI_1 i) (by decide) ?_
                  refine j_goto E (tgt := 20) dX7_near_73 (by decide) ?_
                  refine J.sub [(2, .int (nI (i + 1))), (1, .int (nI (totC (nPr d ss) ss.length (i + 1)))), (0, .ref m)] ⟨rfl, by rw [show j = ss.length by omega]; rfl, rfl, trivial⟩ ?_
                  exact ih (i + 1) h G1 (by omega) hM hG
                · exact absurd (nI_le (show ss.length ≤ j by omega) (by omega)) c3
              | succ t2 ih2 =>
                intro j h G1 hj hij hM hG
                have hjl : j < ss.length := by omega
                refine j_iload_n E dX7_near_39 rfl ?_
                refine j_aload_n E dX7_near_40 rfl ?_
                refine j_getfield (ref := "ColourPartsModel") (C := RX7) (T := TX7) (N := 27) (ci := 8) E 2 dX7_near_41 iw_X7_near_X7 rfl (by decide) (by decide +kernel) rfl hM.obj rfl ?_
                refine J.topi (x' := nI ss.length) (e2) ?_
                refine j_icmp_ge E (tgt := 70) dX7_near_44 (by decide) (fun c3 => ?_) (fun c3 => ?_)
                · exact absurd c3 (nI_ge hjl (by omega))
                ·
                  refine j_iload_n E dX7_near_47 rfl ?_
                  refine j_aload_n E dX7_near_48 rfl ?_
                  refine j_iload_n E dX7_near_49 rfl ?_
                  refine j_iload_n E dX7_near_50 rfl ?_
                  refine j_callV (np := 2) (C := RX7) (T := TX7) (N := 27) (ci := 8) E (m_isNear v hM (A1.gk hG) hw hd hil hjl) gX7_near_X7_isNear rfl ⟨rfl, by decide, by decide, by decide +kernel⟩ dX7_near_51 (by omega) (by decide) rfl hM.obj rfl rfl (Nat.le_of_ble_eq_true rfl) (by omega) (by omega) (fun r h1 p => ?_)
                  obtain ⟨rfl, G2, hM, hG2⟩ := p
                  refine J.wide (k' := 0) (n' := 0) (by omega) (by omega) ?_
                  have tail2 : J X B D 4 Q h1 0 0 63 [(3, .int (nI j)), (2, .int (nI i)), (1, .int (nI (totC (nPr d ss) ss.length i + rowC (nPr d ss) i j))), (0, .ref m)] [.int (nI (totC (nPr d ss) ss.length i + rowC (nPr d ss) i (j + 1)))] := by
                    refine j_istore_n E dX7_near_63 (by decide) ?_
                    refine j_iinc E dX7_near_64 rfl (nI_1 j) (by decide) ?_
                    refine j_goto E (tgt := 39) dX7_near_67 (by decide) ?_
                    refine J.sub [(3, .int (nI (j + 1))), (2, .int (nI i)), (1, .int (nI (totC (nPr d ss) ss.length i + rowC (nPr d ss) i (j + 1)))), (0, .ref m)] ⟨rfl, rfl, rfl, rfl, trivial⟩ ?_
                    exact ih2 (j + 1) h1 G2 (by omega) (by omega) hM (hG.tr hG2)
                  refine j_if_eq E (tgt := 61) dX7_near_54 (by decide) (fun c4 => ?_) (fun c4 => ?_)
                  ·
                    refine j_iconst (x := nI 0) E dX7_near_61 (by decide) ?_
                    refine j_iadd E dX7_near_62 ?_
                    refine J.topi (x' := nI (totC (nPr d ss) ss.length i + rowC (nPr d ss) i (j + 1))) (by rw [nI_add]; show nI _ = nI (_ + (_ + bN _)); rw [bN_f (fun z => bI_z.mp c4 z.2)]; rfl) ?_
                    exact tail2
                  ·
                    refine j_iconst (x := nI 1) E dX7_near_57 (by decide) ?_
                    refine j_goto E (tgt := 62) dX7_near_58 (by decide) ?_
                    refine j_iadd E dX7_near_62 ?_
                    refine J.topi (x' := nI (totC (nPr d ss) ss.length i + rowC (nPr d ss) i (j + 1))) (by rw [nI_add]; show nI _ = nI (_ + (_ + bN _)); rw [bN_t ⟨hij, bI_n.mp c4⟩]; rfl) ?_
                    exact tail2
            refine j_iload_n E dX7_near_35 rfl ?_
            refine j_iconst (x := nI 1) E dX7_near_36 (by decide) ?_
            refine j_iadd E dX7_near_37 ?_
            refine J.topi (x' := nI (i + 1)) (nI_1 i) ?_
            refine j_istore_n E dX7_near_38 (by decide) ?_
            refine J.sub [(3, .int (nI (i + 1))), (2, .int (nI i)), (1, .int (nI (totC (nPr d ss) ss.length i + rowC (nPr d ss) i (i + 1)))), (0, .ref m)] ⟨rfl, rfl, by rw [rowC_0 _ _ _ (Nat.le_refl _)]; rfl, rfl, trivial⟩ ?_
            exact inner (ss.length - (i + 1)) (i + 1) h G1 (by omega) (by omega) hM hG
    refine J.sub [(2, .int (nI 0)), (1, .int (nI (totC (nPr d ss) ss.length 0))), (0, .ref m)] ⟨rfl, rfl, rfl, trivial⟩ ?_
    exact outer ss.length 0 h G (by omega) hM gK.rf
  refine j_aload_n E dX7_near_0 rfl ?_
  refine j_aload_n E dX7_near_1 rfl ?_
  refine j_callV (np := 0) (C := RX7) (T := TX7) (N := 27) (ci := 8) E (m_isOpen v hM A hw) gX7_near_X7_isOpen rfl ⟨rfl, by decide, by decide, by decide +kernel⟩ dX7_near_2 (by omega) (by decide) rfl hM.obj rfl rfl (Nat.le_of_ble_eq_true rfl) (by omega) (by omega) (fun r9 h9 p9 => J.pure p9 ?_)
  refine J.wide (k' := 0) (n' := 0) (by omega) (by omega) ?_
  refine j_if_eq E (tgt := 12) dX7_near_5 (by decide) (fun c1 => ?_) (fun c1 => ?_)
  ·
    refine j_iconst (x := nI 0) E dX7_near_12 (by decide) ?_
    exact tail _ (by rw [cdNear, bI_f (bI_z.mp c1)]; rfl)
  ·
    refine j_iconst (x := nI 1) E dX7_near_8 (by decide) ?_
    refine j_goto E (tgt := 13) dX7_near_9 (by decide) ?_
    exact tail _ (by rw [cdNear, bI_t (bI_n.mp c1)]; rfl)
theorem iw_X7_pair_X7 : ∀ w ∈ u_ws RX7 TX7 27, w ∈ wsX7_pair := by decide +kernel
theorem m_pair (v : Nat) (hM : MR h0 h m a (lZ d) s I G) (A : MA ss s I G) (hw : wfSS ss) (hd : 1 ≤ d ∧ d ≤ 65536) (z side : Int32) : CM l B E0 D yX7_pair wsX7_pair (v + 5) 0 0 [.ref m, .int z, .int side] h (fun r h1 => (∃ y : Int32, r = some (.int y)) ∧ (∃ s1 G1, MR h0 h1 m a (lZ d) s1 I G1 ∧ s1 0 = cdPair ss z side ∧ (∀ k, k ≠ 0 → s1 k = s k) ∧ gK G G1 ∧ (cdPair ss z side = 0 → ∀ K, K < 2 ^ 31 → z = nI K → (∃ i j, kth (nPr d ss) ss.length K i j ∧ r = some (.int (if side = 0 then nI i else nI j))) ∨ (totC (nPr d ss) ss.length ss.length ≤ K ∧ r = some (.int (-1)))))) := by
  have hl := hw.1
  refine CM.of (cc := cX7_pair) (maxL := 6) (ret := (some .int)) (by decide) rfl (Nat.le_of_ble_eq_true rfl) (fun X E hin => ?_)
  show J X B D 6 _ h 0 0 0 [(0, .ref m), (1, .int z), (2, .int side)] []
  generalize hQ : jQ X B D _ _ _ = Q
  have tail : ∀ c, c = cdPair ss z side → (c = 0 ∨ 0 < c) → J X B D 6 Q h 0 0 30 [(0, .ref m), (1, .int z), (2, .int side)] [.int c, .ref m] := by
    intro c hc hc2
    refine j_putfield (ref := "ColourPartsModel") (C := RX7) (T := TX7) (N := 27) (ci := 8) E 0 dX7_pair_30 iw_X7_pair_X7 tyX7 tyX7_ok nmX7 rfl (by decide) (by decide +kernel) rfl rfl rfl rfl hM.obj (Nat.le_of_ble_eq_true rfl) ?_
    refine MR.gen (hM.pS 0 _ (by decide) rfl) (fun h hM => ?_)
    refine j_iload_n E dX7_pair_33 rfl ?_
    refine j_istore_n E dX7_pair_34 (by decide) ?_
    refine j_iconst (x := nI 0) E dX7_pair_35 (by decide) ?_
    refine j_istore E dX7_pair_36 (by decide) ?_
    have A1 : MA ss (uA s 0 c) I G := A.keep rfl ⟨rfl, rfl, rfl, rfl⟩ ⟨rfl, rfl, rfl⟩
    have e2 : uA s 0 c 2 = nI ss.length := A1.1
    rcases hc2 with h00 | h00
    · subst h00
      have hb : ¬ badP z side := fun w => by rw [cdPair, cI_t w] at hc; exact absurd hc (by decide)
      obtain ⟨K, hK, rfl⟩ := nI_of (fun w => hb (Or.inl w))
      have hKK : ∀ K2, K2 < 2 ^ 31 → nI K = nI K2 → K2 = K := fun K2 h e => ((nI_eq hK h).mp e).symm
      have outer : ∀ (t i : Nat) (h : HM) (G1 : Nat → Nat → Int64), i + t = ss.length → totC (nPr d ss) ss.length i ≤ K → MR h0 h m a (lZ d) (uA s 0 0) I G1 → gK G G1 → J X B D 6 Q h 0 0 38 [(4, .int (nI i)), (3, .int (nI (K - totC (nPr d ss) ss.length i))), (2, .int side), (0, .ref m)] [] := by
        intro t
        induction t with
        | zero =>
          intro i h G1 hi hle hM hG
          refine j_iload E dX7_pair_38 rfl ?_
          refine j_aload_n E dX7_pair_40 rfl ?_
          refine j_getfield (ref := "ColourPartsModel") (C := RX7) (T := TX7) (N := 27) (ci := 8) E 2 dX7_pair_41 iw_X7_pair_X7 rfl (by decide) (by decide +kernel) rfl hM.obj rfl ?_
          refine J.topi (x' := nI ss.length) (e2) ?_
          refine j_icmp_ge E (tgt := 111) dX7_pair_44 (by decide) (fun c1 => ?_) (fun c1 => ?_)
          ·
            refine j_aload_n E dX7_pair_111 rfl ?_
            refine j_getfield (ref := "ColourPartsModel") (C := RX7) (T := TX7) (N := 27) (ci := 8) E 0 dX7_pair_112 iw_X7_pair_X7 rfl (by decide) (by decide +kernel) rfl hM.obj rfl ?_
            refine J.topi (x' := (0 : Int32)) (uA_eq _ _ _) ?_
            refine j_if_le E (tgt := 122) dX7_pair_115 (by decide) (fun c5 => ?_) (fun c5 => ?_)
            ·
              refine j_iconst (x := (-1)) E dX7_pair_122 (by decide) ?_
              rw [← hQ]
              exact j_iret E dX7_pair_123 rfl rfl (by omega) (by omega) ⟨⟨_, rfl⟩, ⟨_, _, hM, (uA_eq _ _ _).trans hc, fun k h1 => uA_ne _ _ h1, hG, fun _ K2 h2 e => Or.inr ⟨by rw [hKK K2 h2 e]; rw [show i = ss.length by omega] at hle; exact hle, rfl⟩⟩⟩
            · exact absurd (by decide) c5
          · exact absurd (nI_le (show ss.length ≤ i by omega) (by omega)) c1
        | succ t ih =>
          intro i h G1 hi hle hM hG
          have hil : i < ss.length := by omega
          refine j_iload E dX7_pair_38 rfl ?_
          refine j_aload_n E dX7_pair_40 rfl ?_
          refine j_getfield (ref := "ColourPartsModel") (C := RX7) (T := TX7) (N := 27) (ci := 8) E 2 dX7_pair_41 iw_X7_pair_X7 rfl (by decide) (by decide +kernel) rfl hM.obj rfl ?_
          refine J.topi (x' := nI ss.length) (e2) ?_
          refine j_icmp_ge E (tgt := 111) dX7_pair_44 (by decide) (fun c1 => ?_) (fun c1 => ?_)
          · exact absurd c1 (nI_ge hil (by omega))
          ·
            refine j_aload_n E dX7_pair_47 rfl ?_
            refine j_getfield (ref := "ColourPartsModel") (C := RX7) (T := TX7) (N := 27) (ci := 8) E 0 dX7_pair_48 iw_X7_pair_X7 rfl (by decide) (by decide +kernel) rfl hM.obj rfl ?_
            refine J.topi (x' := (0 : Int32)) (uA_eq _ _ _) ?_
            refine j_if_ne E (tgt := 111) dX7_pair_51 (by decide) (fun c2 => ?_) (fun c2 => ?_)
            · exact absurd rfl c2
            · have inner : ∀ (t2 j : Nat) (h : HM) (G1 : Nat → Nat → Int64), j + t2 = ss.length → i < j → totC (nPr d ss) ss.length i + rowC (nPr d ss) i j ≤ K → MR h0 h m a (lZ d) (uA s 0 0) I G1 → gK G G1 → J X B D 6 Q h 0 0 60 [(5, .int (nI j)), (4, .int (nI i)), (3, .int (nI (K - (totC (nPr d ss) ss.length i + rowC (nPr d ss) i j)))), (2, .int side), (0, .ref m)] [] := by
                intro t2
                induction t2 with
                | zero =>
                  intro j h G1 hj hij hle hM hG
                  refine j_iload E dX7_pair_60 rfl ?_
                  refine j_aload_n E dX7_pair_62 rfl ?_
                  refine j_getfield (ref := "ColourPartsModel") (C := RX7) (T := TX7) (N := 27) (ci := 8) E 2 dX7_pair_63 iw_X7_pair_X7 rfl (by decide) (by decide +kernel) rfl hM.obj rfl ?_
                  refine J.topi (x' := nI ss.length) (e2) ?_
                  refine j_icmp_ge E (tgt := 105) dX7_pair_66 (by decide) (fun c3 => ?_) (fun c3 => ?_)
                  ·
                    refine j_iinc E dX7_pair_105 rfl (nI_1 i) (by decide) ?_
                    refine j_goto E (tgt := 38) dX7_pair_108 (by decide) ?_
                    refine J.sub [(4, .int (nI (i + 1))), (3, .int (nI (K - totC (nPr d ss) ss.length (i + 1)))), (2, .int side), (0, .ref m)] ⟨rfl, by rw [show j = ss.length by omega]; rfl, rfl, rfl, trivial⟩ ?_
                    exact ih (i + 1) h G1 (by omega) (by rw [show j = ss.length by omega] at hle; exact hle) hM hG
                  · exact absurd (nI_le (show ss.length ≤ j by omega) (by omega)) c3
                | succ t2 ih2 =>
                  intro j h G1 hj hij hle hM hG
                  have hjl : j < ss.length := by omega
                  refine j_iload E dX7_pair_60 rfl ?_
                  refine j_aload_n E dX7_pair_62 rfl ?_
                  refine j_getfield (ref := "ColourPartsModel") (C := RX7) (T := TX7) (N := 27) (ci := 8) E 2 dX7_pair_63 iw_X7_pair_X7 rfl (by decide) (by decide +kernel) rfl hM.obj rfl ?_
                  refine J.topi (x' := nI ss.length) (e2) ?_
                  refine j_icmp_ge E (tgt := 105) dX7_pair_66 (by decide) (fun c3 => ?_) (fun c3 => ?_)
                  · exact absurd c3 (nI_ge hjl (by omega))
                  ·
                    refine j_aload_n E dX7_pair_69 rfl ?_
                    refine j_iload E dX7_pair_70 rfl ?_
                    refine j_iload E dX7_pair_72 rfl ?_
                    refine j_callV (np := 2) (C := RX7) (T := TX7) (N := 27) (ci := 8) E (m_isNear v hM (A1.gk hG) hw hd hil hjl) gX7_pair_X7_isNear rfl ⟨rfl, by decide, by decide, by decide +kernel⟩ dX7_pair_74 (by omega) (by decide) rfl hM.obj rfl rfl (Nat.le_of_ble_eq_true rfl) (by omega) (by omega) (fun r h1 p => ?_)
                    obtain ⟨rfl, G2, hM, hG2⟩ := p
                    refine J.wide (k' := 0) (n' := 0) (by omega) (by omega) ?_
                    have hG3 := hG.tr hG2
                    have step : ∀ w, w = K - (totC (nPr d ss) ss.length i + rowC (nPr d ss) i (j + 1)) → totC (nPr d ss) ss.length i + rowC (nPr d ss) i (j + 1) ≤ K → J X B D 6 Q h1 0 0 99 [(5, .int (nI j)), (4, .int (nI i)), (3, .int (nI w)), (2, .int side), (0, .ref m)] [] := by
                      intro w hw2 hle2
                      subst hw2
                      refine j_iinc E dX7_pair_99 rfl (nI_1 j) (by decide) ?_
                      refine j_goto E (tgt := 60) dX7_pair_102 (by decide) ?_
                      refine J.sub [(5, .int (nI (j + 1))), (4, .int (nI i)), (3, .int (nI (K - (totC (nPr d ss) ss.length i + rowC (nPr d ss) i (j + 1))))), (2, .int side), (0, .ref m)] ⟨rfl, rfl, rfl, rfl, rfl, trivial⟩ ?_
                      exact ih2 (j + 1) h1 G2 (by omega) (by omega) hle2 hM hG3
                    refine j_if_eq E (tgt := 99) dX7_pair_77 (by decide) (fun c4 => ?_) (fun c4 => ?_)
                    · have er : rowC (nPr d ss) i (j + 1) = rowC (nPr d ss) i j := by show _ + bN _ = _; rw [bN_f (fun z => bI_z.mp c4 z.2)]; rfl
                      exact step _ (by rw [er]) (by rw [er]; exact hle)
                    · have hn := bI_n.mp c4
                      have er : rowC (nPr d ss) i (j + 1) = rowC (nPr d ss) i j + 1 := by show _ + bN _ = _; rw [bN_t ⟨hij, hn⟩]
                      refine j_iload_n E dX7_pair_80 rfl ?_
                      refine j_if_ne E (tgt := 96) dX7_pair_81 (by decide) (fun c6 => ?_) (fun c6 => ?_)
                      · have hlt : totC (nPr d ss) ss.length i + rowC (nPr d ss) i j < K := by
                          rcases Nat.lt_or_ge (totC (nPr d ss) ss.length i + rowC (nPr d ss) i j) K with q | q
                          · exact q
                          · exact absurd (by rw [show K - (totC (nPr d ss) ss.length i + rowC (nPr d ss) i j) = 0 by omega]; rfl) c6
                        refine j_iinc E dX7_pair_96 rfl (show nI (K - (totC (nPr d ss) ss.length i + rowC (nPr d ss) i j)) + Int32.ofInt (-1) = nI (K - (totC (nPr d ss) ss.length i + rowC (nPr d ss) i (j + 1))) by rw [er, show K - (totC (nPr d ss) ss.length i + rowC (nPr d ss) i j) = (K - (totC (nPr d ss) ss.length i + (rowC (nPr d ss) i j + 1))) + 1 by omega]; exact nI_m1 _) (by decide) ?_
                        refine J.sub [(5, .int (nI j)), (4, .int (nI i)), (3, .int (nI (K - (totC (nPr d ss) ss.length i + rowC (nPr d ss) i (j + 1))))), (2, .int side), (0, .ref m)] ⟨rfl, rfl, rfl, rfl, rfl, trivial⟩ ?_
                        exact step _ rfl (by rw [er]; omega)
                      · have e0 : K - (totC (nPr d ss) ss.length i + rowC (nPr d ss) i j) = 0 := (nI_eq (by omega) (by decide)).mp c6
                        have hkt : kth (nPr d ss) ss.length K i j := ⟨hij, hjl, hn, by omega⟩
                        refine j_iload_n E dX7_pair_84 rfl ?_
                        refine j_if_ne E (tgt := 93) dX7_pair_85 (by decide) (fun c7 => ?_) (fun c7 => ?_)
                        ·
                          refine j_iload E dX7_pair_93 rfl ?_
                          rw [← hQ]
                          exact j_iret E dX7_pair_95 rfl rfl (by omega) (by omega) ⟨⟨_, rfl⟩, ⟨_, _, hM, (uA_eq _ _ _).trans hc, fun k h1 => uA_ne _ _ h1, hG3, fun _ K2 h2 e => Or.inl ⟨i, j, by rw [hKK K2 h2 e]; exact hkt, by rw [if_neg c7]⟩⟩⟩
                        ·
                          refine j_iload E dX7_pair_88 rfl ?_
                          refine j_goto E (tgt := 95) dX7_pair_90 (by decide) ?_
                          rw [← hQ]
                          exact j_iret E dX7_pair_95 rfl rfl (by omega) (by omega) ⟨⟨_, rfl⟩, ⟨_, _, hM, (uA_eq _ _ _).trans hc, fun k h1 => uA_ne _ _ h1, hG3, fun _ K2 h2 e => Or.inl ⟨i, j, by rw [hKK K2 h2 e]; exact hkt, by rw [if_pos c7]⟩⟩⟩
              refine j_iload E dX7_pair_54 rfl ?_
              refine j_iconst (x := nI 1) E dX7_pair_56 (by decide) ?_
              refine j_iadd E dX7_pair_57 ?_
              refine J.topi (x' := nI (i + 1)) (nI_1 i) ?_
              refine j_istore E dX7_pair_58 (by decide) ?_
              refine J.sub [(5, .int (nI (i + 1))), (4, .int (nI i)), (3, .int (nI (K - (totC (nPr d ss) ss.length i + rowC (nPr d ss) i (i + 1))))), (2, .int side), (0, .ref m)] ⟨rfl, rfl, by rw [rowC_0 _ _ _ (Nat.le_refl _)]; rfl, rfl, rfl, trivial⟩ ?_
              exact inner (ss.length - (i + 1)) (i + 1) h G1 (by omega) (by omega) (by rw [rowC_0 _ _ _ (Nat.le_refl _)]; exact hle) hM hG
      refine J.sub [(4, .int (nI 0)), (3, .int (nI (K - totC (nPr d ss) ss.length 0))), (2, .int side), (0, .ref m)] ⟨rfl, rfl, rfl, rfl, trivial⟩ ?_
      exact outer ss.length 0 h G (by omega) (Nat.zero_le _) hM gK.rf
    · have c0 : ¬ c = 0 := fun e => by rw [e] at h00; exact absurd h00 (by decide)
      have fin : ∀ z3, J X B D 6 Q h 0 0 111 [(3, z3), (0, .ref m)] [] := by
        intro z3
        refine j_aload_n E dX7_pair_111 rfl ?_
        refine j_getfield (ref := "ColourPartsModel") (C := RX7) (T := TX7) (N := 27) (ci := 8) E 0 dX7_pair_112 iw_X7_pair_X7 rfl (by decide) (by decide +kernel) rfl hM.obj rfl ?_
        refine J.topi (x' := c) (uA_eq _ _ _) ?_
        refine j_if_le E (tgt := 122) dX7_pair_115 (by decide) (fun c5 => ?_) (fun c5 => ?_)
        · exact absurd h00 (Int32.not_lt.mpr c5)
        ·
          refine j_iconst (x := nI 0) E dX7_pair_118 (by decide) ?_
          refine j_goto E (tgt := 123) dX7_pair_119 (by decide) ?_
          rw [← hQ]
          exact j_iret E dX7_pair_123 rfl rfl (by omega) (by omega) ⟨⟨_, rfl⟩, ⟨_, _, hM, (uA_eq _ _ _).trans hc, fun k h1 => uA_ne _ _ h1, gK.rf, fun w => absurd (hc.trans w) c0⟩⟩
      refine j_iload E dX7_pair_38 rfl ?_
      refine j_aload_n E dX7_pair_40 rfl ?_
      refine j_getfield (ref := "ColourPartsModel") (C := RX7) (T := TX7) (N := 27) (ci := 8) E 2 dX7_pair_41 iw_X7_pair_X7 rfl (by decide) (by decide +kernel) rfl hM.obj rfl ?_
      refine j_icmp_ge E (tgt := 111) dX7_pair_44 (by decide) (fun c1 => ?_) (fun c1 => ?_)
      · refine J.sub [(3, .int z), (0, .ref m)] ⟨rfl, rfl, trivial⟩ ?_
        exact fin _
      ·
        refine j_aload_n E dX7_pair_47 rfl ?_
        refine j_getfield (ref := "ColourPartsModel") (C := RX7) (T := TX7) (N := 27) (ci := 8) E 0 dX7_pair_48 iw_X7_pair_X7 rfl (by decide) (by decide +kernel) rfl hM.obj rfl ?_
        refine J.topi (x' := c) (uA_eq _ _ _) ?_
        refine j_if_ne E (tgt := 111) dX7_pair_51 (by decide) (fun c2 => ?_) (fun c2 => ?_)
        · refine J.sub [(3, .int z), (0, .ref m)] ⟨rfl, rfl, trivial⟩ ?_
          exact fin _
        · exact absurd c2 c0
  refine j_aload_n E dX7_pair_0 rfl ?_
  refine j_iload_n E dX7_pair_1 rfl ?_
  have bad : badP z side → J X B D 6 Q h 0 0 14 [(0, .ref m), (1, .int z), (2, .int side)] [.ref m] := by
    intro w
    refine j_iconst (x := nI 1) E dX7_pair_14 (by decide) ?_
    refine j_goto E (tgt := 30) dX7_pair_15 (by decide) ?_
    exact tail _ (by rw [cdPair, cI_t w]; rfl) (Or.inr (by decide))
  refine j_if_lt E (tgt := 14) dX7_pair_2 (by decide) (fun c1 => ?_) (fun c1 => ?_)
  · exact bad (Or.inl c1)
  ·
    refine j_iload_n E dX7_pair_5 rfl ?_
    refine j_if_lt E (tgt := 14) dX7_pair_6 (by decide) (fun c2 => ?_) (fun c2 => ?_)
    · exact bad (Or.inr (Or.inl c2))
    ·
      refine j_iload_n E dX7_pair_9 rfl ?_
      refine j_iconst (x := nI 1) E dX7_pair_10 (by decide) ?_
      refine j_icmp_le E (tgt := 18) dX7_pair_11 (by decide) (fun c3 => ?_) (fun c3 => ?_)
      · have nb : ¬ badP z side := fun w => w.elim c1 (fun w => w.elim c2 (fun w => Int32.not_lt.mpr c3 w))
        refine j_aload_n E dX7_pair_18 rfl ?_
        refine j_callV (np := 0) (C := RX7) (T := TX7) (N := 27) (ci := 8) E (m_isOpen v hM A hw) gX7_pair_X7_isOpen rfl ⟨rfl, by decide, by decide, by decide +kernel⟩ dX7_pair_19 (by omega) (by decide) rfl hM.obj rfl rfl (Nat.le_of_ble_eq_true rfl) (by omega) (by omega) (fun r9 h9 p9 => J.pure p9 ?_)
        refine J.wide (k' := 0) (n' := 0) (by omega) (by omega) ?_
        refine j_if_eq E (tgt := 29) dX7_pair_22 (by decide) (fun c4 => ?_) (fun c4 => ?_)
        ·
          refine j_iconst (x := nI 0) E dX7_pair_29 (by decide) ?_
          exact tail _ (by rw [cdPair, cI_f nb, cI_f (bI_z.mp c4)]; rfl) (Or.inl rfl)
        ·
          refine j_iconst (x := nI 2) E dX7_pair_25 (by decide) ?_
          refine j_goto E (tgt := 30) dX7_pair_26 (by decide) ?_
          exact tail _ (by rw [cdPair, cI_f nb, cI_t (bI_n.mp c4)]; rfl) (Or.inr (by decide))
      · exact bad (Or.inr (Or.inr (Int32.not_le.mp c3)))
end M7
