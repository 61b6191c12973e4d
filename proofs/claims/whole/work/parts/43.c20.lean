/-! the search's cells -/
def SR (h : HM) (sr : Nat) (q : Nat → Nat) (many n few : Nat) (NN : Nat → Nat → Prop) (t : Nat → Int) (af : Nat → Prop) (HH : Nat → Nat → Prop) (w b : Nat → Int32) : Prop :=
  h sr = some (hO 5 [.int (nI many), .int (nI n), .ref (q 2), .ref (q 3), .ref (q 4), .ref (q 5), .ref (q 6), .ref (q 7), .int (nI few)]) ∧ (∃ f, h (q 2) = some (hI 12 f) ∧ ∀ p, p < n → f p = bS (NN p)) ∧ (∃ f, h (q 3) = some (hI 12 f) ∧ ∀ p, p < n → f p = iZ (t p)) ∧ (∃ f, h (q 4) = some (hZ 12 f) ∧ ∀ p, p < n → f p = bI (af p)) ∧ (∃ f, h (q 5) = some (hI 4 f) ∧ ∀ c, c < 4 → f c = bS (HH c)) ∧ h (q 6) = some (hI 12 w) ∧ h (q 7) = some (hI 12 b) ∧
  (∀ i j, 2 ≤ i → i ≤ 7 → 2 ≤ j → j ≤ 7 → i ≠ j → q i ≠ q j) ∧ many ≤ 4 ∧ n ≤ 12 ∧ few ≤ 12 ∧ ∀ p, p < n → -1 ≤ t p ∧ t p ≤ 3
def hv (t : Nat → Int) (NN HH : Nat → Nat → Prop) (p c : Nat) : Prop := (t p = -1 ∨ t p = (c : Int)) ∧ ∀ i, i < 12 → ¬ (NN p i ∧ HH c i)
def dead (t : Nat → Int) (NN HH : Nat → Nat → Prop) (many n p : Nat) : Prop := ∃ q, p ≤ q ∧ q < n ∧ ∀ c, c < many → ¬ hv t NN HH q c
section C20
variable {l : Launch} {B E0 : Nat} {D : va_G} {h : HM} {sr many n few : Nat} {q : Nat → Nat} {NN HH : Nat → Nat → Prop} {t : Nat → Int} {af : Nat → Prop} {w b : Nat → Int32}
theorem iw_X4_isFound_X4 : ∀ w ∈ u_ws RX4 TX4 9, w ∈ wsX4_isFound := by decide +kernel
theorem c_isFound (v : Nat) (R : SR h sr q many n few NN t af HH w b) : CM l B E0 D yX4_isFound wsX4_isFound (v + 1) 0 0 [.ref sr] h (fun r h1 => r = some (.int (bI (few < 12))) ∧ h1 = h) := by
  have R1 := R.1
  have hf := R.2.2.2.2.2.2.2.2.2.2.1
  refine CM.of (cc := cX4_isFound) (maxL := 1) (ret := (some .boolean)) (by decide) rfl (Nat.le_of_ble_eq_true rfl) (fun X E hin => ?_)
  show J X B D 1 _ h 0 0 0 [(0, .ref sr)] []
  generalize hQ : jQ X B D _ _ _ = Q
  refine j_aload_n E dX4_isFound_0 rfl ?_
  refine j_getfield (ref := "ColourParts$Search") (C := RX4) (T := TX4) (N := 9) (ci := 5) E 8 dX4_isFound_1 iw_X4_isFound_X4 rfl (by decide) (by decide +kernel) rfl (by first | with_reducible assumption | exact hput_eq _ _ _ | exact (hput_ne _ (by first | assumption | exact Ne.symm (by assumption))).trans (by assumption) | exact (hput_ne _ (by first | assumption | exact Ne.symm (by assumption))).trans (hput_eq _ _ _) | exact (hput_ne _ (by first | assumption | exact Ne.symm (by assumption))).trans ((hput_ne _ (by first | assumption | exact Ne.symm (by assumption))).trans (by assumption)) | exact (hput_ne _ (by first | assumption | exact Ne.symm (by assumption))).trans ((hput_ne _ (by first | assumption | exact Ne.symm (by assumption))).trans (hput_eq _ _ _))) rfl ?_
  refine j_bipush (x := nI 12) E dX4_isFound_4 (by decide) ?_
  refine j_icmp_ge E (tgt := 13) dX4_isFound_6 (by decide) (fun c => ?_) (fun c => ?_)
  ·
    refine j_iconst (x := nI 0) E dX4_isFound_13 (by decide) ?_
    refine J.topi (x' := bI (few < 12)) ((bI_f (fun z => nI_ge z (by decide) c)).symm) ?_
    rw [← hQ]
    exact j_iret E dX4_isFound_14 rfl (nb_bI _) (by omega) (by omega) ⟨rfl, rfl⟩
  ·
    refine j_iconst (x := nI 1) E dX4_isFound_9 (by decide) ?_
    refine J.topi (x' := bI (few < 12)) ((bI_t (Nat.not_le.mp (fun z => c (nI_le z (by omega))))).symm) ?_
    refine j_goto E (tgt := 14) dX4_isFound_10 (by decide) ?_
    rw [← hQ]
    exact j_iret E dX4_isFound_14 rfl (nb_bI _) (by omega) (by omega) ⟨rfl, rfl⟩
theorem iw_X4_canHave_X4 : ∀ w ∈ u_ws RX4 TX4 9, w ∈ wsX4_canHave := by decide +kernel
theorem c_canHave (v : Nat) (R : SR h sr q many n few NN t af HH w b) {p c : Nat} (hp : p < n) (hc : c < many) : CM l B E0 D yX4_canHave wsX4_canHave (v + 1) 0 0 [.ref sr, .int (nI p), .int (nI c)] h (fun r h1 => r = some (.int (bI (hv t NN HH p c))) ∧ h1 = h) := by
  obtain ⟨R1, ⟨f2, F2, G2⟩, ⟨f3, F3, G3⟩, -, ⟨f5, F5, G5⟩, -, -, -, m4, n12, -, ht⟩ := R
  have htp := ht p hp
  refine CM.of (cc := cX4_canHave) (maxL := 3) (ret := (some .boolean)) (by decide) rfl (Nat.le_of_ble_eq_true rfl) (fun X E hin => ?_)
  show J X B D 3 _ h 0 0 0 [(0, .ref sr), (1, .int (nI p)), (2, .int (nI c))] []
  generalize hQ : jQ X B D _ _ _ = Q
  have rest : (t p = -1 ∨ t p = (c : Int)) → J X B D 3 Q h 0 0 20 [(0, .ref sr), (1, .int (nI p)), (2, .int (nI c))] [] := by
    intro h1
    refine j_aload_n E dX4_canHave_20 rfl ?_
    refine j_getfield (ref := "ColourParts$Search") (C := RX4) (T := TX4) (N := 9) (ci := 5) E 2 dX4_canHave_21 iw_X4_canHave_X4 rfl (by decide) (by decide +kernel) rfl (by first | with_reducible assumption | exact hput_eq _ _ _ | exact (hput_ne _ (by first | assumption | exact Ne.symm (by assumption))).trans (by assumption) | exact (hput_ne _ (by first | assumption | exact Ne.symm (by assumption))).trans (hput_eq _ _ _) | exact (hput_ne _ (by first | assumption | exact Ne.symm (by assumption))).trans ((hput_ne _ (by first | assumption | exact Ne.symm (by assumption))).trans (by assumption)) | exact (hput_ne _ (by first | assumption | exact Ne.symm (by assumption))).trans ((hput_ne _ (by first | assumption | exact Ne.symm (by assumption))).trans (hput_eq _ _ _))) rfl ?_
    refine j_iload_n E dX4_canHave_24 rfl ?_
    refine j_iaload E p dX4_canHave_25 (by first | with_reducible assumption | exact hput_eq _ _ _ | exact (hput_ne _ (by first | assumption | exact Ne.symm (by assumption))).trans (by assumption) | exact (hput_ne _ (by first | assumption | exact Ne.symm (by assumption))).trans (hput_eq _ _ _) | exact (hput_ne _ (by first | assumption | exact Ne.symm (by assumption))).trans ((hput_ne _ (by first | assumption | exact Ne.symm (by assumption))).trans (by assumption)) | exact (hput_ne _ (by first | assumption | exact Ne.symm (by assumption))).trans ((hput_ne _ (by first | assumption | exact Ne.symm (by assumption))).trans (hput_eq _ _ _))) rfl (by omega) (by omega) ?_
    refine J.topi (x' := bS (NN p)) (G2 p hp) ?_
    refine j_aload_n E dX4_canHave_26 rfl ?_
    refine j_getfield (ref := "ColourParts$Search") (C := RX4) (T := TX4) (N := 9) (ci := 5) E 5 dX4_canHave_27 iw_X4_canHave_X4 rfl (by decide) (by decide +kernel) rfl (by first | with_reducible assumption | exact hput_eq _ _ _ | exact (hput_ne _ (by first | assumption | exact Ne.symm (by assumption))).trans (by assumption) | exact (hput_ne _ (by first | assumption | exact Ne.symm (by assumption))).trans (hput_eq _ _ _) | exact (hput_ne _ (by first | assumption | exact Ne.symm (by assumption))).trans ((hput_ne _ (by first | assumption | exact Ne.symm (by assumption))).trans (by assumption)) | exact (hput_ne _ (by first | assumption | exact Ne.symm (by assumption))).trans ((hput_ne _ (by first | assumption | exact Ne.symm (by assumption))).trans (hput_eq _ _ _))) rfl ?_
    refine j_iload_n E dX4_canHave_30 rfl ?_
    refine j_iaload E c dX4_canHave_31 (by first | with_reducible assumption | exact hput_eq _ _ _ | exact (hput_ne _ (by first | assumption | exact Ne.symm (by assumption))).trans (by assumption) | exact (hput_ne _ (by first | assumption | exact Ne.symm (by assumption))).trans (hput_eq _ _ _) | exact (hput_ne _ (by first | assumption | exact Ne.symm (by assumption))).trans ((hput_ne _ (by first | assumption | exact Ne.symm (by assumption))).trans (by assumption)) | exact (hput_ne _ (by first | assumption | exact Ne.symm (by assumption))).trans ((hput_ne _ (by first | assumption | exact Ne.symm (by assumption))).trans (hput_eq _ _ _))) rfl (by omega) (by omega) ?_
    refine J.topi (x' := bS (HH c)) (G5 c (by omega)) ?_
    refine j_iand E dX4_canHave_32 ?_
    refine j_if_ne E (tgt := 40) dX4_canHave_33 (by decide) (fun c1 => ?_) (fun c1 => ?_)
    ·
      refine j_iconst (x := nI 0) E dX4_canHave_40 (by decide) ?_
      refine J.topi (x' := bI (hv t NN HH p c)) ((bI_f (fun z => c1 (bS_meet.mpr z.2))).symm) ?_
      rw [← hQ]
      exact j_iret E dX4_canHave_41 rfl (nb_bI _) (by omega) (by omega) ⟨rfl, rfl⟩
    ·
      refine j_iconst (x := nI 1) E dX4_canHave_36 (by decide) ?_
      refine J.topi (x' := bI (hv t NN HH p c)) ((bI_t ⟨h1, bS_meet.mp c1⟩).symm) ?_
      refine j_goto E (tgt := 41) dX4_canHave_37 (by decide) ?_
      rw [← hQ]
      exact j_iret E dX4_canHave_41 rfl (nb_bI _) (by omega) (by omega) ⟨rfl, rfl⟩
  refine j_aload_n E dX4_canHave_0 rfl ?_
  refine j_getfield (ref := "ColourParts$Search") (C := RX4) (T := TX4) (N := 9) (ci := 5) E 3 dX4_canHave_1 iw_X4_canHave_X4 rfl (by decide) (by decide +kernel) rfl (by first | with_reducible assumption | exact hput_eq _ _ _ | exact (hput_ne _ (by first | assumption | exact Ne.symm (by assumption))).trans (by assumption) | exact (hput_ne _ (by first | assumption | exact Ne.symm (by assumption))).trans (hput_eq _ _ _) | exact (hput_ne _ (by first | assumption | exact Ne.symm (by assumption))).trans ((hput_ne _ (by first | assumption | exact Ne.symm (by assumption))).trans (by assumption)) | exact (hput_ne _ (by first | assumption | exact Ne.symm (by assumption))).trans ((hput_ne _ (by first | assumption | exact Ne.symm (by assumption))).trans (hput_eq _ _ _))) rfl ?_
  refine j_iload_n E dX4_canHave_4 rfl ?_
  refine j_iaload E p dX4_canHave_5 (by first | with_reducible assumption | exact hput_eq _ _ _ | exact (hput_ne _ (by first | assumption | exact Ne.symm (by assumption))).trans (by assumption) | exact (hput_ne _ (by first | assumption | exact Ne.symm (by assumption))).trans (hput_eq _ _ _) | exact (hput_ne _ (by first | assumption | exact Ne.symm (by assumption))).trans ((hput_ne _ (by first | assumption | exact Ne.symm (by assumption))).trans (by assumption)) | exact (hput_ne _ (by first | assumption | exact Ne.symm (by assumption))).trans ((hput_ne _ (by first | assumption | exact Ne.symm (by assumption))).trans (hput_eq _ _ _))) rfl (by omega) (by omega) ?_
  refine J.topi (x' := iZ (t p)) (G3 p hp) ?_
  refine j_iconst (x := (-1)) E dX4_canHave_6 (by decide) ?_
  refine j_icmp_eq E (tgt := 20) dX4_canHave_7 (by decide) (fun c1 => ?_) (fun c1 => ?_)
  · exact rest (Or.inl ((iZ_eq (by omega) (by omega)).mp (show iZ (t p) = iZ (-1) from c1)))
  ·
    refine j_aload_n E dX4_canHave_10 rfl ?_
    refine j_getfield (ref := "ColourParts$Search") (C := RX4) (T := TX4) (N := 9) (ci := 5) E 3 dX4_canHave_11 iw_X4_canHave_X4 rfl (by decide) (by decide +kernel) rfl (by first | with_reducible assumption | exact hput_eq _ _ _ | exact (hput_ne _ (by first | assumption | exact Ne.symm (by assumption))).trans (by assumption) | exact (hput_ne _ (by first | assumption | exact Ne.symm (by assumption))).trans (hput_eq _ _ _) | exact (hput_ne _ (by first | assumption | exact Ne.symm (by assumption))).trans ((hput_ne _ (by first | assumption | exact Ne.symm (by assumption))).trans (by assumption)) | exact (hput_ne _ (by first | assumption | exact Ne.symm (by assumption))).trans ((hput_ne _ (by first | assumption | exact Ne.symm (by assumption))).trans (hput_eq _ _ _))) rfl ?_
    refine j_iload_n E dX4_canHave_14 rfl ?_
    refine j_iaload E p dX4_canHave_15 (by first | with_reducible assumption | exact hput_eq _ _ _ | exact (hput_ne _ (by first | assumption | exact Ne.symm (by assumption))).trans (by assumption) | exact (hput_ne _ (by first | assumption | exact Ne.symm (by assumption))).trans (hput_eq _ _ _) | exact (hput_ne _ (by first | assumption | exact Ne.symm (by assumption))).trans ((hput_ne _ (by first | assumption | exact Ne.symm (by assumption))).trans (by assumption)) | exact (hput_ne _ (by first | assumption | exact Ne.symm (by assumption))).trans ((hput_ne _ (by first | assumption | exact Ne.symm (by assumption))).trans (hput_eq _ _ _))) rfl (by omega) (by omega) ?_
    refine J.topi (x' := iZ (t p)) (G3 p hp) ?_
    refine j_iload_n E dX4_canHave_16 rfl ?_
    refine j_icmp_ne E (tgt := 40) dX4_canHave_17 (by decide) (fun c2 => ?_) (fun c2 => ?_)
    ·
      refine j_iconst (x := nI 0) E dX4_canHave_40 (by decide) ?_
      refine J.topi (x' := bI (hv t NN HH p c)) ((bI_f (fun z => z.1.elim (fun e => c1 (by rw [e]; rfl)) (fun e => c2 (by rw [e]; rfl)))).symm) ?_
      rw [← hQ]
      exact j_iret E dX4_canHave_41 rfl (nb_bI _) (by omega) (by omega) ⟨rfl, rfl⟩
    · exact rest (Or.inr ((iZ_eq (by omega) (by omega)).mp (show iZ (t p) = iZ (c : Int) from c2)))
theorem iw_X4_isDeadEnd_X4 : ∀ w ∈ u_ws RX4 TX4 9, w ∈ wsX4_isDeadEnd := by decide +kernel
theorem c_isDeadEnd (v : Nat) (R : SR h sr q many n few NN t af HH w b) {p : Nat} (hp : p ≤ n) : CM l B E0 D yX4_isDeadEnd wsX4_isDeadEnd (v + 2) 0 0 [.ref sr, .int (nI p)] h (fun r h1 => r = some (.int (bI (dead t NN HH many n p))) ∧ h1 = h) := by
  have R0 := R
  obtain ⟨R1, -, -, -, -, -, -, -, m4, n12, -, ht⟩ := R
  refine CM.of (cc := cX4_isDeadEnd) (maxL := 5) (ret := (some .boolean)) (by decide) rfl (Nat.le_of_ble_eq_true rfl) (fun X E hin => ?_)
  show J X B D 5 _ h 0 0 0 [(0, .ref sr), (1, .int (nI p))] []
  generalize hQ : jQ X B D _ _ _ = Q
  have outer : ∀ (u i : Nat), i + u = n → p ≤ i → (∀ j, p ≤ j → j < i → ∃ c, c < many ∧ hv t NN HH j c) → J X B D 5 Q h 0 0 2 [(2, .int (nI i)), (0, .ref sr)] [] := by
    intro u
    induction u with
    | zero =>
      intro i hi hpi hno
      refine j_iload_n E dX4_isDeadEnd_2 rfl ?_
      refine j_aload_n E dX4_isDeadEnd_3 rfl ?_
      refine j_getfield (ref := "ColourParts$Search") (C := RX4) (T := TX4) (N := 9) (ci := 5) E 1 dX4_isDeadEnd_4 iw_X4_isDeadEnd_X4 rfl (by decide) (by decide +kernel) rfl (by first | with_reducible assumption | exact hput_eq _ _ _ | exact (hput_ne _ (by first | assumption | exact Ne.symm (by assumption))).trans (by assumption) | exact (hput_ne _ (by first | assumption | exact Ne.symm (by assumption))).trans (hput_eq _ _ _) | exact (hput_ne _ (by first | assumption | exact Ne.symm (by assumption))).trans ((hput_ne _ (by first | assumption | exact Ne.symm (by assumption))).trans (by assumption)) | exact (hput_ne _ (by first | assumption | exact Ne.symm (by assumption))).trans ((hput_ne _ (by first | assumption | exact Ne.symm (by assumption))).trans (hput_eq _ _ _))) rfl ?_
      refine j_icmp_ge E (tgt := 54) dX4_isDeadEnd_7 (by decide) (fun c1 => ?_) (fun c1 => ?_)
      · have nd : ¬ dead t NN HH many n p := by
          rintro ⟨j, h1, h2, h3⟩
          obtain ⟨c, h4, h5⟩ := hno j h1 (by omega)
          exact h3 c h4 h5
        refine j_iconst (x := nI 0) E dX4_isDeadEnd_54 (by decide) ?_
        refine J.topi (x' := bI (dead t NN HH many n p)) ((bI_f nd).symm) ?_
        rw [← hQ]
        exact j_iret E dX4_isDeadEnd_55 rfl (nb_bI _) (by omega) (by omega) ⟨rfl, rfl⟩
      · exact absurd (nI_le (show n ≤ i by omega) (by omega)) c1
    | succ u ih =>
      intro i hi hpi hno
      have hil : i < n := by omega
      have after : ∀ z : Prop, (z → ∃ c, c < many ∧ hv t NN HH i c) → (¬ z → ∀ c, c < many → ¬ hv t NN HH i c) → J X B D 5 Q h 0 0 42 [(3, .int (bI z)), (2, .int (nI i)), (0, .ref sr)] [] := by
        intro z h1 h2
        refine j_iload_n E dX4_isDeadEnd_42 rfl ?_
        refine j_if_ne E (tgt := 48) dX4_isDeadEnd_43 (by decide) (fun c1 => ?_) (fun c1 => ?_)
        ·
          refine j_iinc E dX4_isDeadEnd_48 rfl (nI_1 i) (by decide) ?_
          refine j_goto E (tgt := 2) dX4_isDeadEnd_51 (by decide) ?_
          refine J.sub [(2, .int (nI (i + 1))), (0, .ref sr)] ⟨rfl, rfl, trivial⟩ ?_
          refine ih (i + 1) (by omega) (by omega) (fun j h3 h4 => ?_)
          by_cases e : j = i
          · rw [e]; exact h1 (bI_n.mp c1)
          · exact hno j h3 (by omega)
        ·
          refine j_iconst (x := nI 1) E dX4_isDeadEnd_46 (by decide) ?_
          refine J.topi (x' := bI (dead t NN HH many n p)) ((bI_t ⟨i, hpi, hil, h2 (bI_z.mp c1)⟩).symm) ?_
          rw [← hQ]
          exact j_iret E dX4_isDeadEnd_47 rfl (nb_bI _) (by omega) (by omega) ⟨rfl, rfl⟩
      have inner : ∀ (u2 c : Nat), c + u2 = many → ∀ z : Prop, (z → ∃ c, c < many ∧ hv t NN HH i c) → (¬ z → ∀ c2, c2 < c → ¬ hv t NN HH i c2) → J X B D 5 Q h 0 0 15 [(4, .int (nI c)), (3, .int (bI z)), (2, .int (nI i)), (0, .ref sr)] [] := by
        intro u2
        induction u2 with
        | zero =>
          intro c hc z h1 h2
          refine j_iload E dX4_isDeadEnd_15 rfl ?_
          refine j_aload_n E dX4_isDeadEnd_17 rfl ?_
          refine j_getfield (ref := "ColourParts$Search") (C := RX4) (T := TX4) (N := 9) (ci := 5) E 0 dX4_isDeadEnd_18 iw_X4_isDeadEnd_X4 rfl (by decide) (by decide +kernel) rfl (by first | with_reducible assumption | exact hput_eq _ _ _ | exact (hput_ne _ (by first | assumption | exact Ne.symm (by assumption))).trans (by assumption) | exact (hput_ne _ (by first | assumption | exact Ne.symm (by assumption))).trans (hput_eq _ _ _) | exact (hput_ne _ (by first | assumption | exact Ne.symm (by assumption))).trans ((hput_ne _ (by first | assumption | exact Ne.symm (by assumption))).trans (by assumption)) | exact (hput_ne _ (by first | assumption | exact Ne.symm (by assumption))).trans ((hput_ne _ (by first | assumption | exact Ne.symm (by assumption))).trans (hput_eq _ _ _))) rfl ?_
          refine j_icmp_ge E (tgt := 42) dX4_isDeadEnd_21 (by decide) (fun c1 => ?_) (fun c1 => ?_)
          · refine J.sub [(3, .int (bI z)), (2, .int (nI i)), (0, .ref sr)] ⟨rfl, rfl, rfl, trivial⟩ ?_
            exact after z h1 (fun h3 c2 h4 => h2 h3 c2 (by omega))
          · exact absurd (nI_le (show many ≤ c by omega) (by omega)) c1
        | succ u2 ih2 =>
          intro c hc z h1 h2
          refine j_iload E dX4_isDeadEnd_15 rfl ?_
          refine j_aload_n E dX4_isDeadEnd_17 rfl ?_
          refine j_getfield (ref := "ColourParts$Search") (C := RX4) (T := TX4) (N := 9) (ci := 5) E 0 dX4_isDeadEnd_18 iw_X4_isDeadEnd_X4 rfl (by decide) (by decide +kernel) rfl (by first | with_reducible assumption | exact hput_eq _ _ _ | exact (hput_ne _ (by first | assumption | exact Ne.symm (by assumption))).trans (by assumption) | exact (hput_ne _ (by first | assumption | exact Ne.symm (by assumption))).trans (hput_eq _ _ _) | exact (hput_ne _ (by first | assumption | exact Ne.symm (by assumption))).trans ((hput_ne _ (by first | assumption | exact Ne.symm (by assumption))).trans (by assumption)) | exact (hput_ne _ (by first | assumption | exact Ne.symm (by assumption))).trans ((hput_ne _ (by first | assumption | exact Ne.symm (by assumption))).trans (hput_eq _ _ _))) rfl ?_
          refine j_icmp_ge E (tgt := 42) dX4_isDeadEnd_21 (by decide) (fun c1 => ?_) (fun c1 => ?_)
          · exact absurd c1 (nI_ge (show c < many by omega) (by omega))
          ·
            refine j_iload_n E dX4_isDeadEnd_24 rfl ?_
            refine j_if_ne E (tgt := 42) dX4_isDeadEnd_25 (by decide) (fun c2 => ?_) (fun c2 => ?_)
            · refine J.sub [(3, .int (bI z)), (2, .int (nI i)), (0, .ref sr)] ⟨rfl, rfl, rfl, trivial⟩ ?_
              exact after z h1 (fun h3 => absurd (bI_n.mp c2) h3)
            · have nz := bI_z.mp c2
              refine j_aload_n E dX4_isDeadEnd_28 rfl ?_
              refine j_iload_n E dX4_isDeadEnd_29 rfl ?_
              refine j_iload E dX4_isDeadEnd_30 rfl ?_
              refine j_callV (np := 2) (C := RX4) (T := TX4) (N := 9) (ci := 5) E (c_canHave v R0 hil (show c < many by omega)) gX4_isDeadEnd_X4_canHave rfl ⟨rfl, by decide, by decide, by decide +kernel⟩ dX4_isDeadEnd_32 (by omega) (by decide) rfl (by first | with_reducible assumption | exact hput_eq _ _ _ | exact (hput_ne _ (by first | assumption | exact Ne.symm (by assumption))).trans (by assumption) | exact (hput_ne _ (by first | assumption | exact Ne.symm (by assumption))).trans (hput_eq _ _ _) | exact (hput_ne _ (by first | assumption | exact Ne.symm (by assumption))).trans ((hput_ne _ (by first | assumption | exact Ne.symm (by assumption))).trans (by assumption)) | exact (hput_ne _ (by first | assumption | exact Ne.symm (by assumption))).trans ((hput_ne _ (by first | assumption | exact Ne.symm (by assumption))).trans (hput_eq _ _ _))) rfl rfl (Nat.le_of_ble_eq_true rfl) (by omega) (by omega) (fun r9 h9 p9 => J.pure p9 ?_)
              refine J.wide (k' := 0) (n' := 0) (by omega) (by omega) ?_
              refine j_istore_n E dX4_isDeadEnd_35 (by decide) ?_
              refine j_iinc E dX4_isDeadEnd_36 rfl (nI_1 c) (by decide) ?_
              refine j_goto E (tgt := 15) dX4_isDeadEnd_39 (by decide) ?_
              refine J.sub [(4, .int (nI (c + 1))), (3, .int (bI (hv t NN HH i c))), (2, .int (nI i)), (0, .ref sr)] ⟨rfl, rfl, rfl, rfl, trivial⟩ ?_
              refine ih2 (c + 1) (by omega) _ (fun w => ⟨c, by omega, w⟩) (fun h3 c2 h4 => ?_)
              by_cases e : c2 = c
              · rw [e]; exact h3
              · exact h2 nz c2 (by omega)
      refine j_iload_n E dX4_isDeadEnd_2 rfl ?_
      refine j_aload_n E dX4_isDeadEnd_3 rfl ?_
      refine j_getfield (ref := "ColourParts$Search") (C := RX4) (T := TX4) (N := 9) (ci := 5) E 1 dX4_isDeadEnd_4 iw_X4_isDeadEnd_X4 rfl (by decide) (by decide +kernel) rfl (by first | with_reducible assumption | exact hput_eq _ _ _ | exact (hput_ne _ (by first | assumption | exact Ne.symm (by assumption))).trans (by assumption) | exact (hput_ne _ (by first | assumption | exact Ne.symm (by assumption))).trans (hput_eq _ _ _) | exact (hput_ne _ (by first | assumption | exact Ne.symm (by assumption))).trans ((hput_ne _ (by first | assumption | exact Ne.symm (by assumption))).trans (by assumption)) | exact (hput_ne _ (by first | assumption | exact Ne.symm (by assumption))).trans ((hput_ne _ (by first | assumption | exact Ne.symm (by assumption))).trans (hput_eq _ _ _))) rfl ?_
      refine j_icmp_ge E (tgt := 54) dX4_isDeadEnd_7 (by decide) (fun c1 => ?_) (fun c1 => ?_)
      · exact absurd c1 (nI_ge hil (by omega))
      ·
        refine j_iconst (x := nI 0) E dX4_isDeadEnd_10 (by decide) ?_
        refine j_istore_n E dX4_isDeadEnd_11 (by decide) ?_
        refine j_iconst (x := nI 0) E dX4_isDeadEnd_12 (by decide) ?_
        refine j_istore E dX4_isDeadEnd_13 (by decide) ?_
        refine J.sub [(4, .int (nI 0)), (3, .int (bI False)), (2, .int (nI i)), (0, .ref sr)] ⟨rfl, by rw [bI_f id]; rfl, rfl, rfl, trivial⟩ ?_
        exact inner many 0 (by omega) False (fun w => w.elim) (fun _ c2 h4 => absurd h4 (Nat.not_lt_zero _))
  refine j_iload_n E dX4_isDeadEnd_0 rfl ?_
  refine j_istore_n E dX4_isDeadEnd_1 (by decide) ?_
  refine J.sub [(2, .int (nI p)), (0, .ref sr)] ⟨rfl, rfl, trivial⟩ ?_
  exact outer (n - p) p (by omega) (Nat.le_refl _) (fun j h1 h2 => by omega)
end C20
