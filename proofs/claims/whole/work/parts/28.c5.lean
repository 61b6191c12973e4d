/-! the class: what its cells hold; T gives each of its cells a mark, all else has mark 0 -/
def nearW (d : Int) (a b : SH) : Prop := ∃ i j, i < nc a / 2 ∧ j < nc b / 2 ∧ nrB d (bxA a i) (bxA b j)
def nbits (d : Int) (ss : List SH) (j : Nat) : Nat → Prop := fun i => i < ss.length ∧ i ≠ j ∧ nearW d (gS ss j) (gS ss i)
def gG (gs : List SG) (j : Nat) : SG := gs.getD j (0, 0, 0, 0, [])
def shT (T : Nat → Nat) (E0 j : Nat) (g : SG) : Prop := T g.1 = 8 * j + 16 ∧ T g.2.1 = 8 * j + 17 ∧ (g.2.2.1 ≠ E0 → T g.2.2.1 = 8 * j + 18) ∧ T g.2.2.2.1 = 8 * j + 19 ∧ ∀ y ∈ g.2.2.2.2, T y = 3
def usB (ps : KPs) (j K : Nat) : Prop := ∃ f, isF ps j f ∧ f + K + 1 < ps.length ∧ kS ps (f + K + 1) = j ∧ ¬ kC ps (f + K) = kC ps (f + K + 1)
def KR (h : HM) (T : Nat → Nat) (ko : Nat) (ps : KPs) : Prop := ∃ k0 k1 k2 k3 k4 f0 f1 f2 f3 f4, (T ko = 6 ∧ T k0 = 6 ∧ T k1 = 6 ∧ T k2 = 6 ∧ T k3 = 6 ∧ T k4 = 6) ∧ h ko = some (hO 2 [.ref k0, .ref k1, .ref k2, .ref k3, .ref k4, .int (nI (uC (kS ps) (kC ps) ps.length))]) ∧ (h k0 = some (hI 10 f0) ∧ h k1 = some (hI 10 f1) ∧ h k2 = some (hI 10 f2) ∧ h k3 = some (hI 4 f3) ∧ h k4 = some (hJ 4 f4)) ∧
  (∀ s, s < 10 → ((∃ f, isF ps s f ∧ f0 s = nI (kC ps f)) ∨ ((∀ f, ¬ isF ps s f) ∧ f0 s = -1)) ∧ (∃ n, n < 12 ∧ f1 s = nI n ∧ ∀ K, K < n ↔ usedOK (some ps) s K) ∧ f2 s = bS (usB ps s)) ∧
  ∀ c, c < 4 → f3 c = iZ (balU ps (nI c) 0 ps.length) ∧ f4 c = lZ (balU ps (nI c) 1 ps.length)
def kpR (h : HM) (T : Nat → Nat) (kp : Option KPs) (kr : Value) : Prop := (kp = none ∧ kr = .null) ∨ ∃ ps ko, kp = some ps ∧ kr = .ref ko ∧ KR h T ko ps
/-- the class at c over the shapes ss -/
def CR (E0 : Nat) (h : HM) (T : Nat → Nat) (c : Nat) (d : Int) (ss : List SH) (kp : Option KPs) (rg : List Nat) (cl : Prop) (gs : List SG) (la le ra : Nat) (kr : Value) : Prop :=
  (∃ f0, h E0 = some (hQ 0 f0)) ∧ h c = some (hO 7 [.long (lZ (d * d)), .ref la, .ref ra, .int (nI rg.length), kr, .int (bI cl)]) ∧ AL E0 h la le (gs.map (·.1)) ∧ gs.length = ss.length ∧
  (∀ j, j < ss.length → shR E0 h (gS ss j) (bS (nbits d ss j)) (gG gs j)) ∧ (∃ f, h ra = some (hI 12 f) ∧ rg.length ≤ 12 ∧ ∀ k, k < rg.length → f k = nI (rg.getD k 0)) ∧ kpR h T kp kr ∧
  (T c = 4 ∧ T la = 1 ∧ (le ≠ E0 → T le = 2) ∧ T ra = 5 ∧ ∀ j, j < ss.length → shT T E0 j (gG gs j))
theorem gG_lt {gs : List SG} {j : Nat} (hj : j < gs.length) : gG gs j = gs[j] := by
  unfold gG
  rw [List.getD_eq_getElem?_getD, List.getElem?_eq_getElem hj]; rfl
section C5
variable {l : Launch} {B E0 : Nat} {D : va_G} {h : HM} {T : Nat → Nat} {c : Nat} {d : Int} {ss : List SH} {kp : Option KPs} {rg : List Nat} {cl : Prop} {gs : List SG} {la le ra : Nat} {kr : Value}
theorem CR.lst (R : CR E0 h T c d ss kp rg cl gs la le ra kr) : AL E0 h la le (gs.map (·.1)) ∧ (gs.map (·.1)).length = ss.length ∧ ∃ z, h la = some (hO 0 z) := ⟨R.2.2.1, by rw [List.length_map]; exact R.2.2.2.1, R.2.2.1.ty.1⟩
theorem CR.el (R : CR E0 h T c d ss kp rg cl gs la le ra kr) {j : Nat} (hj : j < (gs.map (·.1)).length) : (gs.map (·.1))[j] = (gG gs j).1 := by
  rw [List.getElem_map, gG_lt (by rw [List.length_map] at hj; exact hj)]
theorem CR.sh (R : CR E0 h T c d ss kp rg cl gs la le ra kr) {j : Nat} (hj : j < ss.length) : shR E0 h (gS ss j) (bS (nbits d ss j)) (gG gs j) := R.2.2.2.2.1 j hj
theorem iw_X6_length_X6 : ∀ w ∈ u_ws RX6 TX6 6, w ∈ wsX6_length := by decide +kernel
theorem c_length (v : Nat) (R : CR E0 h T c d ss kp rg cl gs la le ra kr) : CM l B E0 D yX6_length wsX6_length (v + 1) 0 0 [.ref c] h (fun r h1 => r = some (.int (nI rg.length)) ∧ h1 = h) := by
  have R1 := R.2.1
  refine CM.of (cc := cX6_length) (maxL := 1) (ret := (some .int)) (by decide) rfl (Nat.le_of_ble_eq_true rfl) (fun X E hin => ?_)
  show J X B D 1 _ h 0 0 0 [(0, .ref c)] []
  generalize hQ : jQ X B D _ _ _ = Q
  refine j_aload_n E dX6_length_0 rfl ?_
  refine j_getfield (ref := "ColourParts") (C := RX6) (T := TX6) (N := 6) (ci := 7) E 3 dX6_length_1 iw_X6_length_X6 rfl (by decide) (by decide +kernel) rfl (by first | with_reducible assumption | exact hput_eq _ _ _ | exact (hput_ne _ (by first | assumption | exact Ne.symm (by assumption))).trans (by assumption) | exact (hput_ne _ (by first | assumption | exact Ne.symm (by assumption))).trans (hput_eq _ _ _) | exact (hput_ne _ (by first | assumption | exact Ne.symm (by assumption))).trans ((hput_ne _ (by first | assumption | exact Ne.symm (by assumption))).trans (by assumption)) | exact (hput_ne _ (by first | assumption | exact Ne.symm (by assumption))).trans ((hput_ne _ (by first | assumption | exact Ne.symm (by assumption))).trans (hput_eq _ _ _))) rfl ?_
  rw [← hQ]
  exact j_iret E dX6_length_4 rfl rfl (by omega) (by omega) ⟨rfl, rfl⟩
theorem iw_X6_closed_X6 : ∀ w ∈ u_ws RX6 TX6 6, w ∈ wsX6_closed := by decide +kernel
theorem c_closed (v : Nat) (R : CR E0 h T c d ss kp rg cl gs la le ra kr) : CM l B E0 D yX6_closed wsX6_closed (v + 1) 0 0 [.ref c] h (fun r h1 => r = some (.int (bI cl)) ∧ h1 = h) := by
  have R1 := R.2.1
  refine CM.of (cc := cX6_closed) (maxL := 1) (ret := (some .boolean)) (by decide) rfl (Nat.le_of_ble_eq_true rfl) (fun X E hin => ?_)
  show J X B D 1 _ h 0 0 0 [(0, .ref c)] []
  generalize hQ : jQ X B D _ _ _ = Q
  refine j_aload_n E dX6_closed_0 rfl ?_
  refine j_getfield (ref := "ColourParts") (C := RX6) (T := TX6) (N := 6) (ci := 7) E 5 dX6_closed_1 iw_X6_closed_X6 rfl (by decide) (by decide +kernel) rfl (by first | with_reducible assumption | exact hput_eq _ _ _ | exact (hput_ne _ (by first | assumption | exact Ne.symm (by assumption))).trans (by assumption) | exact (hput_ne _ (by first | assumption | exact Ne.symm (by assumption))).trans (hput_eq _ _ _) | exact (hput_ne _ (by first | assumption | exact Ne.symm (by assumption))).trans ((hput_ne _ (by first | assumption | exact Ne.symm (by assumption))).trans (by assumption)) | exact (hput_ne _ (by first | assumption | exact Ne.symm (by assumption))).trans ((hput_ne _ (by first | assumption | exact Ne.symm (by assumption))).trans (hput_eq _ _ _))) rfl ?_
  rw [← hQ]
  exact j_iret E dX6_closed_4 rfl (nb_bI _) (by omega) (by omega) ⟨rfl, rfl⟩
theorem iw_X6_stitches_X1 : ∀ w ∈ u_ws RX1 TX1 6, w ∈ wsX6_stitches := by decide +kernel
theorem iw_X6_stitches_X6 : ∀ w ∈ u_ws RX6 TX6 6, w ∈ wsX6_stitches := by decide +kernel
theorem c_stitches (v : Nat) (R : CR E0 h T c d ss kp rg cl gs la le ra kr) : CM l B E0 D yX6_stitches wsX6_stitches (v + 1) 0 0 [.ref c] h (fun r h1 => h1 = h ∧ (kp = none → r = some (.int 0)) ∧ ∀ ps, kp = some ps → r = some (.int (nI (uC (kS ps) (kC ps) ps.length)))) := by
  have R1 := R.2.1
  have R2 := R.2.2.2.2.2.2.1
  rcases R2 with ⟨rfl, rfl⟩ | ⟨ps, ko, rfl, rfl, k0, k1, k2, k3, k4, f0, f1, f2, f3, f4, hT, ho, hrest⟩
  ·
    refine CM.of (cc := cX6_stitches) (maxL := 1) (ret := (some .int)) (by decide) rfl (Nat.le_of_ble_eq_true rfl) (fun X E hin => ?_)
    show J X B D 1 _ h 0 0 0 [(0, .ref c)] []
    generalize hQ : jQ X B D _ _ _ = Q
    refine j_aload_n E dX6_stitches_0 rfl ?_
    refine j_getfield (ref := "ColourParts") (C := RX6) (T := TX6) (N := 6) (ci := 7) E 4 dX6_stitches_1 iw_X6_stitches_X6 rfl (by decide) (by decide +kernel) rfl (by first | with_reducible assumption | exact hput_eq _ _ _ | exact (hput_ne _ (by first | assumption | exact Ne.symm (by assumption))).trans (by assumption) | exact (hput_ne _ (by first | assumption | exact Ne.symm (by assumption))).trans (hput_eq _ _ _) | exact (hput_ne _ (by first | assumption | exact Ne.symm (by assumption))).trans ((hput_ne _ (by first | assumption | exact Ne.symm (by assumption))).trans (by assumption)) | exact (hput_ne _ (by first | assumption | exact Ne.symm (by assumption))).trans ((hput_ne _ (by first | assumption | exact Ne.symm (by assumption))).trans (hput_eq _ _ _))) rfl ?_
    refine j_ifnonnullN E dX6_stitches_4 ?_
    refine j_iconst (x := nI 0) E dX6_stitches_7 (by decide) ?_
    refine j_goto E (tgt := 18) dX6_stitches_8 (by decide) ?_
    rw [← hQ]
    exact j_iret E dX6_stitches_18 rfl rfl (by omega) (by omega) ⟨rfl, fun _ => rfl, fun ps z => (by cases z)⟩
  ·
    refine CM.of (cc := cX6_stitches) (maxL := 1) (ret := (some .int)) (by decide) rfl (Nat.le_of_ble_eq_true rfl) (fun X E hin => ?_)
    show J X B D 1 _ h 0 0 0 [(0, .ref c)] []
    generalize hQ : jQ X B D _ _ _ = Q
    refine j_aload_n E dX6_stitches_0 rfl ?_
    refine j_getfield (ref := "ColourParts") (C := RX6) (T := TX6) (N := 6) (ci := 7) E 4 dX6_stitches_1 iw_X6_stitches_X6 rfl (by decide) (by decide +kernel) rfl (by first | with_reducible assumption | exact hput_eq _ _ _ | exact (hput_ne _ (by first | assumption | exact Ne.symm (by assumption))).trans (by assumption) | exact (hput_ne _ (by first | assumption | exact Ne.symm (by assumption))).trans (hput_eq _ _ _) | exact (hput_ne _ (by first | assumption | exact Ne.symm (by assumption))).trans ((hput_ne _ (by first | assumption | exact Ne.symm (by assumption))).trans (by assumption)) | exact (hput_ne _ (by first | assumption | exact Ne.symm (by assumption))).trans ((hput_ne _ (by first | assumption | exact Ne.symm (by assumption))).trans (hput_eq _ _ _))) rfl ?_
    refine j_ifnonnull E (tgt := 11) dX6_stitches_4 (by decide) ?_
    refine j_aload_n E dX6_stitches_11 rfl ?_
    refine j_getfield (ref := "ColourParts") (C := RX6) (T := TX6) (N := 6) (ci := 7) E 4 dX6_stitches_12 iw_X6_stitches_X6 rfl (by decide) (by decide +kernel) rfl (by first | with_reducible assumption | exact hput_eq _ _ _ | exact (hput_ne _ (by first | assumption | exact Ne.symm (by assumption))).trans (by assumption) | exact (hput_ne _ (by first | assumption | exact Ne.symm (by assumption))).trans (hput_eq _ _ _) | exact (hput_ne _ (by first | assumption | exact Ne.symm (by assumption))).trans ((hput_ne _ (by first | assumption | exact Ne.symm (by assumption))).trans (by assumption)) | exact (hput_ne _ (by first | assumption | exact Ne.symm (by assumption))).trans ((hput_ne _ (by first | assumption | exact Ne.symm (by assumption))).trans (hput_eq _ _ _))) rfl ?_
    refine j_getfield (ref := "ColourParts$Colouring") (C := RX1) (T := TX1) (N := 6) (ci := 2) E 5 dX6_stitches_15 iw_X6_stitches_X1 rfl (by decide) (by decide +kernel) rfl (by first | with_reducible assumption | exact hput_eq _ _ _ | exact (hput_ne _ (by first | assumption | exact Ne.symm (by assumption))).trans (by assumption) | exact (hput_ne _ (by first | assumption | exact Ne.symm (by assumption))).trans (hput_eq _ _ _) | exact (hput_ne _ (by first | assumption | exact Ne.symm (by assumption))).trans ((hput_ne _ (by first | assumption | exact Ne.symm (by assumption))).trans (by assumption)) | exact (hput_ne _ (by first | assumption | exact Ne.symm (by assumption))).trans ((hput_ne _ (by first | assumption | exact Ne.symm (by assumption))).trans (hput_eq _ _ _))) rfl ?_
    rw [← hQ]
    exact j_iret E dX6_stitches_18 rfl rfl (by omega) (by omega) ⟨rfl, fun z => (by cases z), fun ps z => (by cases z; rfl)⟩
theorem c_isNoColour (v : Nat) (z : Int32) : CM l B E0 D yX6_isNoColour wsX6_isNoColour (v + 1) 0 0 [.int z] h (fun r h1 => r = some (.int (bI (z < 0 ∨ nI 3 < z))) ∧ h1 = h) := by
  refine CM.of (cc := cX6_isNoColour) (maxL := 1) (ret := (some .boolean)) (by decide) rfl (Nat.le_of_ble_eq_true rfl) (fun X E hin => ?_)
  show J X B D 1 _ h 0 0 0 [(0, .int z)] []
  generalize hQ : jQ X B D _ _ _ = Q
  refine j_iload_n E dX6_isNoColour_0 rfl ?_
  refine j_if_lt E (tgt := 9) dX6_isNoColour_1 (by decide) (fun c1 => ?_) (fun c1 => ?_)
  ·
    refine j_iconst (x := nI 1) E dX6_isNoColour_9 (by decide) ?_
    refine J.topi (x' := bI (z < 0 ∨ nI 3 < z)) ((bI_t (Or.inl c1)).symm) ?_
    refine j_goto E (tgt := 14) dX6_isNoColour_10 (by decide) ?_
    rw [← hQ]
    exact j_iret E dX6_isNoColour_14 rfl (nb_bI _) (by omega) (by omega) ⟨rfl, rfl⟩
  ·
    refine j_iload_n E dX6_isNoColour_4 rfl ?_
    refine j_iconst (x := nI 4) E dX6_isNoColour_5 (by decide) ?_
    have h34 : z < nI 4 ↔ ¬ nI 3 < z := by
      rw [Int32.not_lt, Int32.lt_iff_toInt_lt, Int32.le_iff_toInt_le, show (nI 4).toInt = 4 by decide, show (nI 3).toInt = 3 by decide]
      omega
    refine j_icmp_lt E (tgt := 13) dX6_isNoColour_6 (by decide) (fun c2 => ?_) (fun c2 => ?_)
    ·
      refine j_iconst (x := nI 0) E dX6_isNoColour_13 (by decide) ?_
      refine J.topi (x' := bI (z < 0 ∨ nI 3 < z)) ((bI_f (fun w => w.elim c1 (h34.mp c2))).symm) ?_
      rw [← hQ]
      exact j_iret E dX6_isNoColour_14 rfl (nb_bI _) (by omega) (by omega) ⟨rfl, rfl⟩
    ·
      refine j_iconst (x := nI 1) E dX6_isNoColour_9 (by decide) ?_
      refine J.topi (x' := bI (z < 0 ∨ nI 3 < z)) ((bI_t (Or.inr (Classical.not_not.mp (fun w => c2 (h34.mpr w))))).symm) ?_
      refine j_goto E (tgt := 14) dX6_isNoColour_10 (by decide) ?_
      rw [← hQ]
      exact j_iret E dX6_isNoColour_14 rfl (nb_bI _) (by omega) (by omega) ⟨rfl, rfl⟩
theorem c_isTooFar (v : Nat) (x : Int64) : CM l B E0 D yX6_isTooFar wsX6_isTooFar (v + 1) 0 0 [.long x] h (fun r h1 => r = some (.int (bI (farL x))) ∧ h1 = h) := by
  refine CM.of (cc := cX6_isTooFar) (maxL := 2) (ret := (some .boolean)) (by decide) rfl (Nat.le_of_ble_eq_true rfl) (fun X E hin => ?_)
  show J X B D 2 _ h 0 0 0 [(0, .long x)] []
  generalize hQ : jQ X B D _ _ _ = Q
  refine j_lload_n E dX6_isTooFar_0 rfl ?_
  refine j_ldc2 E (x := lZ (-1000000)) dX6_isTooFar_1 (show Cond.constantLong _ _ (-1000000) ∈ _ by decide +kernel) ?_
  refine j_lcmp E dX6_isTooFar_4 ?_
  refine j_if_lt E (tgt := 16) dX6_isTooFar_5 (by decide) (fun c1 => ?_) (fun c1 => ?_)
  ·
    refine j_iconst (x := nI 1) E dX6_isTooFar_16 (by decide) ?_
    refine J.topi (x' := bI (farL x)) ((bI_t (Or.inl (cmp_lt.mp c1))).symm) ?_
    refine j_goto E (tgt := 21) dX6_isTooFar_17 (by decide) ?_
    rw [← hQ]
    exact j_iret E dX6_isTooFar_21 rfl (nb_bI _) (by omega) (by omega) ⟨rfl, rfl⟩
  ·
    refine j_lload_n E dX6_isTooFar_8 rfl ?_
    refine j_ldc2 E (x := lZ (1000000)) dX6_isTooFar_9 (show Cond.constantLong _ _ (1000000) ∈ _ by decide +kernel) ?_
    refine j_lcmp E dX6_isTooFar_12 ?_
    refine j_if_le E (tgt := 20) dX6_isTooFar_13 (by decide) (fun c2 => ?_) (fun c2 => ?_)
    ·
      refine j_iconst (x := nI 0) E dX6_isTooFar_20 (by decide) ?_
      refine J.topi (x' := bI (farL x)) ((bI_f (fun w => w.elim (fun w => c1 (cmp_lt.mpr w)) (fun w => Int64.not_lt.mpr (cmp_le.mp c2) w))).symm) ?_
      rw [← hQ]
      exact j_iret E dX6_isTooFar_21 rfl (nb_bI _) (by omega) (by omega) ⟨rfl, rfl⟩
    ·
      refine j_iconst (x := nI 1) E dX6_isTooFar_16 (by decide) ?_
      refine J.topi (x' := bI (farL x)) ((bI_t (Or.inr (cmp_gt.mp (Int32.not_le.mp c2)))).symm) ?_
      refine j_goto E (tgt := 21) dX6_isTooFar_17 (by decide) ?_
      rw [← hQ]
      exact j_iret E dX6_isTooFar_21 rfl (nb_bI _) (by omega) (by omega) ⟨rfl, rfl⟩
theorem iw_X6_countPieces_X5 : ∀ w ∈ u_ws RX5 TX5 9, w ∈ wsX6_countPieces := by decide +kernel
theorem iw_X6_countPieces_X6 : ∀ w ∈ u_ws RX6 TX6 6, w ∈ wsX6_countPieces := by decide +kernel
theorem c_countPieces (v : Nat) (R : CR E0 h T c d ss kp rg cl gs la le ra kr) (hw : wfSS ss) : CM l B E0 D yX6_countPieces wsX6_countPieces (v + 4) 0 0 [.ref c] h (fun r h1 => r = some (.int (nI (tS ss ss.length))) ∧ h1 = h) := by
  have R1 := R.2.1
  obtain ⟨L, hL, zl, hl⟩ := R.lst
  have h10 := hw.1
  refine CM.of (cc := cX6_countPieces) (maxL := 3) (ret := (some .int)) (by decide) rfl (Nat.le_of_ble_eq_true rfl) (fun X E hin => ?_)
  show J X B D 3 _ h 0 0 0 [(0, .ref c)] []
  generalize hQ : jQ X B D _ _ _ = Q
  have key : ∀ (t i : Nat), i + t = ss.length → J X B D 3 Q h 0 0 4 [(2, .int (nI i)), (1, .int (nI (tS ss i))), (0, .ref c)] [] := by
    intro t
    induction t with
    | zero =>
      intro i hi
      refine j_iload_n E dX6_countPieces_4 rfl ?_
      refine j_aload_n E dX6_countPieces_5 rfl ?_
      refine j_getfield (ref := "ColourParts") (C := RX6) (T := TX6) (N := 6) (ci := 7) E 1 dX6_countPieces_6 iw_X6_countPieces_X6 rfl (by decide) (by decide +kernel) rfl (by first | with_reducible assumption | exact hput_eq _ _ _ | exact (hput_ne _ (by first | assumption | exact Ne.symm (by assumption))).trans (by assumption) | exact (hput_ne _ (by first | assumption | exact Ne.symm (by assumption))).trans (hput_eq _ _ _) | exact (hput_ne _ (by first | assumption | exact Ne.symm (by assumption))).trans ((hput_ne _ (by first | assumption | exact Ne.symm (by assumption))).trans (by assumption)) | exact (hput_ne _ (by first | assumption | exact Ne.symm (by assumption))).trans ((hput_ne _ (by first | assumption | exact Ne.symm (by assumption))).trans (hput_eq _ _ _))) rfl ?_
      refine j_callV (np := 0) (C := RJx4a65c) (T := TJx4a65c) (N := 3) (ci := 0) E (c_size (v + 2) L) gX6_countPieces_Jx4a65c_size_8abf5 rfl ⟨rfl, by decide, by decide, by decide +kernel⟩ dX6_countPieces_9 (by omega) (by decide) rfl hl rfl rfl (Nat.le_of_ble_eq_true rfl) (by omega) (by omega) (fun r9 h9 p9 => J.pure p9 ?_)
      rw [hL]
      refine J.wide (k' := 0) (n' := 0) (by omega) (by omega) ?_
      refine j_icmp_ge E (tgt := 40) dX6_countPieces_12 (by decide) (fun c1 => ?_) (fun c1 => ?_)
      · rw [show i = ss.length by omega]
        refine j_iload_n E dX6_countPieces_40 rfl ?_
        rw [← hQ]
        exact j_iret E dX6_countPieces_41 rfl rfl (by omega) (by omega) ⟨rfl, rfl⟩
      · exact absurd (nI_le (show ss.length ≤ i by omega) (by omega)) c1
    | succ t ih =>
      intro i hi
      have hil : i < ss.length := by omega
      refine j_iload_n E dX6_countPieces_4 rfl ?_
      refine j_aload_n E dX6_countPieces_5 rfl ?_
      refine j_getfield (ref := "ColourParts") (C := RX6) (T := TX6) (N := 6) (ci := 7) E 1 dX6_countPieces_6 iw_X6_countPieces_X6 rfl (by decide) (by decide +kernel) rfl (by first | with_reducible assumption | exact hput_eq _ _ _ | exact (hput_ne _ (by first | assumption | exact Ne.symm (by assumption))).trans (by assumption) | exact (hput_ne _ (by first | assumption | exact Ne.symm (by assumption))).trans (hput_eq _ _ _) | exact (hput_ne _ (by first | assumption | exact Ne.symm (by assumption))).trans ((hput_ne _ (by first | assumption | exact Ne.symm (by assumption))).trans (by assumption)) | exact (hput_ne _ (by first | assumption | exact Ne.symm (by assumption))).trans ((hput_ne _ (by first | assumption | exact Ne.symm (by assumption))).trans (hput_eq _ _ _))) rfl ?_
      refine j_callV (np := 0) (C := RJx4a65c) (T := TJx4a65c) (N := 3) (ci := 0) E (c_size (v + 2) L) gX6_countPieces_Jx4a65c_size_8abf5 rfl ⟨rfl, by decide, by decide, by decide +kernel⟩ dX6_countPieces_9 (by omega) (by decide) rfl hl rfl rfl (Nat.le_of_ble_eq_true rfl) (by omega) (by omega) (fun r9 h9 p9 => J.pure p9 ?_)
      rw [hL]
      refine J.wide (k' := 0) (n' := 0) (by omega) (by omega) ?_
      refine j_icmp_ge E (tgt := 40) dX6_countPieces_12 (by decide) (fun c1 => ?_) (fun c1 => ?_)
      · exact absurd c1 (nI_ge hil (by omega))
      ·
        refine j_iload_n E dX6_countPieces_15 rfl ?_
        refine j_aload_n E dX6_countPieces_16 rfl ?_
        refine j_getfield (ref := "ColourParts") (C := RX6) (T := TX6) (N := 6) (ci := 7) E 1 dX6_countPieces_17 iw_X6_countPieces_X6 rfl (by decide) (by decide +kernel) rfl (by first | with_reducible assumption | exact hput_eq _ _ _ | exact (hput_ne _ (by first | assumption | exact Ne.symm (by assumption))).trans (by assumption) | exact (hput_ne _ (by first | assumption | exact Ne.symm (by assumption))).trans (hput_eq _ _ _) | exact (hput_ne _ (by first | assumption | exact Ne.symm (by assumption))).trans ((hput_ne _ (by first | assumption | exact Ne.symm (by assumption))).trans (by assumption)) | exact (hput_ne _ (by first | assumption | exact Ne.symm (by assumption))).trans ((hput_ne _ (by first | assumption | exact Ne.symm (by assumption))).trans (hput_eq _ _ _))) rfl ?_
        refine j_iload_n E dX6_countPieces_20 rfl ?_
        refine j_callV (np := 1) (C := RJx4a65c) (T := TJx4a65c) (N := 3) (ci := 0) E (c_get v L (show i < (gs.map (·.1)).length by omega) (by omega)) gX6_countPieces_Jx4a65c_get_915e3 rfl ⟨rfl, by decide, by decide, by decide +kernel⟩ dX6_countPieces_21 (by omega) (by decide) rfl hl rfl rfl (Nat.le_of_ble_eq_true rfl) (by omega) (by omega) (fun r9 h9 p9 => J.pure p9 ?_)
        rw [R.el]
        refine J.wide (k' := 0) (n' := 0) (by omega) (by omega) ?_
        obtain ⟨⟨hx, hy, S1, -⟩, -⟩ := R.sh hil
        unfold shF at S1
        refine j_cast (C := RX5) (T := TX5) (N := 9) (ci := 6) E dX6_countPieces_24 (by decide +kernel) rfl S1 ?_
        refine j_getfield (ref := "ColourParts$Shape") (C := RX5) (T := TX5) (N := 9) (ci := 6) E 2 dX6_countPieces_27 iw_X6_countPieces_X5 rfl (by decide) (by decide +kernel) rfl S1 rfl ?_
        refine j_iconst (x := nI 1) E dX6_countPieces_30 (by decide) ?_
        refine j_iadd E dX6_countPieces_31 ?_
        refine J.topi (x' := nI (nk (gS ss i) + 1)) (nI_1 _) ?_
        refine j_iadd E dX6_countPieces_32 ?_
        refine J.topi (x' := nI (tS ss (i + 1))) (nI_add _ _) ?_
        refine j_istore_n E dX6_countPieces_33 (by decide) ?_
        refine j_iinc E dX6_countPieces_34 rfl (nI_1 i) (by decide) ?_
        refine j_goto E (tgt := 4) dX6_countPieces_37 (by decide) ?_
        refine J.sub [(2, .int (nI (i + 1))), (1, .int (nI (tS ss (i + 1)))), (0, .ref c)] ⟨rfl, rfl, rfl, trivial⟩ ?_
        exact ih (i + 1) (by omega)
  refine j_iconst (x := nI 0) E dX6_countPieces_0 (by decide) ?_
  refine j_istore_n E dX6_countPieces_1 (by decide) ?_
  refine j_iconst (x := nI 0) E dX6_countPieces_2 (by decide) ?_
  refine j_istore_n E dX6_countPieces_3 (by decide) ?_
  refine J.sub [(2, .int (nI 0)), (1, .int (nI (tS ss 0))), (0, .ref c)] ⟨rfl, rfl, rfl, trivial⟩ ?_
  exact key ss.length 0 (by omega)
theorem iw_X6_needShape_X6 : ∀ w ∈ u_ws RX6 TX6 6, w ∈ wsX6_needShape := by decide +kernel
theorem c_needShape (v : Nat) (R : CR E0 h T c d ss kp rg cl gs la le ra kr) (hw : wfSS ss) (z : Int32) : CX l B E0 D yX6_needShape wsX6_needShape (v + 6) 1 6 [.ref c, .int z] h (fun r h1 => r = none ∧ h1 = h ∧ isx z ss.length) (fun E h1 => E = "java/lang/IndexOutOfBoundsException" ∧ h1 = h ∧ ¬ isx z ss.length) := by
  have R1 := R.2.1
  obtain ⟨L, hL, zl, hl⟩ := R.lst
  have h10 := hw.1
  refine CX.of (cc := cX6_needShape) (maxL := 2) (ret := none) (by decide) rfl (Nat.le_of_ble_eq_true rfl) (fun X E htab => ?_)
  show J X B D 2 _ h 0 0 0 [(0, .ref c), (1, .int z)] []
  generalize hQ : jX X B D _ _ _ _ = Q
  refine j_iload_n E dX6_needShape_0 rfl ?_
  refine j_if_lt E (tgt := 15) dX6_needShape_1 (by decide) (fun c1 => ?_) (fun c1 => ?_)
  ·
    rw [← hQ]
    exact j_throw (cls := "java/lang/IndexOutOfBoundsException") (text := "no such shape") (ik := 153) (is := 219) (ic := 157) E htab dX6_needShape_15 dX6_needShape_18 dX6_needShape_19 dX6_needShape_21 dX6_needShape_24 (by decide) (by decide +kernel) (by decide +kernel) (by decide) (by decide +kernel) (by decide +kernel) (by decide +kernel) (by omega) (Nat.le_of_ble_eq_true rfl) (by omega) (by omega) ⟨rfl, rfl, isx_neg (by omega) c1⟩
  ·
    refine j_iload_n E dX6_needShape_4 rfl ?_
    refine j_aload_n E dX6_needShape_5 rfl ?_
    refine j_getfield (ref := "ColourParts") (C := RX6) (T := TX6) (N := 6) (ci := 7) E 1 dX6_needShape_6 iw_X6_needShape_X6 rfl (by decide) (by decide +kernel) rfl (by first | with_reducible assumption | exact hput_eq _ _ _ | exact (hput_ne _ (by first | assumption | exact Ne.symm (by assumption))).trans (by assumption) | exact (hput_ne _ (by first | assumption | exact Ne.symm (by assumption))).trans (hput_eq _ _ _) | exact (hput_ne _ (by first | assumption | exact Ne.symm (by assumption))).trans ((hput_ne _ (by first | assumption | exact Ne.symm (by assumption))).trans (by assumption)) | exact (hput_ne _ (by first | assumption | exact Ne.symm (by assumption))).trans ((hput_ne _ (by first | assumption | exact Ne.symm (by assumption))).trans (hput_eq _ _ _))) rfl ?_
    refine j_callV (np := 0) (C := RJx4a65c) (T := TJx4a65c) (N := 3) (ci := 0) E (c_size (v + 2) L) gX6_needShape_Jx4a65c_size_8abf5 rfl ⟨rfl, by decide, by decide, by decide +kernel⟩ dX6_needShape_9 (by omega) (by decide) rfl hl rfl rfl (Nat.le_of_ble_eq_true rfl) (by omega) (by omega) (fun r9 h9 p9 => J.pure p9 ?_)
    rw [hL]
    refine J.wide (k' := 0) (n' := 0) (by omega) (by omega) ?_
    refine j_icmp_lt E (tgt := 25) dX6_needShape_12 (by decide) (fun c2 => ?_) (fun c2 => ?_)
    · refine J.wide (k' := 1) (n' := 6) (by omega) (by omega) ?_
      rw [← hQ]
      exact j_x (j_vret E dX6_needShape_25 rfl (by omega) (by omega) ⟨rfl, rfl, isx_lt (by omega) c1 (Int32.not_le.mpr c2)⟩)
    ·
      rw [← hQ]
      exact j_throw (cls := "java/lang/IndexOutOfBoundsException") (text := "no such shape") (ik := 153) (is := 219) (ic := 157) E htab dX6_needShape_15 dX6_needShape_18 dX6_needShape_19 dX6_needShape_21 dX6_needShape_24 (by decide) (by decide +kernel) (by decide +kernel) (by decide) (by decide +kernel) (by decide +kernel) (by decide +kernel) (by omega) (Nat.le_of_ble_eq_true rfl) (by omega) (by omega) ⟨rfl, rfl, isx_big (by omega) (Int32.not_lt.mp c2)⟩
theorem iw_X6_needNoneOpen_X6 : ∀ w ∈ u_ws RX6 TX6 6, w ∈ wsX6_needNoneOpen := by decide +kernel
theorem c_needNoneOpen (v : Nat) (R : CR E0 h T c d ss kp rg cl gs la le ra kr) (hw : wfSS ss) : CX l B E0 D yX6_needNoneOpen wsX6_needNoneOpen (v + 6) 1 6 [.ref c] h (fun r h1 => r = none ∧ h1 = h ∧ ¬ opS ss) (fun E h1 => E = "java/lang/IllegalStateException" ∧ h1 = h ∧ opS ss) := by
  have R1 := R.2.1
  obtain ⟨L, hL, zl, hl⟩ := R.lst
  have h10 := hw.1
  refine CX.of (cc := cX6_needNoneOpen) (maxL := 2) (ret := none) (by decide) rfl (Nat.le_of_ble_eq_true rfl) (fun X E htab => ?_)
  show J X B D 2 _ h 0 0 0 [(0, .ref c)] []
  generalize hQ : jX X B D _ _ _ _ = Q
  have key : ∀ (t i : Nat), i + t = ss.length → (∀ j, j < i → ¬ opn (gS ss j)) → J X B D 2 Q h 0 0 2 [(1, .int (nI i)), (0, .ref c)] [] := by
    intro t
    induction t with
    | zero =>
      intro i hi hno
      refine j_iload_n E dX6_needNoneOpen_2 rfl ?_
      refine j_aload_n E dX6_needNoneOpen_3 rfl ?_
      refine j_getfield (ref := "ColourParts") (C := RX6) (T := TX6) (N := 6) (ci := 7) E 1 dX6_needNoneOpen_4 iw_X6_needNoneOpen_X6 rfl (by decide) (by decide +kernel) rfl (by first | with_reducible assumption | exact hput_eq _ _ _ | exact (hput_ne _ (by first | assumption | exact Ne.symm (by assumption))).trans (by assumption) | exact (hput_ne _ (by first | assumption | exact Ne.symm (by assumption))).trans (hput_eq _ _ _) | exact (hput_ne _ (by first | assumption | exact Ne.symm (by assumption))).trans ((hput_ne _ (by first | assumption | exact Ne.symm (by assumption))).trans (by assumption)) | exact (hput_ne _ (by first | assumption | exact Ne.symm (by assumption))).trans ((hput_ne _ (by first | assumption | exact Ne.symm (by assumption))).trans (hput_eq _ _ _))) rfl ?_
      refine j_callV (np := 0) (C := RJx4a65c) (T := TJx4a65c) (N := 3) (ci := 0) E (c_size (v + 2) L) gX6_needNoneOpen_Jx4a65c_size_8abf5 rfl ⟨rfl, by decide, by decide, by decide +kernel⟩ dX6_needNoneOpen_7 (by omega) (by decide) rfl hl rfl rfl (Nat.le_of_ble_eq_true rfl) (by omega) (by omega) (fun r9 h9 p9 => J.pure p9 ?_)
      rw [hL]
      refine J.wide (k' := 0) (n' := 0) (by omega) (by omega) ?_
      refine j_icmp_ge E (tgt := 46) dX6_needNoneOpen_10 (by decide) (fun c1 => ?_) (fun c1 => ?_)
      · refine J.wide (k' := 1) (n' := 6) (by omega) (by omega) ?_
        rw [← hQ]
        exact j_x (j_vret E dX6_needNoneOpen_46 rfl (by omega) (by omega) ⟨rfl, rfl, fun w => w.elim (fun j hj => hno j (by omega) hj.2)⟩)
      · exact absurd (nI_le (show ss.length ≤ i by omega) (by omega)) c1
    | succ t ih =>
      intro i hi hno
      have hil : i < ss.length := by omega
      refine j_iload_n E dX6_needNoneOpen_2 rfl ?_
      refine j_aload_n E dX6_needNoneOpen_3 rfl ?_
      refine j_getfield (ref := "ColourParts") (C := RX6) (T := TX6) (N := 6) (ci := 7) E 1 dX6_needNoneOpen_4 iw_X6_needNoneOpen_X6 rfl (by decide) (by decide +kernel) rfl (by first | with_reducible assumption | exact hput_eq _ _ _ | exact (hput_ne _ (by first | assumption | exact Ne.symm (by assumption))).trans (by assumption) | exact (hput_ne _ (by first | assumption | exact Ne.symm (by assumption))).trans (hput_eq _ _ _) | exact (hput_ne _ (by first | assumption | exact Ne.symm (by assumption))).trans ((hput_ne _ (by first | assumption | exact Ne.symm (by assumption))).trans (by assumption)) | exact (hput_ne _ (by first | assumption | exact Ne.symm (by assumption))).trans ((hput_ne _ (by first | assumption | exact Ne.symm (by assumption))).trans (hput_eq _ _ _))) rfl ?_
      refine j_callV (np := 0) (C := RJx4a65c) (T := TJx4a65c) (N := 3) (ci := 0) E (c_size (v + 2) L) gX6_needNoneOpen_Jx4a65c_size_8abf5 rfl ⟨rfl, by decide, by decide, by decide +kernel⟩ dX6_needNoneOpen_7 (by omega) (by decide) rfl hl rfl rfl (Nat.le_of_ble_eq_true rfl) (by omega) (by omega) (fun r9 h9 p9 => J.pure p9 ?_)
      rw [hL]
      refine J.wide (k' := 0) (n' := 0) (by omega) (by omega) ?_
      refine j_icmp_ge E (tgt := 46) dX6_needNoneOpen_10 (by decide) (fun c1 => ?_) (fun c1 => ?_)
      · exact absurd c1 (nI_ge hil (by omega))
      ·
        refine j_aload_n E dX6_needNoneOpen_13 rfl ?_
        refine j_getfield (ref := "ColourParts") (C := RX6) (T := TX6) (N := 6) (ci := 7) E 1 dX6_needNoneOpen_14 iw_X6_needNoneOpen_X6 rfl (by decide) (by decide +kernel) rfl (by first | with_reducible assumption | exact hput_eq _ _ _ | exact (hput_ne _ (by first | assumption | exact Ne.symm (by assumption))).trans (by assumption) | exact (hput_ne _ (by first | assumption | exact Ne.symm (by assumption))).trans (hput_eq _ _ _) | exact (hput_ne _ (by first | assumption | exact Ne.symm (by assumption))).trans ((hput_ne _ (by first | assumption | exact Ne.symm (by assumption))).trans (by assumption)) | exact (hput_ne _ (by first | assumption | exact Ne.symm (by assumption))).trans ((hput_ne _ (by first | assumption | exact Ne.symm (by assumption))).trans (hput_eq _ _ _))) rfl ?_
        refine j_iload_n E dX6_needNoneOpen_17 rfl ?_
        refine j_callV (np := 1) (C := RJx4a65c) (T := TJx4a65c) (N := 3) (ci := 0) E (c_get v L (show i < (gs.map (·.1)).length by omega) (by omega)) gX6_needNoneOpen_Jx4a65c_get_915e3 rfl ⟨rfl, by decide, by decide, by decide +kernel⟩ dX6_needNoneOpen_18 (by omega) (by decide) rfl hl rfl rfl (Nat.le_of_ble_eq_true rfl) (by omega) (by omega) (fun r9 h9 p9 => J.pure p9 ?_)
        rw [R.el]
        refine J.wide (k' := 0) (n' := 0) (by omega) (by omega) ?_
        have SR := R.sh hil
        have SR0 := SR
        obtain ⟨⟨hx, hy, S1, -⟩, -⟩ := SR0
        refine j_cast (C := RX5) (T := TX5) (N := 9) (ci := 6) E dX6_needNoneOpen_21 (by decide +kernel) rfl S1 ?_
        refine j_callV (np := 0) (C := RX5) (T := TX5) (N := 9) (ci := 6) E (c_isOpen v SR (hw.2.2 i hil)) gX6_needNoneOpen_X5_isOpen rfl ⟨rfl, by decide, by decide, by decide +kernel⟩ dX6_needNoneOpen_24 (by omega) (by decide) rfl S1 rfl rfl (Nat.le_of_ble_eq_true rfl) (by omega) (by omega) (fun r9 h9 p9 => J.pure p9 ?_)
        refine J.wide (k' := 0) (n' := 0) (by omega) (by omega) ?_
        refine j_if_eq E (tgt := 40) dX6_needNoneOpen_27 (by decide) (fun c2 => ?_) (fun c2 => ?_)
        ·
          refine j_iinc E dX6_needNoneOpen_40 rfl (nI_1 i) (by decide) ?_
          refine j_goto E (tgt := 2) dX6_needNoneOpen_43 (by decide) ?_
          refine J.sub [(1, .int (nI (i + 1))), (0, .ref c)] ⟨rfl, rfl, trivial⟩ ?_
          refine ih (i + 1) (by omega) (fun j hj => ?_)
          by_cases e : j = i
          · rw [e]; exact bI_z.mp c2
          · exact hno j (by omega)
        ·
          rw [← hQ]
          exact j_throw (cls := "java/lang/IllegalStateException") (text := "a shape is open") (ik := 54) (is := 224) (ic := 58) E htab dX6_needNoneOpen_30 dX6_needNoneOpen_33 dX6_needNoneOpen_34 dX6_needNoneOpen_36 dX6_needNoneOpen_39 (by decide) (by decide +kernel) (by decide +kernel) (by decide) (by decide +kernel) (by decide +kernel) (by decide +kernel) (by omega) (Nat.le_of_ble_eq_true rfl) (by omega) (by omega) ⟨rfl, rfl, i, hil, bI_n.mp c2⟩
  refine j_iconst (x := nI 0) E dX6_needNoneOpen_0 (by decide) ?_
  refine j_istore_n E dX6_needNoneOpen_1 (by decide) ?_
  refine J.sub [(1, .int (nI 0)), (0, .ref c)] ⟨rfl, rfl, trivial⟩ ?_
  exact key ss.length 0 (by omega) (fun j hj => absurd hj (Nat.not_lt_zero _))
theorem iw_X6_ring_X6 : ∀ w ∈ u_ws RX6 TX6 6, w ∈ wsX6_ring := by decide +kernel
theorem c_ring (v : Nat) (R : CR E0 h T c d ss kp rg cl gs la le ra kr) (z : Int32) : CX l B E0 D yX6_ring wsX6_ring (v + 6) 1 6 [.ref c, .int z] h (fun r h1 => h1 = h ∧ ∃ j, j < rg.length ∧ z = nI j ∧ r = some (.int (nI (rg.getD j 0)))) (fun E h1 => E = "java/lang/IndexOutOfBoundsException" ∧ h1 = h ∧ ¬ isx z rg.length) := by
  have R1 := R.2.1
  obtain ⟨f, F1, F2, F3⟩ := R.2.2.2.2.2.1
  refine CX.of (cc := cX6_ring) (maxL := 2) (ret := (some .int)) (by decide) rfl (Nat.le_of_ble_eq_true rfl) (fun X E htab => ?_)
  show J X B D 2 _ h 0 0 0 [(0, .ref c), (1, .int z)] []
  generalize hQ : jX X B D _ _ _ _ = Q
  refine j_iload_n E dX6_ring_0 rfl ?_
  refine j_if_lt E (tgt := 12) dX6_ring_1 (by decide) (fun c1 => ?_) (fun c1 => ?_)
  ·
    rw [← hQ]
    exact j_throw (cls := "java/lang/IndexOutOfBoundsException") (text := "no such place in the ring") (ik := 153) (is := 155) (ic := 157) E htab dX6_ring_12 dX6_ring_15 dX6_ring_16 dX6_ring_18 dX6_ring_21 (by decide) (by decide +kernel) (by decide +kernel) (by decide) (by decide +kernel) (by decide +kernel) (by decide +kernel) (by omega) (Nat.le_of_ble_eq_true rfl) (by omega) (by omega) ⟨rfl, rfl, isx_neg (by omega) c1⟩
  ·
    refine j_iload_n E dX6_ring_4 rfl ?_
    refine j_aload_n E dX6_ring_5 rfl ?_
    refine j_getfield (ref := "ColourParts") (C := RX6) (T := TX6) (N := 6) (ci := 7) E 3 dX6_ring_6 iw_X6_ring_X6 rfl (by decide) (by decide +kernel) rfl (by first | with_reducible assumption | exact hput_eq _ _ _ | exact (hput_ne _ (by first | assumption | exact Ne.symm (by assumption))).trans (by assumption) | exact (hput_ne _ (by first | assumption | exact Ne.symm (by assumption))).trans (hput_eq _ _ _) | exact (hput_ne _ (by first | assumption | exact Ne.symm (by assumption))).trans ((hput_ne _ (by first | assumption | exact Ne.symm (by assumption))).trans (by assumption)) | exact (hput_ne _ (by first | assumption | exact Ne.symm (by assumption))).trans ((hput_ne _ (by first | assumption | exact Ne.symm (by assumption))).trans (hput_eq _ _ _))) rfl ?_
    refine j_icmp_lt E (tgt := 22) dX6_ring_9 (by decide) (fun c2 => ?_) (fun c2 => ?_)
    · obtain ⟨j, hj, rfl⟩ := isx_lt (show rg.length < 2 ^ 31 by omega) c1 (Int32.not_le.mpr c2)
      refine j_aload_n E dX6_ring_22 rfl ?_
      refine j_getfield (ref := "ColourParts") (C := RX6) (T := TX6) (N := 6) (ci := 7) E 2 dX6_ring_23 iw_X6_ring_X6 rfl (by decide) (by decide +kernel) rfl (by first | with_reducible assumption | exact hput_eq _ _ _ | exact (hput_ne _ (by first | assumption | exact Ne.symm (by assumption))).trans (by assumption) | exact (hput_ne _ (by first | assumption | exact Ne.symm (by assumption))).trans (hput_eq _ _ _) | exact (hput_ne _ (by first | assumption | exact Ne.symm (by assumption))).trans ((hput_ne _ (by first | assumption | exact Ne.symm (by assumption))).trans (by assumption)) | exact (hput_ne _ (by first | assumption | exact Ne.symm (by assumption))).trans ((hput_ne _ (by first | assumption | exact Ne.symm (by assumption))).trans (hput_eq _ _ _))) rfl ?_
      refine j_iload_n E dX6_ring_26 rfl ?_
      refine j_iaload E j dX6_ring_27 (by first | with_reducible assumption | exact hput_eq _ _ _ | exact (hput_ne _ (by first | assumption | exact Ne.symm (by assumption))).trans (by assumption) | exact (hput_ne _ (by first | assumption | exact Ne.symm (by assumption))).trans (hput_eq _ _ _) | exact (hput_ne _ (by first | assumption | exact Ne.symm (by assumption))).trans ((hput_ne _ (by first | assumption | exact Ne.symm (by assumption))).trans (by assumption)) | exact (hput_ne _ (by first | assumption | exact Ne.symm (by assumption))).trans ((hput_ne _ (by first | assumption | exact Ne.symm (by assumption))).trans (hput_eq _ _ _))) rfl (by omega) (by omega) ?_
      refine J.topi (x' := nI (rg.getD j 0)) (F3 j hj) ?_
      refine J.wide (k' := 1) (n' := 6) (by omega) (by omega) ?_
      rw [← hQ]
      exact j_x (j_iret E dX6_ring_28 rfl rfl (by omega) (by omega) ⟨rfl, j, hj, rfl, rfl⟩)
    ·
      rw [← hQ]
      exact j_throw (cls := "java/lang/IndexOutOfBoundsException") (text := "no such place in the ring") (ik := 153) (is := 155) (ic := 157) E htab dX6_ring_12 dX6_ring_15 dX6_ring_16 dX6_ring_18 dX6_ring_21 (by decide) (by decide +kernel) (by decide +kernel) (by decide) (by decide +kernel) (by decide +kernel) (by decide +kernel) (by omega) (Nat.le_of_ble_eq_true rfl) (by omega) (by omega) ⟨rfl, rfl, isx_big (by omega) (Int32.not_lt.mp c2)⟩
end C5
