/-! shapes as the class holds them -/
def bxA (a : SH) (i : Nat) : BB := (bx0 a i, by0 a i, bx1 a i, by1 a i)
def bxs (a : SH) : List BB := (List.range (nc a / 2)).map (bxA a)
theorem bxs_len (a : SH) : (bxs a).length = nc a / 2 := by unfold bxs; rw [List.length_map, List.length_range]
theorem bxs_get {a : SH} {i : Nat} (hi : i < nc a / 2) : gB (bxs a) i = bxA a i := by
  unfold gB bxs
  rw [List.getD_eq_getElem?_getD, List.getElem?_map, List.getElem?_range hi]; rfl
theorem bxA_wB {a : SH} (hw : wfS a) {i : Nat} (hi : i < nc a / 2) : wB (bxA a i) := by
  have h := bx_bnd hw hi
  have h1 : bx0 a i ≤ bx1 a i := by unfold bx0 bx1; omega
  have h2 : by0 a i ≤ by1 a i := by unfold by0 by1; omega
  exact ⟨⟨h.1.1, h1, h.2.1.2⟩, h.2.2.1.1, h2, h.2.2.2.2⟩
theorem bxs_wB {a : SH} (hw : wfS a) : ∀ i, i < (bxs a).length → wB (gB (bxs a) i) := fun i hi => by
  rw [bxs_len] at hi
  rw [bxs_get hi]
  exact bxA_wB hw hi
abbrev SG : Type := Nat × Nat × Nat × Nat × List Nat
noncomputable def shF (a : SH) (g : SG) (nr : Int32) (hx hy : Int64) : List Value := [.ref g.2.1, .ref g.2.2.2.1, .int (nI (nk a)), .int (iZ (sd a)), .int (iZ (tl a)), .int nr, .int (bI (nc a % 2 = 1)), .long hx, .long hy]
/-- the shape at g.1, its list of boxes at g.2.1, the list's array, its places -/
def shR (E0 : Nat) (h : HM) (a : SH) (nr : Int32) (g : SG) : Prop := (∃ hx hy, h g.1 = some (hO 6 (shF a g nr hx hy)) ∧ (nc a % 2 = 1 → hx = lZ (cx a (nc a - 1)) ∧ hy = lZ (cy a (nc a - 1)))) ∧ BLs E0 h g.2.1 g.2.2.1 g.2.2.2.2 (bxs a) ∧ ∃ f, h g.2.2.2.1 = some (hJ 3 f) ∧ ∀ k, k < nk a → f k = lZ (ct a k)
section C2
variable {l : Launch} {B E0 : Nat} {D : va_G} {h : HM} {d : Int}
theorem iw_X5_isOpen_X5 : ∀ w ∈ u_ws RX5 TX5 9, w ∈ wsX5_isOpen := by decide +kernel
theorem c_isOpen (v : Nat) {a : SH} {nr : Int32} {g : SG} (R : shR E0 h a nr g) (hw : wfS a) : CM l B E0 D yX5_isOpen wsX5_isOpen (v + 2) 0 0 [.ref g.1] h (fun r h1 => r = some (.int (bI (opn a))) ∧ h1 = h) := by
  obtain ⟨⟨hx, hy, R1, R2⟩, ⟨L1, L2, L3⟩, R4⟩ := R
  rw [bxs_len] at L2
  have h8 := hw.1
  have hq : ∃ z, h g.2.1 = some (hO 0 z) := by
    obtain ⟨m, cap, f, g1, -⟩ := L1
    exact ⟨_, g1⟩
  obtain ⟨zq, hq⟩ := hq
  unfold shF at R1
  refine CM.of (cc := cX5_isOpen) (maxL := 1) (ret := (some .boolean)) (by decide) rfl (Nat.le_of_ble_eq_true rfl) (fun X E hin => ?_)
  show J X B D 1 _ h 0 0 0 [(0, .ref g.1)] []
  generalize hQ : jQ X B D _ _ _ = Q
  refine j_aload_n E dX5_isOpen_0 rfl ?_
  refine j_getfield (ref := "ColourParts$Shape") (C := RX5) (T := TX5) (N := 9) (ci := 6) E 6 dX5_isOpen_1 iw_X5_isOpen_X5 rfl (by decide) (by decide +kernel) rfl (by first | with_reducible assumption | exact hput_eq _ _ _ | exact (hput_ne _ (by first | assumption | exact Ne.symm (by assumption))).trans (by assumption) | exact (hput_ne _ (by first | assumption | exact Ne.symm (by assumption))).trans (hput_eq _ _ _) | exact (hput_ne _ (by first | assumption | exact Ne.symm (by assumption))).trans ((hput_ne _ (by first | assumption | exact Ne.symm (by assumption))).trans (by assumption)) | exact (hput_ne _ (by first | assumption | exact Ne.symm (by assumption))).trans ((hput_ne _ (by first | assumption | exact Ne.symm (by assumption))).trans (hput_eq _ _ _))) rfl ?_
  refine j_if_ne E (tgt := 17) dX5_isOpen_4 (by decide) (fun c1 => ?_) (fun c1 => ?_)
  · have e := bI_n.mp c1
    refine j_iconst (x := nI 1) E dX5_isOpen_17 (by decide) ?_
    refine J.topi (x' := bI (opn a)) ((bI_t (Or.inl e)).symm) ?_
    refine j_goto E (tgt := 22) dX5_isOpen_18 (by decide) ?_
    rw [← hQ]
    exact j_iret E dX5_isOpen_22 rfl (nb_bI _) (by omega) (by omega) ⟨rfl, rfl⟩
  · have e := bI_z.mp c1
    refine j_aload_n E dX5_isOpen_7 rfl ?_
    refine j_getfield (ref := "ColourParts$Shape") (C := RX5) (T := TX5) (N := 9) (ci := 6) E 0 dX5_isOpen_8 iw_X5_isOpen_X5 rfl (by decide) (by decide +kernel) rfl (by first | with_reducible assumption | exact hput_eq _ _ _ | exact (hput_ne _ (by first | assumption | exact Ne.symm (by assumption))).trans (by assumption) | exact (hput_ne _ (by first | assumption | exact Ne.symm (by assumption))).trans (hput_eq _ _ _) | exact (hput_ne _ (by first | assumption | exact Ne.symm (by assumption))).trans ((hput_ne _ (by first | assumption | exact Ne.symm (by assumption))).trans (by assumption)) | exact (hput_ne _ (by first | assumption | exact Ne.symm (by assumption))).trans ((hput_ne _ (by first | assumption | exact Ne.symm (by assumption))).trans (hput_eq _ _ _))) rfl ?_
    refine j_callV (np := 0) (C := RJx4a65c) (T := TJx4a65c) (N := 3) (ci := 0) E (c_isEmpty v L1 (by omega)) gX5_isOpen_Jx4a65c_isEmpty_aae02 rfl ⟨rfl, by decide, by decide, by decide +kernel⟩ dX5_isOpen_11 (by omega) (by decide) rfl hq rfl rfl (Nat.le_of_ble_eq_true rfl) (by omega) (by omega) (fun r9 h9 p9 => J.pure p9 ?_)
    refine J.wide (k' := 0) (n' := 0) (by omega) (by omega) ?_
    by_cases e2 : g.2.2.2.2 = []
    · rw [if_pos e2]
      have e3 : nc a = 0 := by rw [e2] at L2; have : 0 = nc a / 2 := L2; omega
      refine j_if_eq E (tgt := 21) dX5_isOpen_14 (by decide) (fun c2 => ?_) (fun c2 => ?_)
      · exact absurd c2 (by decide)
      ·
        refine j_iconst (x := nI 1) E dX5_isOpen_17 (by decide) ?_
        refine J.topi (x' := bI (opn a)) ((bI_t (Or.inr e3)).symm) ?_
        refine j_goto E (tgt := 22) dX5_isOpen_18 (by decide) ?_
        rw [← hQ]
        exact j_iret E dX5_isOpen_22 rfl (nb_bI _) (by omega) (by omega) ⟨rfl, rfl⟩
    · rw [if_neg e2]
      have e3 : ¬ nc a = 0 := fun z => e2 (List.eq_nil_of_length_eq_zero (by omega))
      refine j_if_eq E (tgt := 21) dX5_isOpen_14 (by decide) (fun c2 => ?_) (fun c2 => ?_)
      ·
        refine j_iconst (x := nI 0) E dX5_isOpen_21 (by decide) ?_
        refine J.topi (x' := bI (opn a)) ((bI_f (fun z => z.elim e e3)).symm) ?_
        rw [← hQ]
        exact j_iret E dX5_isOpen_22 rfl (nb_bI _) (by omega) (by omega) ⟨rfl, rfl⟩
      · exact absurd rfl c2
theorem iw_X5_isNearShape_X5 : ∀ w ∈ u_ws RX5 TX5 9, w ∈ wsX5_isNearShape := by decide +kernel
theorem c_isNearShape (v : Nat) {a : SH} {S : Nat → Prop} {g : SG} (R : shR E0 h a (bS S) g) {j : Nat} (hj : j < 12) : CM l B E0 D yX5_isNearShape wsX5_isNearShape (v + 1) 0 0 [.ref g.1, .int (nI j)] h (fun r h1 => r = some (.int (bI (S j))) ∧ h1 = h) := by
  obtain ⟨⟨hx, hy, R1, R2⟩, -⟩ := R
  unfold shF at R1
  refine CM.of (cc := cX5_isNearShape) (maxL := 2) (ret := (some .boolean)) (by decide) rfl (Nat.le_of_ble_eq_true rfl) (fun X E hin => ?_)
  show J X B D 2 _ h 0 0 0 [(0, .ref g.1), (1, .int (nI j))] []
  generalize hQ : jQ X B D _ _ _ = Q
  refine j_aload_n E dX5_isNearShape_0 rfl ?_
  refine j_getfield (ref := "ColourParts$Shape") (C := RX5) (T := TX5) (N := 9) (ci := 6) E 5 dX5_isNearShape_1 iw_X5_isNearShape_X5 rfl (by decide) (by decide +kernel) rfl (by first | with_reducible assumption | exact hput_eq _ _ _ | exact (hput_ne _ (by first | assumption | exact Ne.symm (by assumption))).trans (by assumption) | exact (hput_ne _ (by first | assumption | exact Ne.symm (by assumption))).trans (hput_eq _ _ _) | exact (hput_ne _ (by first | assumption | exact Ne.symm (by assumption))).trans ((hput_ne _ (by first | assumption | exact Ne.symm (by assumption))).trans (by assumption)) | exact (hput_ne _ (by first | assumption | exact Ne.symm (by assumption))).trans ((hput_ne _ (by first | assumption | exact Ne.symm (by assumption))).trans (hput_eq _ _ _))) rfl ?_
  refine j_iload_n E dX5_isNearShape_4 rfl ?_
  refine j_ishr E dX5_isNearShape_5 ?_
  refine j_iconst (x := nI 1) E dX5_isNearShape_6 (by decide) ?_
  refine j_iand E dX5_isNearShape_7 ?_
  refine J.topi (x' := bI (S j)) (bS_has S hj) ?_
  refine j_if_eq E (tgt := 15) dX5_isNearShape_8 (by decide) (fun c1 => ?_) (fun c1 => ?_)
  ·
    refine j_iconst (x := nI 0) E dX5_isNearShape_15 (by decide) ?_
    refine J.topi (x' := bI (S j)) (c1.symm) ?_
    rw [← hQ]
    exact j_iret E dX5_isNearShape_16 rfl (nb_bI _) (by omega) (by omega) ⟨rfl, rfl⟩
  ·
    refine j_iconst (x := nI 1) E dX5_isNearShape_11 (by decide) ?_
    refine J.topi (x' := bI (S j)) ((bI_t (bI_n.mp c1)).symm) ?_
    refine j_goto E (tgt := 16) dX5_isNearShape_12 (by decide) ?_
    rw [← hQ]
    exact j_iret E dX5_isNearShape_16 rfl (nb_bI _) (by omega) (by omega) ⟨rfl, rfl⟩
theorem iw_X5_hasStitch_X5 : ∀ w ∈ u_ws RX5 TX5 9, w ∈ wsX5_hasStitch := by decide +kernel
theorem c_hasStitch (v : Nat) {a : SH} {nr : Int32} {g : SG} (R : shR E0 h a nr g) (hw : wfS a) (x : Int64) {w : Int} (hww : w = 0 ∨ w = 1) : CM l B E0 D yX5_hasStitch wsX5_hasStitch (v + 1) 0 0 [.ref g.1, .long x, .int (iZ w)] h (fun r h1 => r = some (.int (bI (hasC a w x))) ∧ h1 = h) := by
  obtain ⟨⟨hx, hy, R1, R2⟩, -, f, R4, R5⟩ := R
  have h3 := hw.2.1
  have hsd := hw.2.2.2.2.2.2.1
  unfold shF at R1
  refine CM.of (cc := cX5_hasStitch) (maxL := 5) (ret := (some .boolean)) (by decide) rfl (Nat.le_of_ble_eq_true rfl) (fun X E hin => ?_)
  show J X B D 5 _ h 0 0 0 [(0, .ref g.1), (1, .long x), (3, .int (iZ w))] []
  generalize hQ : jQ X B D _ _ _ = Q
  refine j_aload_n E dX5_hasStitch_0 rfl ?_
  refine j_getfield (ref := "ColourParts$Shape") (C := RX5) (T := TX5) (N := 9) (ci := 6) E 3 dX5_hasStitch_1 iw_X5_hasStitch_X5 rfl (by decide) (by decide +kernel) rfl (by first | with_reducible assumption | exact hput_eq _ _ _ | exact (hput_ne _ (by first | assumption | exact Ne.symm (by assumption))).trans (by assumption) | exact (hput_ne _ (by first | assumption | exact Ne.symm (by assumption))).trans (hput_eq _ _ _) | exact (hput_ne _ (by first | assumption | exact Ne.symm (by assumption))).trans ((hput_ne _ (by first | assumption | exact Ne.symm (by assumption))).trans (by assumption)) | exact (hput_ne _ (by first | assumption | exact Ne.symm (by assumption))).trans ((hput_ne _ (by first | assumption | exact Ne.symm (by assumption))).trans (hput_eq _ _ _))) rfl ?_
  refine j_iload_n E dX5_hasStitch_4 rfl ?_
  refine j_icmp_eq E (tgt := 10) dX5_hasStitch_5 (by decide) (fun c1 => ?_) (fun c1 => ?_)
  · have e : sd a = w := (iZ_eq (by omega) (by omega)).mp c1
    refine j_iconst (x := nI 0) E dX5_hasStitch_10 (by decide) ?_
    refine j_istore E dX5_hasStitch_11 (by decide) ?_
    have key : ∀ (t i : Nat), i + t = nk a → (∀ j, j < i → ¬ lZ (ct a j) = x) → J X B D 5 Q h 0 0 13 [(4, .int (nI i)), (0, .ref g.1), (1, .long x)] [] := by
      intro t
      induction t with
      | zero =>
        intro i hi hno
        refine j_iload E dX5_hasStitch_13 rfl ?_
        refine j_aload_n E dX5_hasStitch_15 rfl ?_
        refine j_getfield (ref := "ColourParts$Shape") (C := RX5) (T := TX5) (N := 9) (ci := 6) E 2 dX5_hasStitch_16 iw_X5_hasStitch_X5 rfl (by decide) (by decide +kernel) rfl (by first | with_reducible assumption | exact hput_eq _ _ _ | exact (hput_ne _ (by first | assumption | exact Ne.symm (by assumption))).trans (by assumption) | exact (hput_ne _ (by first | assumption | exact Ne.symm (by assumption))).trans (hput_eq _ _ _) | exact (hput_ne _ (by first | assumption | exact Ne.symm (by assumption))).trans ((hput_ne _ (by first | assumption | exact Ne.symm (by assumption))).trans (by assumption)) | exact (hput_ne _ (by first | assumption | exact Ne.symm (by assumption))).trans ((hput_ne _ (by first | assumption | exact Ne.symm (by assumption))).trans (hput_eq _ _ _))) rfl ?_
        refine j_icmp_ge E (tgt := 42) dX5_hasStitch_19 (by decide) (fun c2 => ?_) (fun c2 => ?_)
        ·
          refine j_iconst (x := nI 0) E dX5_hasStitch_42 (by decide) ?_
          refine J.topi (x' := bI (hasC a w x)) ((bI_f (fun z => z.elim (fun j hj => hno j (by omega) hj.2.2))).symm) ?_
          rw [← hQ]
          exact j_iret E dX5_hasStitch_43 rfl (nb_bI _) (by omega) (by omega) ⟨rfl, rfl⟩
        · exact absurd (nI_le (show nk a ≤ i by omega) (by omega)) c2
      | succ t ih =>
        intro i hi hno
        have hil : i < nk a := by omega
        refine j_iload E dX5_hasStitch_13 rfl ?_
        refine j_aload_n E dX5_hasStitch_15 rfl ?_
        refine j_getfield (ref := "ColourParts$Shape") (C := RX5) (T := TX5) (N := 9) (ci := 6) E 2 dX5_hasStitch_16 iw_X5_hasStitch_X5 rfl (by decide) (by decide +kernel) rfl (by first | with_reducible assumption | exact hput_eq _ _ _ | exact (hput_ne _ (by first | assumption | exact Ne.symm (by assumption))).trans (by assumption) | exact (hput_ne _ (by first | assumption | exact Ne.symm (by assumption))).trans (hput_eq _ _ _) | exact (hput_ne _ (by first | assumption | exact Ne.symm (by assumption))).trans ((hput_ne _ (by first | assumption | exact Ne.symm (by assumption))).trans (by assumption)) | exact (hput_ne _ (by first | assumption | exact Ne.symm (by assumption))).trans ((hput_ne _ (by first | assumption | exact Ne.symm (by assumption))).trans (hput_eq _ _ _))) rfl ?_
        refine j_icmp_ge E (tgt := 42) dX5_hasStitch_19 (by decide) (fun c2 => ?_) (fun c2 => ?_)
        · exact absurd c2 (nI_ge hil (by omega))
        ·
          refine j_aload_n E dX5_hasStitch_22 rfl ?_
          refine j_getfield (ref := "ColourParts$Shape") (C := RX5) (T := TX5) (N := 9) (ci := 6) E 1 dX5_hasStitch_23 iw_X5_hasStitch_X5 rfl (by decide) (by decide +kernel) rfl (by first | with_reducible assumption | exact hput_eq _ _ _ | exact (hput_ne _ (by first | assumption | exact Ne.symm (by assumption))).trans (by assumption) | exact (hput_ne _ (by first | assumption | exact Ne.symm (by assumption))).trans (hput_eq _ _ _) | exact (hput_ne _ (by first | assumption | exact Ne.symm (by assumption))).trans ((hput_ne _ (by first | assumption | exact Ne.symm (by assumption))).trans (by assumption)) | exact (hput_ne _ (by first | assumption | exact Ne.symm (by assumption))).trans ((hput_ne _ (by first | assumption | exact Ne.symm (by assumption))).trans (hput_eq _ _ _))) rfl ?_
          refine j_iload E dX5_hasStitch_26 rfl ?_
          refine j_laload E i dX5_hasStitch_28 (by first | with_reducible assumption | exact hput_eq _ _ _ | exact (hput_ne _ (by first | assumption | exact Ne.symm (by assumption))).trans (by assumption) | exact (hput_ne _ (by first | assumption | exact Ne.symm (by assumption))).trans (hput_eq _ _ _) | exact (hput_ne _ (by first | assumption | exact Ne.symm (by assumption))).trans ((hput_ne _ (by first | assumption | exact Ne.symm (by assumption))).trans (by assumption)) | exact (hput_ne _ (by first | assumption | exact Ne.symm (by assumption))).trans ((hput_ne _ (by first | assumption | exact Ne.symm (by assumption))).trans (hput_eq _ _ _))) rfl (by omega) (by omega) ?_
          refine J.topl (x' := lZ (ct a i)) (R5 i hil) ?_
          refine j_lload_n E dX5_hasStitch_29 rfl ?_
          refine j_lcmp E dX5_hasStitch_30 ?_
          refine j_if_ne E (tgt := 36) dX5_hasStitch_31 (by decide) (fun c3 => ?_) (fun c3 => ?_)
          ·
            refine j_iinc E dX5_hasStitch_36 rfl (nI_1 i) (by decide) ?_
            refine j_goto E (tgt := 13) dX5_hasStitch_39 (by decide) ?_
            refine J.sub [(4, .int (nI (i + 1))), (0, .ref g.1), (1, .long x)] ⟨rfl, rfl, rfl, trivial⟩ ?_
            refine ih (i + 1) (by omega) (fun j hj => ?_)
            by_cases e2 : j = i
            · rw [e2]; exact fun z => c3 (cmp_eq.mpr z)
            · exact hno j (by omega)
          ·
            refine j_iconst (x := nI 1) E dX5_hasStitch_34 (by decide) ?_
            refine J.topi (x' := bI (hasC a w x)) ((bI_t ⟨i, hil, e, cmp_eq.mp c3⟩).symm) ?_
            rw [← hQ]
            exact j_iret E dX5_hasStitch_35 rfl (nb_bI _) (by omega) (by omega) ⟨rfl, rfl⟩
    refine J.sub [(4, .int (nI 0)), (0, .ref g.1), (1, .long x)] ⟨rfl, rfl, rfl, trivial⟩ ?_
    exact key (nk a) 0 (by omega) (fun j hj => absurd hj (Nat.not_lt_zero _))
  ·
    refine j_iconst (x := nI 0) E dX5_hasStitch_8 (by decide) ?_
    refine J.topi (x' := bI (hasC a w x)) ((bI_f (fun z => z.elim (fun j hj => c1 (by rw [hj.2.1])))).symm) ?_
    rw [← hQ]
    exact j_iret E dX5_hasStitch_9 rfl (nb_bI _) (by omega) (by omega) ⟨rfl, rfl⟩
end C2
