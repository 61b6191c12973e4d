/-! boxes -/
abbrev BB : Type := Int × Int × Int × Int
abbrev dB : BB := (0, 0, 0, 0)
abbrev bxO (b : BB) : HO := hO 1 [.long (lZ b.1), .long (lZ b.2.1), .long (lZ b.2.2.1), .long (lZ b.2.2.2)]
def wB (b : BB) : Prop := (-1000000 ≤ b.1 ∧ b.1 ≤ b.2.2.1 ∧ b.2.2.1 ≤ 1000000) ∧ -1000000 ≤ b.2.1 ∧ b.2.1 ≤ b.2.2.2 ∧ b.2.2.2 ≤ 1000000
def nrB (d : Int) (b c : BB) : Prop := nearB d b.1 b.2.1 b.2.2.1 b.2.2.2 c.1 c.2.1 c.2.2.1 c.2.2.2
def gB (bs : List BB) (i : Nat) : BB := bs.getD i dB
def BLs (E0 : Nat) (h : HM) (a e : Nat) (els : List Nat) (bs : List BB) : Prop := AL E0 h a e els ∧ els.length = bs.length ∧ ∀ i (hi : i < els.length), h els[i] = some (bxO (gB bs i))
def anyB (d : Int) (b : BB) (bs : List BB) : Prop := ∃ i, i < bs.length ∧ nrB d b (gB bs i)
theorem mn_lt (x y : Int) : (if y < x then y else x) = min x y := by
  by_cases e : y < x
  · rw [if_pos e, Int.min_eq_right (by omega)]
  · rw [if_neg e, Int.min_eq_left (by omega)]
theorem lmax {x y : Int} (hx : lOK x) (hy : lOK y) : (if lZ y < lZ x then lZ x else lZ y) = lZ (max x y) := by
  by_cases e : y < x
  · rw [if_pos ((lZ_lt hy hx).mpr e), Int.max_eq_left (by omega)]
  · rw [if_neg (fun z => e ((lZ_lt hy hx).mp z)), Int.max_eq_right (by omega)]
theorem lmin {x y : Int} (hx : lOK x) (hy : lOK y) : (if lZ y < lZ x then lZ y else lZ x) = lZ (min x y) := by
  by_cases e : y < x
  · rw [if_pos ((lZ_lt hy hx).mpr e), Int.min_eq_right (by omega)]
  · rw [if_neg (fun z => e ((lZ_lt hy hx).mp z)), Int.min_eq_left (by omega)]
theorem gap_eq {f t f2 t2 : Int} (h1 : f ≤ t) (h2 : f2 ≤ t2) : max 0 (max (f2 - t) (f - t2)) = gap f t f2 t2 := by unfold gap; omega
theorem gap_bndW {f t f2 t2 : Int} (h1 : -1000000 ≤ f ∧ f ≤ t ∧ t ≤ 1000000) (h2 : -1000000 ≤ f2 ∧ f2 ≤ t2 ∧ t2 ≤ 1000000) : 0 ≤ gap f t f2 t2 ∧ gap f t f2 t2 ≤ 2000000 := by unfold gap; omega
section C1
variable {l : Launch} {B E0 : Nat} {D : va_G} {h : HM} {d : Int}
theorem c_gap (v : Nat) {f t f2 t2 : Int} (h1 : -1000000 ≤ f ∧ f ≤ t ∧ t ≤ 1000000) (h2 : -1000000 ≤ f2 ∧ f2 ≤ t2 ∧ t2 ≤ 1000000) : CM l B E0 D yX0_gap wsX0_gap (v + 2) 0 0 [.long (lZ f), .long (lZ t), .long (lZ f2), .long (lZ t2)] h (fun r h1 => r = some (.long (lZ (gap f t f2 t2))) ∧ h1 = h) := by
  have o1 : lOK (f2 - t) := by unfold lOK; omega
  have o2 : lOK (f - t2) := by unfold lOK; omega
  refine CM.of (cc := cX0_gap) (maxL := 8) (ret := (some .long)) (by decide) rfl (Nat.le_of_ble_eq_true rfl) (fun X E hin => ?_)
  show J X B D 8 _ h 0 0 0 [(0, .long (lZ f)), (2, .long (lZ t)), (4, .long (lZ f2)), (6, .long (lZ t2))] []
  generalize hQ : jQ X B D _ _ _ = Q
  refine j_lconst (x := lZ 0) E dX0_gap_0 (by decide) ?_
  refine j_lload E dX0_gap_1 rfl ?_
  refine j_lload_n E dX0_gap_3 rfl ?_
  refine j_lsub E dX0_gap_4 ?_
  refine J.topl (x' := lZ (f2 - t)) (lZ_sub _ _) ?_
  refine j_lload_n E dX0_gap_5 rfl ?_
  refine j_lload E dX0_gap_6 rfl ?_
  refine j_lsub E dX0_gap_8 ?_
  refine J.topl (x' := lZ (f - t2)) (lZ_sub _ _) ?_
  refine j_mmaxl E dX0_gap_9 (by decide +kernel) (by decide +kernel) (by decide +kernel) (by decide +kernel) (by omega) (Nat.le_of_ble_eq_true rfl) (by omega) (by omega) ?_
  refine J.topl (x' := lZ (max (f2 - t) (f - t2))) (lmax o1 o2) ?_
  refine j_mmaxl E dX0_gap_12 (by decide +kernel) (by decide +kernel) (by decide +kernel) (by decide +kernel) (by omega) (Nat.le_of_ble_eq_true rfl) (by omega) (by omega) ?_
  refine J.topl (x' := lZ (gap f t f2 t2)) ((lmax (by unfold lOK; omega) (by unfold lOK; omega)).trans (congrArg lZ (gap_eq h1.2.1 h2.2.1))) ?_
  rw [← hQ]
  exact j_lret E dX0_gap_15 rfl (by omega) (by omega) ⟨rfl, rfl⟩
theorem iw_X0_init_X0 : ∀ w ∈ u_ws RX0 TX0 4, w ∈ wsX0_init := by decide +kernel
theorem c_boxInit (v : Nat) {a : Nat} (b : BB) (ha : h a = some (hO 1 [.long 0, .long 0, .long 0, .long 0])) : CM l B E0 D yX0_init wsX0_init (v + 2) 0 0 [.ref a, .long (lZ b.1), .long (lZ b.2.1), .long (lZ b.2.2.1), .long (lZ b.2.2.2)] h (fun r h1 => r = none ∧ h1 = hput h a (bxO b)) := by
  refine CM.of (cc := cX0_init) (maxL := 9) (ret := none) (by decide) rfl (Nat.le_of_ble_eq_true rfl) (fun X E hin => ?_)
  show J X B D 9 _ h 0 0 0 [(0, .ref a), (1, .long (lZ b.1)), (3, .long (lZ b.2.1)), (5, .long (lZ b.2.2.1)), (7, .long (lZ b.2.2.2))] []
  generalize hQ : jQ X B D _ _ _ = Q
  refine j_aload_n E dX0_init_0 rfl ?_
  refine j_objInit E dX0_init_1 (by decide +kernel) (by decide +kernel) (by decide +kernel) (by omega) (Nat.le_of_ble_eq_true rfl) ?_
  refine j_aload_n E dX0_init_4 rfl ?_
  refine j_lload_n E dX0_init_5 rfl ?_
  refine j_putfin (C := RX0) (T := TX0) (N := 4) (ci := 1) E 0 dX0_init_6 iw_X0_init_X0 tyX0 tyX0_ok nmX0 rfl (by decide) (by decide +kernel) rfl rfl hin rfl rfl rfl (by first | with_reducible assumption | exact hput_eq _ _ _ | exact (hput_ne _ (by first | assumption | exact Ne.symm (by assumption))).trans (by assumption) | exact (hput_ne _ (by first | assumption | exact Ne.symm (by assumption))).trans (hput_eq _ _ _) | exact (hput_ne _ (by first | assumption | exact Ne.symm (by assumption))).trans ((hput_ne _ (by first | assumption | exact Ne.symm (by assumption))).trans (by assumption)) | exact (hput_ne _ (by first | assumption | exact Ne.symm (by assumption))).trans ((hput_ne _ (by first | assumption | exact Ne.symm (by assumption))).trans (hput_eq _ _ _))) (Nat.le_of_ble_eq_true rfl) ?_
  refine j_aload_n E dX0_init_9 rfl ?_
  refine j_lload_n E dX0_init_10 rfl ?_
  refine j_putfin (C := RX0) (T := TX0) (N := 4) (ci := 1) E 1 dX0_init_11 iw_X0_init_X0 tyX0 tyX0_ok nmX0 rfl (by decide) (by decide +kernel) rfl rfl hin rfl rfl rfl (by first | with_reducible assumption | exact hput_eq _ _ _ | exact (hput_ne _ (by first | assumption | exact Ne.symm (by assumption))).trans (by assumption) | exact (hput_ne _ (by first | assumption | exact Ne.symm (by assumption))).trans (hput_eq _ _ _) | exact (hput_ne _ (by first | assumption | exact Ne.symm (by assumption))).trans ((hput_ne _ (by first | assumption | exact Ne.symm (by assumption))).trans (by assumption)) | exact (hput_ne _ (by first | assumption | exact Ne.symm (by assumption))).trans ((hput_ne _ (by first | assumption | exact Ne.symm (by assumption))).trans (hput_eq _ _ _))) (Nat.le_of_ble_eq_true rfl) ?_
  refine j_aload_n E dX0_init_14 rfl ?_
  refine j_lload E dX0_init_15 rfl ?_
  refine j_putfin (C := RX0) (T := TX0) (N := 4) (ci := 1) E 2 dX0_init_17 iw_X0_init_X0 tyX0 tyX0_ok nmX0 rfl (by decide) (by decide +kernel) rfl rfl hin rfl rfl rfl (by first | with_reducible assumption | exact hput_eq _ _ _ | exact (hput_ne _ (by first | assumption | exact Ne.symm (by assumption))).trans (by assumption) | exact (hput_ne _ (by first | assumption | exact Ne.symm (by assumption))).trans (hput_eq _ _ _) | exact (hput_ne _ (by first | assumption | exact Ne.symm (by assumption))).trans ((hput_ne _ (by first | assumption | exact Ne.symm (by assumption))).trans (by assumption)) | exact (hput_ne _ (by first | assumption | exact Ne.symm (by assumption))).trans ((hput_ne _ (by first | assumption | exact Ne.symm (by assumption))).trans (hput_eq _ _ _))) (Nat.le_of_ble_eq_true rfl) ?_
  refine j_aload_n E dX0_init_20 rfl ?_
  refine j_lload E dX0_init_21 rfl ?_
  refine j_putfin (C := RX0) (T := TX0) (N := 4) (ci := 1) E 3 dX0_init_23 iw_X0_init_X0 tyX0 tyX0_ok nmX0 rfl (by decide) (by decide +kernel) rfl rfl hin rfl rfl rfl (by first | with_reducible assumption | exact hput_eq _ _ _ | exact (hput_ne _ (by first | assumption | exact Ne.symm (by assumption))).trans (by assumption) | exact (hput_ne _ (by first | assumption | exact Ne.symm (by assumption))).trans (hput_eq _ _ _) | exact (hput_ne _ (by first | assumption | exact Ne.symm (by assumption))).trans ((hput_ne _ (by first | assumption | exact Ne.symm (by assumption))).trans (by assumption)) | exact (hput_ne _ (by first | assumption | exact Ne.symm (by assumption))).trans ((hput_ne _ (by first | assumption | exact Ne.symm (by assumption))).trans (hput_eq _ _ _))) (Nat.le_of_ble_eq_true rfl) ?_
  rw [← hQ]
  exact j_vret E dX0_init_26 rfl (by omega) (by omega) ⟨rfl, by rw [hput_hput, hput_hput, hput_hput]; rfl⟩
theorem iw_X0_area_X0 : ∀ w ∈ u_ws RX0 TX0 4, w ∈ wsX0_area := by decide +kernel
theorem c_area (v : Nat) {a : Nat} (b : BB) (ha : h a = some (bxO b)) : CM l B E0 D yX0_area wsX0_area (v + 1) 0 0 [.ref a] h (fun r h1 => r = some (.long (lZ ((b.2.2.1 - b.1) * (b.2.2.2 - b.2.1)))) ∧ h1 = h) := by
  refine CM.of (cc := cX0_area) (maxL := 1) (ret := (some .long)) (by decide) rfl (Nat.le_of_ble_eq_true rfl) (fun X E hin => ?_)
  show J X B D 1 _ h 0 0 0 [(0, .ref a)] []
  generalize hQ : jQ X B D _ _ _ = Q
  refine j_aload_n E dX0_area_0 rfl ?_
  refine j_getfield (ref := "ColourParts$Box") (C := RX0) (T := TX0) (N := 4) (ci := 1) E 2 dX0_area_1 iw_X0_area_X0 rfl (by decide) (by decide +kernel) rfl (by first | with_reducible assumption | exact hput_eq _ _ _ | exact (hput_ne _ (by first | assumption | exact Ne.symm (by assumption))).trans (by assumption) | exact (hput_ne _ (by first | assumption | exact Ne.symm (by assumption))).trans (hput_eq _ _ _) | exact (hput_ne _ (by first | assumption | exact Ne.symm (by assumption))).trans ((hput_ne _ (by first | assumption | exact Ne.symm (by assumption))).trans (by assumption)) | exact (hput_ne _ (by first | assumption | exact Ne.symm (by assumption))).trans ((hput_ne _ (by first | assumption | exact Ne.symm (by assumption))).trans (hput_eq _ _ _))) rfl ?_
  refine j_aload_n E dX0_area_4 rfl ?_
  refine j_getfield (ref := "ColourParts$Box") (C := RX0) (T := TX0) (N := 4) (ci := 1) E 0 dX0_area_5 iw_X0_area_X0 rfl (by decide) (by decide +kernel) rfl (by first | with_reducible assumption | exact hput_eq _ _ _ | exact (hput_ne _ (by first | assumption | exact Ne.symm (by assumption))).trans (by assumption) | exact (hput_ne _ (by first | assumption | exact Ne.symm (by assumption))).trans (hput_eq _ _ _) | exact (hput_ne _ (by first | assumption | exact Ne.symm (by assumption))).trans ((hput_ne _ (by first | assumption | exact Ne.symm (by assumption))).trans (by assumption)) | exact (hput_ne _ (by first | assumption | exact Ne.symm (by assumption))).trans ((hput_ne _ (by first | assumption | exact Ne.symm (by assumption))).trans (hput_eq _ _ _))) rfl ?_
  refine j_lsub E dX0_area_8 ?_
  refine J.topl (x' := lZ (b.2.2.1 - b.1)) (lZ_sub _ _) ?_
  refine j_aload_n E dX0_area_9 rfl ?_
  refine j_getfield (ref := "ColourParts$Box") (C := RX0) (T := TX0) (N := 4) (ci := 1) E 3 dX0_area_10 iw_X0_area_X0 rfl (by decide) (by decide +kernel) rfl (by first | with_reducible assumption | exact hput_eq _ _ _ | exact (hput_ne _ (by first | assumption | exact Ne.symm (by assumption))).trans (by assumption) | exact (hput_ne _ (by first | assumption | exact Ne.symm (by assumption))).trans (hput_eq _ _ _) | exact (hput_ne _ (by first | assumption | exact Ne.symm (by assumption))).trans ((hput_ne _ (by first | assumption | exact Ne.symm (by assumption))).trans (by assumption)) | exact (hput_ne _ (by first | assumption | exact Ne.symm (by assumption))).trans ((hput_ne _ (by first | assumption | exact Ne.symm (by assumption))).trans (hput_eq _ _ _))) rfl ?_
  refine j_aload_n E dX0_area_13 rfl ?_
  refine j_getfield (ref := "ColourParts$Box") (C := RX0) (T := TX0) (N := 4) (ci := 1) E 1 dX0_area_14 iw_X0_area_X0 rfl (by decide) (by decide +kernel) rfl (by first | with_reducible assumption | exact hput_eq _ _ _ | exact (hput_ne _ (by first | assumption | exact Ne.symm (by assumption))).trans (by assumption) | exact (hput_ne _ (by first | assumption | exact Ne.symm (by assumption))).trans (hput_eq _ _ _) | exact (hput_ne _ (by first | assumption | exact Ne.symm (by assumption))).trans ((hput_ne _ (by first | assumption | exact Ne.symm (by assumption))).trans (by assumption)) | exact (hput_ne _ (by first | assumption | exact Ne.symm (by assumption))).trans ((hput_ne _ (by first | assumption | exact Ne.symm (by assumption))).trans (hput_eq _ _ _))) rfl ?_
  refine j_lsub E dX0_area_17 ?_
  refine J.topl (x' := lZ (b.2.2.2 - b.2.1)) (lZ_sub _ _) ?_
  refine j_lmul E dX0_area_18 ?_
  refine J.topl (x' := lZ ((b.2.2.1 - b.1) * (b.2.2.2 - b.2.1))) (lZ_mul _ _) ?_
  rw [← hQ]
  exact j_lret E dX0_area_19 rfl (by omega) (by omega) ⟨rfl, rfl⟩
theorem iw_X0_isWithin_X0 : ∀ w ∈ u_ws RX0 TX0 4, w ∈ wsX0_isWithin := by decide +kernel
theorem c_isWithin (v : Nat) {a : Nat} (b : BB) (ha : h a = some (bxO b)) (x : Int64) {w : Int} (hw : w = 0 ∨ w = 1) : CM l B E0 D yX0_isWithin wsX0_isWithin (v + 1) 0 0 [.ref a, .long x, .int (iZ w)] h (fun r h1 => r = some (.int (bI (if w = 1 then lZ b.1 < x ∧ x < lZ b.2.2.1 else lZ b.2.1 < x ∧ x < lZ b.2.2.2))) ∧ h1 = h) := by
  refine CM.of (cc := cX0_isWithin) (maxL := 4) (ret := (some .boolean)) (by decide) rfl (Nat.le_of_ble_eq_true rfl) (fun X E hin => ?_)
  show J X B D 4 _ h 0 0 0 [(0, .ref a), (1, .long x), (3, .int (iZ w))] []
  generalize hQ : jQ X B D _ _ _ = Q
  refine j_iload_n E dX0_isWithin_0 rfl ?_
  refine j_if_eq E (tgt := 30) dX0_isWithin_1 (by decide) (fun c1 => ?_) (fun c1 => ?_)
  · have hw0 : w = 0 := hw.resolve_right (fun z => by rw [z] at c1; exact absurd c1 (by decide))
    subst hw0
    rw [if_neg (by decide)] at hQ
    refine j_aload_n E dX0_isWithin_30 rfl ?_
    refine j_getfield (ref := "ColourParts$Box") (C := RX0) (T := TX0) (N := 4) (ci := 1) E 1 dX0_isWithin_31 iw_X0_isWithin_X0 rfl (by decide) (by decide +kernel) rfl (by first | with_reducible assumption | exact hput_eq _ _ _ | exact (hput_ne _ (by first | assumption | exact Ne.symm (by assumption))).trans (by assumption) | exact (hput_ne _ (by first | assumption | exact Ne.symm (by assumption))).trans (hput_eq _ _ _) | exact (hput_ne _ (by first | assumption | exact Ne.symm (by assumption))).trans ((hput_ne _ (by first | assumption | exact Ne.symm (by assumption))).trans (by assumption)) | exact (hput_ne _ (by first | assumption | exact Ne.symm (by assumption))).trans ((hput_ne _ (by first | assumption | exact Ne.symm (by assumption))).trans (hput_eq _ _ _))) rfl ?_
    refine j_lload_n E dX0_isWithin_34 rfl ?_
    refine j_lcmp E dX0_isWithin_35 ?_
    refine j_if_ge E (tgt := 52) dX0_isWithin_36 (by decide) (fun c2 => ?_) (fun c2 => ?_)
    ·
      refine j_iconst (x := nI 0) E dX0_isWithin_52 (by decide) ?_
      refine J.topi (x' := bI (lZ b.2.1 < x ∧ x < lZ b.2.2.2)) ((bI_f (fun z => Int64.not_lt.mpr (cmp_ge.mp c2) z.1)).symm) ?_
      rw [← hQ]
      exact j_iret E dX0_isWithin_53 rfl (nb_bI _) (by omega) (by omega) ⟨rfl, rfl⟩
    ·
      refine j_lload_n E dX0_isWithin_39 rfl ?_
      refine j_aload_n E dX0_isWithin_40 rfl ?_
      refine j_getfield (ref := "ColourParts$Box") (C := RX0) (T := TX0) (N := 4) (ci := 1) E 3 dX0_isWithin_41 iw_X0_isWithin_X0 rfl (by decide) (by decide +kernel) rfl (by first | with_reducible assumption | exact hput_eq _ _ _ | exact (hput_ne _ (by first | assumption | exact Ne.symm (by assumption))).trans (by assumption) | exact (hput_ne _ (by first | assumption | exact Ne.symm (by assumption))).trans (hput_eq _ _ _) | exact (hput_ne _ (by first | assumption | exact Ne.symm (by assumption))).trans ((hput_ne _ (by first | assumption | exact Ne.symm (by assumption))).trans (by assumption)) | exact (hput_ne _ (by first | assumption | exact Ne.symm (by assumption))).trans ((hput_ne _ (by first | assumption | exact Ne.symm (by assumption))).trans (hput_eq _ _ _))) rfl ?_
      refine j_lcmp E dX0_isWithin_44 ?_
      refine j_if_ge E (tgt := 52) dX0_isWithin_45 (by decide) (fun c3 => ?_) (fun c3 => ?_)
      ·
        refine j_iconst (x := nI 0) E dX0_isWithin_52 (by decide) ?_
        refine J.topi (x' := bI (lZ b.2.1 < x ∧ x < lZ b.2.2.2)) ((bI_f (fun z => Int64.not_lt.mpr (cmp_ge.mp c3) z.2)).symm) ?_
        rw [← hQ]
        exact j_iret E dX0_isWithin_53 rfl (nb_bI _) (by omega) (by omega) ⟨rfl, rfl⟩
      ·
        refine j_iconst (x := nI 1) E dX0_isWithin_48 (by decide) ?_
        refine J.topi (x' := bI (lZ b.2.1 < x ∧ x < lZ b.2.2.2)) ((bI_t ⟨cmp_lt.mp (Int32.not_le.mp c2), cmp_lt.mp (Int32.not_le.mp c3)⟩).symm) ?_
        refine j_goto E (tgt := 53) dX0_isWithin_49 (by decide) ?_
        rw [← hQ]
        exact j_iret E dX0_isWithin_53 rfl (nb_bI _) (by omega) (by omega) ⟨rfl, rfl⟩
  · have hw1 : w = 1 := hw.resolve_left (fun z => by rw [z] at c1; exact absurd rfl c1)
    subst hw1
    rw [if_pos rfl] at hQ
    refine j_aload_n E dX0_isWithin_4 rfl ?_
    refine j_getfield (ref := "ColourParts$Box") (C := RX0) (T := TX0) (N := 4) (ci := 1) E 0 dX0_isWithin_5 iw_X0_isWithin_X0 rfl (by decide) (by decide +kernel) rfl (by first | with_reducible assumption | exact hput_eq _ _ _ | exact (hput_ne _ (by first | assumption | exact Ne.symm (by assumption))).trans (by assumption) | exact (hput_ne _ (by first | assumption | exact Ne.symm (by assumption))).trans (hput_eq _ _ _) | exact (hput_ne _ (by first | assumption | exact Ne.symm (by assumption))).trans ((hput_ne _ (by first | assumption | exact Ne.symm (by assumption))).trans (by assumption)) | exact (hput_ne _ (by first | assumption | exact Ne.symm (by assumption))).trans ((hput_ne _ (by first | assumption | exact Ne.symm (by assumption))).trans (hput_eq _ _ _))) rfl ?_
    refine j_lload_n E dX0_isWithin_8 rfl ?_
    refine j_lcmp E dX0_isWithin_9 ?_
    refine j_if_ge E (tgt := 26) dX0_isWithin_10 (by decide) (fun c2 => ?_) (fun c2 => ?_)
    ·
      refine j_iconst (x := nI 0) E dX0_isWithin_26 (by decide) ?_
      refine J.topi (x' := bI (lZ b.1 < x ∧ x < lZ b.2.2.1)) ((bI_f (fun z => Int64.not_lt.mpr (cmp_ge.mp c2) z.1)).symm) ?_
      refine j_goto E (tgt := 53) dX0_isWithin_27 (by decide) ?_
      rw [← hQ]
      exact j_iret E dX0_isWithin_53 rfl (nb_bI _) (by omega) (by omega) ⟨rfl, rfl⟩
    ·
      refine j_lload_n E dX0_isWithin_13 rfl ?_
      refine j_aload_n E dX0_isWithin_14 rfl ?_
      refine j_getfield (ref := "ColourParts$Box") (C := RX0) (T := TX0) (N := 4) (ci := 1) E 2 dX0_isWithin_15 iw_X0_isWithin_X0 rfl (by decide) (by decide +kernel) rfl (by first | with_reducible assumption | exact hput_eq _ _ _ | exact (hput_ne _ (by first | assumption | exact Ne.symm (by assumption))).trans (by assumption) | exact (hput_ne _ (by first | assumption | exact Ne.symm (by assumption))).trans (hput_eq _ _ _) | exact (hput_ne _ (by first | assumption | exact Ne.symm (by assumption))).trans ((hput_ne _ (by first | assumption | exact Ne.symm (by assumption))).trans (by assumption)) | exact (hput_ne _ (by first | assumption | exact Ne.symm (by assumption))).trans ((hput_ne _ (by first | assumption | exact Ne.symm (by assumption))).trans (hput_eq _ _ _))) rfl ?_
      refine j_lcmp E dX0_isWithin_18 ?_
      refine j_if_ge E (tgt := 26) dX0_isWithin_19 (by decide) (fun c3 => ?_) (fun c3 => ?_)
      ·
        refine j_iconst (x := nI 0) E dX0_isWithin_26 (by decide) ?_
        refine J.topi (x' := bI (lZ b.1 < x ∧ x < lZ b.2.2.1)) ((bI_f (fun z => Int64.not_lt.mpr (cmp_ge.mp c3) z.2)).symm) ?_
        refine j_goto E (tgt := 53) dX0_isWithin_27 (by decide) ?_
        rw [← hQ]
        exact j_iret E dX0_isWithin_53 rfl (nb_bI _) (by omega) (by omega) ⟨rfl, rfl⟩
      ·
        refine j_iconst (x := nI 1) E dX0_isWithin_22 (by decide) ?_
        refine J.topi (x' := bI (lZ b.1 < x ∧ x < lZ b.2.2.1)) ((bI_t ⟨cmp_lt.mp (Int32.not_le.mp c2), cmp_lt.mp (Int32.not_le.mp c3)⟩).symm) ?_
        refine j_goto E (tgt := 53) dX0_isWithin_23 (by decide) ?_
        rw [← hQ]
        exact j_iret E dX0_isWithin_53 rfl (nb_bI _) (by omega) (by omega) ⟨rfl, rfl⟩
theorem iw_X0_isNearBox_X0 : ∀ w ∈ u_ws RX0 TX0 4, w ∈ wsX0_isNearBox := by decide +kernel
theorem c_isNearBox (v : Nat) (hd : 1 ≤ d ∧ d ≤ 65536) {a a2 : Nat} {b c : BB} (ha : h a = some (bxO b)) (ha2 : h a2 = some (bxO c)) (wb : wB b) (wc : wB c) : CM l B E0 D yX0_isNearBox wsX0_isNearBox (v + 3) 0 0 [.ref a, .ref a2, .long (lZ (d * d))] h (fun r h1 => r = some (.int (bI (nrB d b c))) ∧ h1 = h) := by
  refine CM.of (cc := cX0_isNearBox) (maxL := 8) (ret := (some .boolean)) (by decide) rfl (Nat.le_of_ble_eq_true rfl) (fun X E hin => ?_)
  show J X B D 8 _ h 0 0 0 [(0, .ref a), (1, .ref a2), (2, .long (lZ (d * d)))] []
  generalize hQ : jQ X B D _ _ _ = Q
  refine j_aload_n E dX0_isNearBox_0 rfl ?_
  refine j_getfield (ref := "ColourParts$Box") (C := RX0) (T := TX0) (N := 4) (ci := 1) E 0 dX0_isNearBox_1 iw_X0_isNearBox_X0 rfl (by decide) (by decide +kernel) rfl (by first | with_reducible assumption | exact hput_eq _ _ _ | exact (hput_ne _ (by first | assumption | exact Ne.symm (by assumption))).trans (by assumption) | exact (hput_ne _ (by first | assumption | exact Ne.symm (by assumption))).trans (hput_eq _ _ _) | exact (hput_ne _ (by first | assumption | exact Ne.symm (by assumption))).trans ((hput_ne _ (by first | assumption | exact Ne.symm (by assumption))).trans (by assumption)) | exact (hput_ne _ (by first | assumption | exact Ne.symm (by assumption))).trans ((hput_ne _ (by first | assumption | exact Ne.symm (by assumption))).trans (hput_eq _ _ _))) rfl ?_
  refine j_aload_n E dX0_isNearBox_4 rfl ?_
  refine j_getfield (ref := "ColourParts$Box") (C := RX0) (T := TX0) (N := 4) (ci := 1) E 2 dX0_isNearBox_5 iw_X0_isNearBox_X0 rfl (by decide) (by decide +kernel) rfl (by first | with_reducible assumption | exact hput_eq _ _ _ | exact (hput_ne _ (by first | assumption | exact Ne.symm (by assumption))).trans (by assumption) | exact (hput_ne _ (by first | assumption | exact Ne.symm (by assumption))).trans (hput_eq _ _ _) | exact (hput_ne _ (by first | assumption | exact Ne.symm (by assumption))).trans ((hput_ne _ (by first | assumption | exact Ne.symm (by assumption))).trans (by assumption)) | exact (hput_ne _ (by first | assumption | exact Ne.symm (by assumption))).trans ((hput_ne _ (by first | assumption | exact Ne.symm (by assumption))).trans (hput_eq _ _ _))) rfl ?_
  refine j_aload_n E dX0_isNearBox_8 rfl ?_
  refine j_getfield (ref := "ColourParts$Box") (C := RX0) (T := TX0) (N := 4) (ci := 1) E 0 dX0_isNearBox_9 iw_X0_isNearBox_X0 rfl (by decide) (by decide +kernel) rfl (by first | with_reducible assumption | exact hput_eq _ _ _ | exact (hput_ne _ (by first | assumption | exact Ne.symm (by assumption))).trans (by assumption) | exact (hput_ne _ (by first | assumption | exact Ne.symm (by assumption))).trans (hput_eq _ _ _) | exact (hput_ne _ (by first | assumption | exact Ne.symm (by assumption))).trans ((hput_ne _ (by first | assumption | exact Ne.symm (by assumption))).trans (by assumption)) | exact (hput_ne _ (by first | assumption | exact Ne.symm (by assumption))).trans ((hput_ne _ (by first | assumption | exact Ne.symm (by assumption))).trans (hput_eq _ _ _))) rfl ?_
  refine j_aload_n E dX0_isNearBox_12 rfl ?_
  refine j_getfield (ref := "ColourParts$Box") (C := RX0) (T := TX0) (N := 4) (ci := 1) E 2 dX0_isNearBox_13 iw_X0_isNearBox_X0 rfl (by decide) (by decide +kernel) rfl (by first | with_reducible assumption | exact hput_eq _ _ _ | exact (hput_ne _ (by first | assumption | exact Ne.symm (by assumption))).trans (by assumption) | exact (hput_ne _ (by first | assumption | exact Ne.symm (by assumption))).trans (hput_eq _ _ _) | exact (hput_ne _ (by first | assumption | exact Ne.symm (by assumption))).trans ((hput_ne _ (by first | assumption | exact Ne.symm (by assumption))).trans (by assumption)) | exact (hput_ne _ (by first | assumption | exact Ne.symm (by assumption))).trans ((hput_ne _ (by first | assumption | exact Ne.symm (by assumption))).trans (hput_eq _ _ _))) rfl ?_
  refine j_callS (np := 4) E (c_gap v wb.1 wc.1) gX0_isNearBox_X0_gap rfl ⟨by decide, by decide, by decide +kernel⟩ dX0_isNearBox_16 (by omega) (by decide) rfl rfl (Nat.le_of_ble_eq_true rfl) (by omega) (by omega) (fun r9 h9 p9 => J.pure p9 ?_)
  refine J.wide (k' := 0) (n' := 0) (by omega) (by omega) ?_
  refine j_lstore E dX0_isNearBox_19 (by decide) ?_
  refine j_aload_n E dX0_isNearBox_21 rfl ?_
  refine j_getfield (ref := "ColourParts$Box") (C := RX0) (T := TX0) (N := 4) (ci := 1) E 1 dX0_isNearBox_22 iw_X0_isNearBox_X0 rfl (by decide) (by decide +kernel) rfl (by first | with_reducible assumption | exact hput_eq _ _ _ | exact (hput_ne _ (by first | assumption | exact Ne.symm (by assumption))).trans (by assumption) | exact (hput_ne _ (by first | assumption | exact Ne.symm (by assumption))).trans (hput_eq _ _ _) | exact (hput_ne _ (by first | assumption | exact Ne.symm (by assumption))).trans ((hput_ne _ (by first | assumption | exact Ne.symm (by assumption))).trans (by assumption)) | exact (hput_ne _ (by first | assumption | exact Ne.symm (by assumption))).trans ((hput_ne _ (by first | assumption | exact Ne.symm (by assumption))).trans (hput_eq _ _ _))) rfl ?_
  refine j_aload_n E dX0_isNearBox_25 rfl ?_
  refine j_getfield (ref := "ColourParts$Box") (C := RX0) (T := TX0) (N := 4) (ci := 1) E 3 dX0_isNearBox_26 iw_X0_isNearBox_X0 rfl (by decide) (by decide +kernel) rfl (by first | with_reducible assumption | exact hput_eq _ _ _ | exact (hput_ne _ (by first | assumption | exact Ne.symm (by assumption))).trans (by assumption) | exact (hput_ne _ (by first | assumption | exact Ne.symm (by assumption))).trans (hput_eq _ _ _) | exact (hput_ne _ (by first | assumption | exact Ne.symm (by assumption))).trans ((hput_ne _ (by first | assumption | exact Ne.symm (by assumption))).trans (by assumption)) | exact (hput_ne _ (by first | assumption | exact Ne.symm (by assumption))).trans ((hput_ne _ (by first | assumption | exact Ne.symm (by assumption))).trans (hput_eq _ _ _))) rfl ?_
  refine j_aload_n E dX0_isNearBox_29 rfl ?_
  refine j_getfield (ref := "ColourParts$Box") (C := RX0) (T := TX0) (N := 4) (ci := 1) E 1 dX0_isNearBox_30 iw_X0_isNearBox_X0 rfl (by decide) (by decide +kernel) rfl (by first | with_reducible assumption | exact hput_eq _ _ _ | exact (hput_ne _ (by first | assumption | exact Ne.symm (by assumption))).trans (by assumption) | exact (hput_ne _ (by first | assumption | exact Ne.symm (by assumption))).trans (hput_eq _ _ _) | exact (hput_ne _ (by first | assumption | exact Ne.symm (by assumption))).trans ((hput_ne _ (by first | assumption | exact Ne.symm (by assumption))).trans (by assumption)) | exact (hput_ne _ (by first | assumption | exact Ne.symm (by assumption))).trans ((hput_ne _ (by first | assumption | exact Ne.symm (by assumption))).trans (hput_eq _ _ _))) rfl ?_
  refine j_aload_n E dX0_isNearBox_33 rfl ?_
  refine j_getfield (ref := "ColourParts$Box") (C := RX0) (T := TX0) (N := 4) (ci := 1) E 3 dX0_isNearBox_34 iw_X0_isNearBox_X0 rfl (by decide) (by decide +kernel) rfl (by first | with_reducible assumption | exact hput_eq _ _ _ | exact (hput_ne _ (by first | assumption | exact Ne.symm (by assumption))).trans (by assumption) | exact (hput_ne _ (by first | assumption | exact Ne.symm (by assumption))).trans (hput_eq _ _ _) | exact (hput_ne _ (by first | assumption | exact Ne.symm (by assumption))).trans ((hput_ne _ (by first | assumption | exact Ne.symm (by assumption))).trans (by assumption)) | exact (hput_ne _ (by first | assumption | exact Ne.symm (by assumption))).trans ((hput_ne _ (by first | assumption | exact Ne.symm (by assumption))).trans (hput_eq _ _ _))) rfl ?_
  refine j_callS (np := 4) E (c_gap v wb.2 wc.2) gX0_isNearBox_X0_gap rfl ⟨by decide, by decide, by decide +kernel⟩ dX0_isNearBox_37 (by omega) (by decide) rfl rfl (Nat.le_of_ble_eq_true rfl) (by omega) (by omega) (fun r9 h9 p9 => J.pure p9 ?_)
  refine J.wide (k' := 0) (n' := 0) (by omega) (by omega) ?_
  have g1 := gap_bndW wb.1 wc.1
  have g2 := gap_bndW wb.2 wc.2
  unfold nrB nearB at hQ
  generalize gap b.1 b.2.2.1 c.1 c.2.2.1 = x at *
  generalize gap b.2.1 b.2.2.2 c.2.1 c.2.2.2 = y at *
  have s1 := sq_bnd g1.1 (show x ≤ 4000000 by omega)
  have s2 := sq_bnd g2.1 (show y ≤ 4000000 by omega)
  have s3 := sq_bnd (z := d) (by omega) (by omega)
  have o1 : lOK (x * x + y * y) := by unfold lOK; omega
  have o2 : lOK (d * d) := by unfold lOK; omega
  refine j_lstore E dX0_isNearBox_40 (by decide) ?_
  refine j_lload E dX0_isNearBox_42 rfl ?_
  refine j_lload E dX0_isNearBox_44 rfl ?_
  refine j_lmul E dX0_isNearBox_46 ?_
  refine J.topl (x' := lZ (x * x)) (lZ_mul _ _) ?_
  refine j_lload E dX0_isNearBox_47 rfl ?_
  refine j_lload E dX0_isNearBox_49 rfl ?_
  refine j_lmul E dX0_isNearBox_51 ?_
  refine J.topl (x' := lZ (y * y)) (lZ_mul _ _) ?_
  refine j_ladd E dX0_isNearBox_52 ?_
  refine J.topl (x' := lZ (x * x + y * y)) (lZ_add _ _) ?_
  refine j_lload_n E dX0_isNearBox_53 rfl ?_
  refine j_lcmp E dX0_isNearBox_54 ?_
  refine j_if_ge E (tgt := 62) dX0_isNearBox_55 (by decide) (fun c1 => ?_) (fun c1 => ?_)
  ·
    refine j_iconst (x := nI 0) E dX0_isNearBox_62 (by decide) ?_
    refine J.topi (x' := bI (x * x + y * y < d * d)) ((bI_f (fun z => Int64.not_lt.mpr (cmp_ge.mp c1) ((lZ_lt o1 o2).mpr z))).symm) ?_
    rw [← hQ]
    exact j_iret E dX0_isNearBox_63 rfl (nb_bI _) (by omega) (by omega) ⟨rfl, rfl⟩
  ·
    refine j_iconst (x := nI 1) E dX0_isNearBox_58 (by decide) ?_
    refine J.topi (x' := bI (x * x + y * y < d * d)) ((bI_t ((lZ_lt o1 o2).mp (cmp_lt.mp (Int32.not_le.mp c1)))).symm) ?_
    refine j_goto E (tgt := 63) dX0_isNearBox_59 (by decide) ?_
    rw [← hQ]
    exact j_iret E dX0_isNearBox_63 rfl (nb_bI _) (by omega) (by omega) ⟨rfl, rfl⟩
theorem c_isNearAny (v : Nat) (hd : 1 ≤ d ∧ d ≤ 65536) {a q e : Nat} {els : List Nat} {b : BB} {bs : List BB} (ha : h a = some (bxO b)) (L : BLs E0 h q e els bs) (wb : wB b) (wc : ∀ i, i < bs.length → wB (gB bs i)) (h12 : bs.length < 12) : CM l B E0 D yX0_isNearAny wsX0_isNearAny (v + 4) 0 0 [.ref a, .ref q, .long (lZ (d * d))] h (fun r h1 => r = some (.int (bI (anyB d b bs))) ∧ h1 = h) := by
  obtain ⟨L1, L2, L3⟩ := L
  have hq : ∃ z, h q = some (hO 0 z) := by
    obtain ⟨m, cap, f, g1, -⟩ := L1
    exact ⟨_, g1⟩
  obtain ⟨zq, hq⟩ := hq
  refine CM.of (cc := cX0_isNearAny) (maxL := 5) (ret := (some .boolean)) (by decide) rfl (Nat.le_of_ble_eq_true rfl) (fun X E hin => ?_)
  show J X B D 5 _ h 0 0 0 [(0, .ref a), (1, .ref q), (2, .long (lZ (d * d)))] []
  generalize hQ : jQ X B D _ _ _ = Q
  refine j_iconst (x := nI 0) E dX0_isNearAny_0 (by decide) ?_
  refine j_istore E dX0_isNearAny_1 (by decide) ?_
  have key : ∀ (t i : Nat), i + t = els.length → (∀ j, j < i → ¬ nrB d b (gB bs j)) → J X B D 5 Q h 0 0 3 [(4, .int (nI i)), (0, .ref a), (1, .ref q), (2, .long (lZ (d * d)))] [] := by
    intro t
    induction t with
    | zero =>
      intro i hi hno
      refine j_iload E dX0_isNearAny_3 rfl ?_
      refine j_aload_n E dX0_isNearAny_5 rfl ?_
      refine j_callV (np := 0) (C := RJx4a65c) (T := TJx4a65c) (N := 3) (ci := 0) E (c_size (v + 2) L1) gX0_isNearAny_Jx4a65c_size_8abf5 rfl ⟨rfl, by decide, by decide, by decide +kernel⟩ dX0_isNearAny_6 (by omega) (by decide) rfl hq rfl rfl (Nat.le_of_ble_eq_true rfl) (by omega) (by omega) (fun r9 h9 p9 => J.pure p9 ?_)
      refine J.wide (k' := 0) (n' := 0) (by omega) (by omega) ?_
      refine j_icmp_ge E (tgt := 37) dX0_isNearAny_9 (by decide) (fun c1 => ?_) (fun c1 => ?_)
      ·
        refine j_iconst (x := nI 0) E dX0_isNearAny_37 (by decide) ?_
        refine J.topi (x' := bI (anyB d b bs)) ((bI_f (fun z => z.elim (fun j hj => hno j (by omega) hj.2))).symm) ?_
        rw [← hQ]
        exact j_iret E dX0_isNearAny_38 rfl (nb_bI _) (by omega) (by omega) ⟨rfl, rfl⟩
      · exact absurd (nI_le (show els.length ≤ i by omega) (by omega)) c1
    | succ t ih =>
      intro i hi hno
      have hil : i < els.length := by omega
      refine j_iload E dX0_isNearAny_3 rfl ?_
      refine j_aload_n E dX0_isNearAny_5 rfl ?_
      refine j_callV (np := 0) (C := RJx4a65c) (T := TJx4a65c) (N := 3) (ci := 0) E (c_size (v + 2) L1) gX0_isNearAny_Jx4a65c_size_8abf5 rfl ⟨rfl, by decide, by decide, by decide +kernel⟩ dX0_isNearAny_6 (by omega) (by decide) rfl hq rfl rfl (Nat.le_of_ble_eq_true rfl) (by omega) (by omega) (fun r9 h9 p9 => J.pure p9 ?_)
      refine J.wide (k' := 0) (n' := 0) (by omega) (by omega) ?_
      refine j_icmp_ge E (tgt := 37) dX0_isNearAny_9 (by decide) (fun c1 => ?_) (fun c1 => ?_)
      · exact absurd c1 (nI_ge hil (by omega))
      ·
        refine j_aload_n E dX0_isNearAny_12 rfl ?_
        refine j_aload_n E dX0_isNearAny_13 rfl ?_
        refine j_iload E dX0_isNearAny_14 rfl ?_
        refine j_callV (np := 1) (C := RJx4a65c) (T := TJx4a65c) (N := 3) (ci := 0) E (c_get v L1 hil (by omega)) gX0_isNearAny_Jx4a65c_get_915e3 rfl ⟨rfl, by decide, by decide, by decide +kernel⟩ dX0_isNearAny_16 (by omega) (by decide) rfl hq rfl rfl (Nat.le_of_ble_eq_true rfl) (by omega) (by omega) (fun r9 h9 p9 => J.pure p9 ?_)
        refine J.wide (k' := 0) (n' := 0) (by omega) (by omega) ?_
        have hb := L3 i hil
        refine j_cast (C := RX0) (T := TX0) (N := 4) (ci := 1) E dX0_isNearAny_19 (by decide +kernel) rfl hb ?_
        refine j_lload_n E dX0_isNearAny_22 rfl ?_
        refine j_callV (np := 2) (C := RX0) (T := TX0) (N := 4) (ci := 1) E (c_isNearBox v hd ha hb wb (wc i (by omega))) gX0_isNearAny_X0_isNearBox rfl ⟨rfl, by decide, by decide, by decide +kernel⟩ dX0_isNearAny_23 (by omega) (by decide) rfl (by first | with_reducible assumption | exact hput_eq _ _ _ | exact (hput_ne _ (by first | assumption | exact Ne.symm (by assumption))).trans (by assumption) | exact (hput_ne _ (by first | assumption | exact Ne.symm (by assumption))).trans (hput_eq _ _ _) | exact (hput_ne _ (by first | assumption | exact Ne.symm (by assumption))).trans ((hput_ne _ (by first | assumption | exact Ne.symm (by assumption))).trans (by assumption)) | exact (hput_ne _ (by first | assumption | exact Ne.symm (by assumption))).trans ((hput_ne _ (by first | assumption | exact Ne.symm (by assumption))).trans (hput_eq _ _ _))) rfl rfl (Nat.le_of_ble_eq_true rfl) (by omega) (by omega) (fun r9 h9 p9 => J.pure p9 ?_)
        refine J.wide (k' := 0) (n' := 0) (by omega) (by omega) ?_
        refine j_if_eq E (tgt := 31) dX0_isNearAny_26 (by decide) (fun c2 => ?_) (fun c2 => ?_)
        ·
          refine j_iinc E dX0_isNearAny_31 rfl (nI_1 i) (by decide) ?_
          refine j_goto E (tgt := 3) dX0_isNearAny_34 (by decide) ?_
          refine J.sub [(4, .int (nI (i + 1))), (0, .ref a), (1, .ref q), (2, .long (lZ (d * d)))] ⟨rfl, rfl, rfl, rfl, trivial⟩ ?_
          refine ih (i + 1) (by omega) (fun j hj => ?_)
          by_cases e : j = i
          · rw [e]; exact bI_z.mp c2
          · exact hno j (by omega)
        ·
          refine j_iconst (x := nI 1) E dX0_isNearAny_29 (by decide) ?_
          refine J.topi (x' := bI (anyB d b bs)) ((bI_t ⟨i, by omega, bI_n.mp c2⟩).symm) ?_
          rw [← hQ]
          exact j_iret E dX0_isNearAny_30 rfl (nb_bI _) (by omega) (by omega) ⟨rfl, rfl⟩
  refine J.sub [(4, .int (nI 0)), (0, .ref a), (1, .ref q), (2, .long (lZ (d * d)))] ⟨rfl, rfl, rfl, rfl, trivial⟩ ?_
  exact key els.length 0 (by omega) (fun j hj => absurd hj (Nat.not_lt_zero _))
end C1
