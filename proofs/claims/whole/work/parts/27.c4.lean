/-! shapes: made, cut -/
def pxA (a : SH) (k b : Nat) : BB := (px0 a k b, py0 a k b, px1 a k b, py1 a k b)
def pbx (a : SH) (k : Nat) : List BB := (List.range (nb a)).map (pxA a k)
theorem pbx_len (a : SH) (k : Nat) : (pbx a k).length = nb a := by unfold pbx; rw [List.length_map, List.length_range]
theorem pbx_get {a : SH} {k b : Nat} (hb : b < nb a) : gB (pbx a k) b = pxA a k b := by
  unfold gB pbx
  rw [List.getD_eq_getElem?_getD, List.getElem?_map, List.getElem?_range hb]; rfl
theorem pbx_0 {a : SH} (h : nk a = 0) (k : Nat) : pbx a k = bxs a := by
  unfold pbx bxs nb
  rw [if_neg (by omega)]
  refine List.map_congr_left (fun i hi => ?_)
  unfold pxA bxA px0 py0 px1 py1
  rw [if_neg (by omega), if_neg (by omega), if_neg (by omega), if_neg (by omega)]
def onF (h h1 : HM) : Prop := ∀ z, h z ≠ none → h1 z = h z
theorem onF.rf {h : HM} : onF h h := fun _ _ => rfl
theorem onF.tr {h h1 h2 : HM} (a : onF h h1) (b : onF h1 h2) : onF h h2 := fun z hz => (b z (by rw [a z hz]; exact hz)).trans (a z hz)
theorem onF.at {h h1 : HM} (a : onF h h1) {z : Nat} {o : HO} (hz : h z = some o) : h1 z = some o := (a z (by rw [hz]; intro w; cases w)).trans hz
theorem onF.put {h : HM} {q : Nat} {o : HO} (hq : h q = none) : onF h (hput h q o) := fun z hz => hput_ne _ (fun e => hz (by rw [e]; exact hq))
theorem onF.no {h h1 : HM} (a : onF h h1) {z : Nat} (hz : h1 z = none) : h z = none := by
  cases e : h z with
  | none => rfl
  | some o => have := a.at e; rw [hz] at this; cases this
theorem BLs.on {E0 : Nat} {h h1 : HM} {a e : Nat} {els : List Nat} {bs : List BB} (L : BLs E0 h a e els bs) (o : onF h h1) : BLs E0 h1 a e els bs := by
  obtain ⟨⟨z, g1⟩, n, f, g2⟩ := L.1.ty
  exact ⟨L.1.keep ((o.at g1).trans g1.symm) ((o.at g2).trans g2.symm), L.2.1, fun i hi => o.at (L.2.2 i hi)⟩
theorem shR.on {E0 : Nat} {h h1 : HM} {a : SH} {nr : Int32} {g : SG} (R : shR E0 h a nr g) (o : onF h h1) : shR E0 h1 a nr g := by
  obtain ⟨⟨hx, hy, R1, R2⟩, L, f, R4, R5⟩ := R
  exact ⟨⟨hx, hy, o.at R1, R2⟩, L.on o, f, o.at R4, R5⟩
section C4
variable {l : Launch} {B E0 : Nat} {D : va_G} {h : HM} {d : Int}
theorem iw_X5_init_Jx4a65c : ∀ w ∈ u_ws RJx4a65c TJx4a65c 3, w ∈ wsX5_init := by decide +kernel
theorem iw_X5_init_X5 : ∀ w ∈ u_ws RX5 TX5 9, w ∈ wsX5_init := by decide +kernel
theorem c_shapeInit (v : Nat) {q : Nat} {f0 : Nat → Option Nat} (hE : h E0 = some (hQ 0 f0)) (hq : h q = some (hO 6 [.null, .null, .int 0, .int 0, .int 0, .int 0, .int 0, .long 0, .long 0])) : CM l B E0 D yX5_init wsX5_init (v + 4) 2 6 [.ref q] h (fun r h1 => r = none ∧ ∃ bl pl, h bl = none ∧ h pl = none ∧ bl ≠ pl ∧ shR E0 h1 dS 0 (q, bl, E0, pl, []) ∧ FR h h1 (fun z => z = q)) := by
  refine CM.of (cc := cX5_init) (maxL := 1) (ret := none) (by decide) rfl (Nat.le_of_ble_eq_true rfl) (fun X E hin => ?_)
  show J X B D 1 _ h 0 0 0 [(0, .ref q)] []
  generalize hQ : jQ X B D _ _ _ = Q
  refine j_aload_n E dX5_init_0 rfl ?_
  refine j_objInit E dX5_init_1 (by decide +kernel) (by decide +kernel) (by decide +kernel) (by omega) (Nat.le_of_ble_eq_true rfl) ?_
  refine j_aload_n E dX5_init_4 rfl ?_
  refine j_new (C := RJx4a65c) (T := TJx4a65c) (N := 3) (ci := 0) E [.int 0, .null, .int 0] dX5_init_5 iw_X5_init_Jx4a65c tyJx4a65c tyJx4a65c_ok (by decide +kernel) (by decide +kernel) (by decide +kernel) rfl (by decide) (by omega) (by omega) (fun bl nbl bbl => ?_)
  have n1 : q ≠ bl := hm_neN hq nbl
  have n3 : E0 ≠ bl := hm_neN hE nbl
  refine j_dup E dX5_init_8 rfl ?_
  refine j_callI (np := 0) E (c_alInit v (m := 0) (x := .null) (y := .int 0) (hput_eq _ _ _)) gX5_init_Jx4a65c_init_da8c8 rfl (by decide +kernel) (by decide +kernel) (by decide +kernel) rfl ⟨by decide, by decide, by decide +kernel⟩ dX5_init_9 (by omega) (by decide) rfl rfl (Nat.le_of_ble_eq_true rfl) (by omega) (by omega) (fun r h1 p => ?_)
  obtain ⟨rfl, rfl⟩ := p
  rw [hput_hput]
  refine J.wide (k' := 1) (n' := 3) (by omega) (by omega) ?_
  refine j_putfin (C := RX5) (T := TX5) (N := 9) (ci := 6) E 0 dX5_init_12 iw_X5_init_X5 tyX5 tyX5_ok nmX5 rfl (by decide) (by decide +kernel) rfl rfl hin rfl rfl rfl (by first | with_reducible assumption | exact hput_eq _ _ _ | exact (hput_ne _ (by first | assumption | exact Ne.symm (by assumption))).trans (by assumption) | exact (hput_ne _ (by first | assumption | exact Ne.symm (by assumption))).trans (hput_eq _ _ _) | exact (hput_ne _ (by first | assumption | exact Ne.symm (by assumption))).trans ((hput_ne _ (by first | assumption | exact Ne.symm (by assumption))).trans (by assumption)) | exact (hput_ne _ (by first | assumption | exact Ne.symm (by assumption))).trans ((hput_ne _ (by first | assumption | exact Ne.symm (by assumption))).trans (hput_eq _ _ _))) (Nat.le_of_ble_eq_true rfl) ?_
  refine j_aload_n E dX5_init_15 rfl ?_
  refine j_iconst (x := nI 3) E dX5_init_16 (by decide) ?_
  refine j_newJ E 3 dX5_init_17 (by decide +kernel) rfl (by omega) (by omega) (by omega) (fun pl npl bpl => ?_)
  have npl2 := hput_none npl
  have npl3 := hput_none npl2.1
  have n4 : q ≠ pl := fun e => npl2.2 e.symm
  refine j_putfin (C := RX5) (T := TX5) (N := 9) (ci := 6) E 1 dX5_init_19 iw_X5_init_X5 tyX5 tyX5_ok nmX5 rfl (by decide) (by decide +kernel) rfl rfl hin rfl rfl rfl (by first | with_reducible assumption | exact hput_eq _ _ _ | exact (hput_ne _ (by first | assumption | exact Ne.symm (by assumption))).trans (by assumption) | exact (hput_ne _ (by first | assumption | exact Ne.symm (by assumption))).trans (hput_eq _ _ _) | exact (hput_ne _ (by first | assumption | exact Ne.symm (by assumption))).trans ((hput_ne _ (by first | assumption | exact Ne.symm (by assumption))).trans (by assumption)) | exact (hput_ne _ (by first | assumption | exact Ne.symm (by assumption))).trans ((hput_ne _ (by first | assumption | exact Ne.symm (by assumption))).trans (hput_eq _ _ _))) (Nat.le_of_ble_eq_true rfl) ?_
  refine j_aload_n E dX5_init_22 rfl ?_
  refine j_iconst (x := nI 0) E dX5_init_23 (by decide) ?_
  refine j_putfield (ref := "ColourParts$Shape") (C := RX5) (T := TX5) (N := 9) (ci := 6) E 2 dX5_init_24 iw_X5_init_X5 tyX5 tyX5_ok nmX5 rfl (by decide) (by decide +kernel) rfl rfl rfl rfl (by first | with_reducible assumption | exact hput_eq _ _ _ | exact (hput_ne _ (by first | assumption | exact Ne.symm (by assumption))).trans (by assumption) | exact (hput_ne _ (by first | assumption | exact Ne.symm (by assumption))).trans (hput_eq _ _ _) | exact (hput_ne _ (by first | assumption | exact Ne.symm (by assumption))).trans ((hput_ne _ (by first | assumption | exact Ne.symm (by assumption))).trans (by assumption)) | exact (hput_ne _ (by first | assumption | exact Ne.symm (by assumption))).trans ((hput_ne _ (by first | assumption | exact Ne.symm (by assumption))).trans (hput_eq _ _ _))) (Nat.le_of_ble_eq_true rfl) ?_
  refine j_aload_n E dX5_init_27 rfl ?_
  refine j_iconst (x := nI 0) E dX5_init_28 (by decide) ?_
  refine j_putfield (ref := "ColourParts$Shape") (C := RX5) (T := TX5) (N := 9) (ci := 6) E 3 dX5_init_29 iw_X5_init_X5 tyX5 tyX5_ok nmX5 rfl (by decide) (by decide +kernel) rfl rfl rfl rfl (by first | with_reducible assumption | exact hput_eq _ _ _ | exact (hput_ne _ (by first | assumption | exact Ne.symm (by assumption))).trans (by assumption) | exact (hput_ne _ (by first | assumption | exact Ne.symm (by assumption))).trans (hput_eq _ _ _) | exact (hput_ne _ (by first | assumption | exact Ne.symm (by assumption))).trans ((hput_ne _ (by first | assumption | exact Ne.symm (by assumption))).trans (by assumption)) | exact (hput_ne _ (by first | assumption | exact Ne.symm (by assumption))).trans ((hput_ne _ (by first | assumption | exact Ne.symm (by assumption))).trans (hput_eq _ _ _))) (Nat.le_of_ble_eq_true rfl) ?_
  refine j_aload_n E dX5_init_32 rfl ?_
  refine j_iconst (x := (-1)) E dX5_init_33 (by decide) ?_
  refine j_putfield (ref := "ColourParts$Shape") (C := RX5) (T := TX5) (N := 9) (ci := 6) E 4 dX5_init_34 iw_X5_init_X5 tyX5 tyX5_ok nmX5 rfl (by decide) (by decide +kernel) rfl rfl rfl rfl (by first | with_reducible assumption | exact hput_eq _ _ _ | exact (hput_ne _ (by first | assumption | exact Ne.symm (by assumption))).trans (by assumption) | exact (hput_ne _ (by first | assumption | exact Ne.symm (by assumption))).trans (hput_eq _ _ _) | exact (hput_ne _ (by first | assumption | exact Ne.symm (by assumption))).trans ((hput_ne _ (by first | assumption | exact Ne.symm (by assumption))).trans (by assumption)) | exact (hput_ne _ (by first | assumption | exact Ne.symm (by assumption))).trans ((hput_ne _ (by first | assumption | exact Ne.symm (by assumption))).trans (hput_eq _ _ _))) (Nat.le_of_ble_eq_true rfl) ?_
  refine j_aload_n E dX5_init_37 rfl ?_
  refine j_iconst (x := nI 0) E dX5_init_38 (by decide) ?_
  refine j_putfield (ref := "ColourParts$Shape") (C := RX5) (T := TX5) (N := 9) (ci := 6) E 5 dX5_init_39 iw_X5_init_X5 tyX5 tyX5_ok nmX5 rfl (by decide) (by decide +kernel) rfl rfl rfl rfl (by first | with_reducible assumption | exact hput_eq _ _ _ | exact (hput_ne _ (by first | assumption | exact Ne.symm (by assumption))).trans (by assumption) | exact (hput_ne _ (by first | assumption | exact Ne.symm (by assumption))).trans (hput_eq _ _ _) | exact (hput_ne _ (by first | assumption | exact Ne.symm (by assumption))).trans ((hput_ne _ (by first | assumption | exact Ne.symm (by assumption))).trans (by assumption)) | exact (hput_ne _ (by first | assumption | exact Ne.symm (by assumption))).trans ((hput_ne _ (by first | assumption | exact Ne.symm (by assumption))).trans (hput_eq _ _ _))) (Nat.le_of_ble_eq_true rfl) ?_
  refine j_aload_n E dX5_init_42 rfl ?_
  refine j_iconst (x := nI 0) E dX5_init_43 (by decide) ?_
  refine j_putfield (ref := "ColourParts$Shape") (C := RX5) (T := TX5) (N := 9) (ci := 6) E 6 dX5_init_44 iw_X5_init_X5 tyX5 tyX5_ok nmX5 rfl (by decide) (by decide +kernel) rfl rfl rfl rfl (by first | with_reducible assumption | exact hput_eq _ _ _ | exact (hput_ne _ (by first | assumption | exact Ne.symm (by assumption))).trans (by assumption) | exact (hput_ne _ (by first | assumption | exact Ne.symm (by assumption))).trans (hput_eq _ _ _) | exact (hput_ne _ (by first | assumption | exact Ne.symm (by assumption))).trans ((hput_ne _ (by first | assumption | exact Ne.symm (by assumption))).trans (by assumption)) | exact (hput_ne _ (by first | assumption | exact Ne.symm (by assumption))).trans ((hput_ne _ (by first | assumption | exact Ne.symm (by assumption))).trans (hput_eq _ _ _))) (Nat.le_of_ble_eq_true rfl) ?_
  refine j_aload_n E dX5_init_47 rfl ?_
  refine j_lconst (x := lZ 0) E dX5_init_48 (by decide) ?_
  refine j_putfield (ref := "ColourParts$Shape") (C := RX5) (T := TX5) (N := 9) (ci := 6) E 7 dX5_init_49 iw_X5_init_X5 tyX5 tyX5_ok nmX5 rfl (by decide) (by decide +kernel) rfl rfl rfl rfl (by first | with_reducible assumption | exact hput_eq _ _ _ | exact (hput_ne _ (by first | assumption | exact Ne.symm (by assumption))).trans (by assumption) | exact (hput_ne _ (by first | assumption | exact Ne.symm (by assumption))).trans (hput_eq _ _ _) | exact (hput_ne _ (by first | assumption | exact Ne.symm (by assumption))).trans ((hput_ne _ (by first | assumption | exact Ne.symm (by assumption))).trans (by assumption)) | exact (hput_ne _ (by first | assumption | exact Ne.symm (by assumption))).trans ((hput_ne _ (by first | assumption | exact Ne.symm (by assumption))).trans (hput_eq _ _ _))) (Nat.le_of_ble_eq_true rfl) ?_
  refine j_aload_n E dX5_init_52 rfl ?_
  refine j_lconst (x := lZ 0) E dX5_init_53 (by decide) ?_
  refine j_putfield (ref := "ColourParts$Shape") (C := RX5) (T := TX5) (N := 9) (ci := 6) E 8 dX5_init_54 iw_X5_init_X5 tyX5 tyX5_ok nmX5 rfl (by decide) (by decide +kernel) rfl rfl rfl rfl (by first | with_reducible assumption | exact hput_eq _ _ _ | exact (hput_ne _ (by first | assumption | exact Ne.symm (by assumption))).trans (by assumption) | exact (hput_ne _ (by first | assumption | exact Ne.symm (by assumption))).trans (hput_eq _ _ _) | exact (hput_ne _ (by first | assumption | exact Ne.symm (by assumption))).trans ((hput_ne _ (by first | assumption | exact Ne.symm (by assumption))).trans (by assumption)) | exact (hput_ne _ (by first | assumption | exact Ne.symm (by assumption))).trans ((hput_ne _ (by first | assumption | exact Ne.symm (by assumption))).trans (hput_eq _ _ _))) (Nat.le_of_ble_eq_true rfl) ?_
  have n5 : bl ≠ pl := fun e => npl3.2 e.symm
  have n6 : E0 ≠ pl := hm_neN hE npl3.1
  have n7 : q ≠ E0 := hm_ne hq hE (by intro z; cases z)
  rw [← hQ]
  refine j_vret E dX5_init_57 rfl (by omega) (by omega) ⟨rfl, bl, pl, nbl, npl3.1, n5, ⟨⟨0, 0, ?_, fun z => absurd z (by decide)⟩, ⟨⟨0, 0, f0, ?_, ?_, Nat.le_refl _, Or.inl ⟨rfl, rfl⟩, fun i hi => absurd hi (Nat.not_lt_zero _)⟩, rfl, fun i hi => absurd hi (Nat.not_lt_zero _)⟩, fun _ => 0, ?_, fun k hk => absurd hk (Nat.not_lt_zero _)⟩, fun z z1 z2 => ?_⟩
  · simp only [hput_hput]
    rw [hput_eq]
    unfold shF
    rw [bI_f (show ¬ nc dS % 2 = 1 by decide)]
    rfl
  · simp only [hput_hput]
    rw [hput_ne _ n1.symm, hput_ne _ n5, hput_ne _ n1.symm, hput_eq]
    rfl
  · simp only [hput_hput]
    rw [hput_ne _ n7.symm, hput_ne _ n6, hput_ne _ n7.symm, hput_ne _ n3]
    exact hE
  · simp only [hput_hput]
    rw [hput_ne _ n4.symm, hput_eq]
  · simp only [hput_hput]
    rw [hput_ne _ z2, hput_ne _ (fun e => z1 (by rw [e]; exact npl3.1)), hput_ne _ z2, hput_ne _ (fun e => z1 (by rw [e]; exact nbl))]
theorem iw_X5_cutBox_X0 : ∀ w ∈ u_ws RX0 TX0 4, w ∈ wsX5_cutBox := by decide +kernel
theorem iw_X5_cutBox_X5 : ∀ w ∈ u_ws RX5 TX5 9, w ∈ wsX5_cutBox := by decide +kernel
theorem c_cutBox (v : Nat) {a : SH} {nr : Int32} {g : SG} (R : shR E0 h a nr g) (hw : wfS a) (hk0 : 0 < nk a) {k y : Nat} (hk : k ≤ nk a) (hy : h y = some (bxO (bxA a 0))) : CM l B E0 D yX5_cutBox wsX5_cutBox (v + 3) 1 4 [.ref g.1, .ref y, .int (nI k)] h (fun r h1 => ∃ q, r = some (.ref q) ∧ h q = none ∧ h1 = hput h q (bxO (pxA a k 0))) := by
  obtain ⟨⟨hx, hyy, R1, R2⟩, -, f, R4, R5⟩ := R
  have h3 := hw.2.1
  have hsd := hw.2.2.2.2.2.2.1
  unfold shF at R1
  refine CM.of (cc := cX5_cutBox) (maxL := 5) (ret := (some (.object "ColourParts$Box"))) (by decide) rfl (Nat.le_of_ble_eq_true rfl) (fun X E hin => ?_)
  show J X B D 5 _ h 0 0 0 [(0, .ref g.1), (1, .ref y), (2, .int (nI k))] []
  generalize hQ : jQ X B D _ _ _ = Q
  have part2 : J X B D 5 Q h 0 0 37 [(4, .int (bI (k < nk a))), (3, .int (bI (0 < k))), (0, .ref g.1), (1, .ref y), (2, .int (nI k))] [] := by
    rcases hsd with s0 | s1
    · have e1 : px0 a k 0 = bx0 a 0 := by unfold px0; rw [if_neg (by omega)]
      have e2 : px1 a k 0 = bx1 a 0 := by unfold px1; rw [if_neg (by omega)]
      have fin : ∀ z : Int, z = py1 a k 0 → ∀ (h1 : HM) (q : Nat), h q = none → h1 = hput h q (hO 1 [.long 0, .long 0, .long 0, .long 0]) → J X B D 5 Q h1 1 4 146 [(0, .ref g.1), (1, .ref y), (2, .int (nI k))] [.long (lZ z), .long (lZ (bx1 a 0)), .long (lZ (py0 a k 0)), .long (lZ (bx0 a 0)), .ref q, .ref q] := by
        intro z hz h1 q nq hh
        subst hh
        refine j_callI (np := 4) E (c_boxInit v (bx0 a 0, py0 a k 0, bx1 a 0, z) (hput_eq _ _ _)) gX5_cutBox_X0_init rfl (by decide +kernel) (by decide +kernel) (by decide +kernel) rfl ⟨by decide, by decide, by decide +kernel⟩ dX5_cutBox_146 (by omega) (by decide) rfl rfl (Nat.le_of_ble_eq_true rfl) (by omega) (by omega) (fun r h1 p => ?_)
        obtain ⟨rfl, rfl⟩ := p
        rw [hput_hput]
        refine J.wide (k' := 1) (n' := 4) (by omega) (by omega) ?_
        rw [← hQ]
        exact j_aret E dX5_cutBox_149 rfl (Or.inl ⟨_, rfl⟩) (by omega) (by omega) ⟨q, rfl, nq, by unfold pxA; rw [e1, e2, hz]⟩
      have mid : ∀ z : Int, z = py0 a k 0 → ∀ (h1 : HM) (q : Nat), h q = none → h1 = hput h q (hO 1 [.long 0, .long 0, .long 0, .long 0]) → J X B D 5 Q h1 1 4 124 [(4, .int (bI (k < nk a))), (0, .ref g.1), (1, .ref y), (2, .int (nI k))] [.long (lZ z), .long (lZ (bx0 a 0)), .ref q, .ref q] := by
        intro z hz h1 q nq hh
        have n1 : g.1 ≠ q := hm_neN R1 nq
        have n2 : y ≠ q := hm_neN hy nq
        have n3 : g.2.2.2.1 ≠ q := hm_neN R4 nq
        subst hh
        refine j_aload_n E dX5_cutBox_124 rfl ?_
        refine j_getfield (ref := "ColourParts$Box") (C := RX0) (T := TX0) (N := 4) (ci := 1) E 2 dX5_cutBox_125 iw_X5_cutBox_X0 rfl (by decide) (by decide +kernel) rfl (by first | with_reducible assumption | exact hput_eq _ _ _ | exact (hput_ne _ (by first | assumption | exact Ne.symm (by assumption))).trans (by assumption) | exact (hput_ne _ (by first | assumption | exact Ne.symm (by assumption))).trans (hput_eq _ _ _) | exact (hput_ne _ (by first | assumption | exact Ne.symm (by assumption))).trans ((hput_ne _ (by first | assumption | exact Ne.symm (by assumption))).trans (by assumption)) | exact (hput_ne _ (by first | assumption | exact Ne.symm (by assumption))).trans ((hput_ne _ (by first | assumption | exact Ne.symm (by assumption))).trans (hput_eq _ _ _))) rfl ?_
        refine J.topl (x' := lZ (bx1 a 0)) (rfl) ?_
        refine j_iload E dX5_cutBox_128 rfl ?_
        refine j_if_eq E (tgt := 142) dX5_cutBox_130 (by decide) (fun c1 => ?_) (fun c1 => ?_)
        · have nlt := bI_z.mp c1
          refine j_aload_n E dX5_cutBox_142 rfl ?_
          refine j_getfield (ref := "ColourParts$Box") (C := RX0) (T := TX0) (N := 4) (ci := 1) E 3 dX5_cutBox_143 iw_X5_cutBox_X0 rfl (by decide) (by decide +kernel) rfl (by first | with_reducible assumption | exact hput_eq _ _ _ | exact (hput_ne _ (by first | assumption | exact Ne.symm (by assumption))).trans (by assumption) | exact (hput_ne _ (by first | assumption | exact Ne.symm (by assumption))).trans (hput_eq _ _ _) | exact (hput_ne _ (by first | assumption | exact Ne.symm (by assumption))).trans ((hput_ne _ (by first | assumption | exact Ne.symm (by assumption))).trans (by assumption)) | exact (hput_ne _ (by first | assumption | exact Ne.symm (by assumption))).trans ((hput_ne _ (by first | assumption | exact Ne.symm (by assumption))).trans (hput_eq _ _ _))) rfl ?_
          refine J.topl (x' := lZ (by1 a 0)) (rfl) ?_
          refine J.sub [(0, .ref g.1), (1, .ref y), (2, .int (nI k))] ⟨rfl, rfl, rfl, trivial⟩ ?_
          rw [hz]
          exact fin (by1 a 0) (by unfold py1; rw [if_neg (by omega)]) _ q nq rfl
        · have lt := bI_n.mp c1
          refine j_aload_n E dX5_cutBox_133 rfl ?_
          refine j_getfield (ref := "ColourParts$Shape") (C := RX5) (T := TX5) (N := 9) (ci := 6) E 1 dX5_cutBox_134 iw_X5_cutBox_X5 rfl (by decide) (by decide +kernel) rfl (by first | with_reducible assumption | exact hput_eq _ _ _ | exact (hput_ne _ (by first | assumption | exact Ne.symm (by assumption))).trans (by assumption) | exact (hput_ne _ (by first | assumption | exact Ne.symm (by assumption))).trans (hput_eq _ _ _) | exact (hput_ne _ (by first | assumption | exact Ne.symm (by assumption))).trans ((hput_ne _ (by first | assumption | exact Ne.symm (by assumption))).trans (by assumption)) | exact (hput_ne _ (by first | assumption | exact Ne.symm (by assumption))).trans ((hput_ne _ (by first | assumption | exact Ne.symm (by assumption))).trans (hput_eq _ _ _))) rfl ?_
          refine j_iload_n E dX5_cutBox_137 rfl ?_
          refine j_laload E k dX5_cutBox_138 (by first | with_reducible assumption | exact hput_eq _ _ _ | exact (hput_ne _ (by first | assumption | exact Ne.symm (by assumption))).trans (by assumption) | exact (hput_ne _ (by first | assumption | exact Ne.symm (by assumption))).trans (hput_eq _ _ _) | exact (hput_ne _ (by first | assumption | exact Ne.symm (by assumption))).trans ((hput_ne _ (by first | assumption | exact Ne.symm (by assumption))).trans (by assumption)) | exact (hput_ne _ (by first | assumption | exact Ne.symm (by assumption))).trans ((hput_ne _ (by first | assumption | exact Ne.symm (by assumption))).trans (hput_eq _ _ _))) rfl (by omega) (by omega) ?_
          refine J.topl (x' := lZ (ct a k)) (R5 k lt) ?_
          refine j_goto E (tgt := 146) dX5_cutBox_139 (by decide) ?_
          refine J.sub [(0, .ref g.1), (1, .ref y), (2, .int (nI k))] ⟨rfl, rfl, rfl, trivial⟩ ?_
          rw [hz]
          exact fin (ct a k) (by unfold py1; rw [if_pos (by omega)]) _ q nq rfl
      refine j_aload_n E dX5_cutBox_37 rfl ?_
      refine j_getfield (ref := "ColourParts$Shape") (C := RX5) (T := TX5) (N := 9) (ci := 6) E 3 dX5_cutBox_38 iw_X5_cutBox_X5 rfl (by decide) (by decide +kernel) rfl (by first | with_reducible assumption | exact hput_eq _ _ _ | exact (hput_ne _ (by first | assumption | exact Ne.symm (by assumption))).trans (by assumption) | exact (hput_ne _ (by first | assumption | exact Ne.symm (by assumption))).trans (hput_eq _ _ _) | exact (hput_ne _ (by first | assumption | exact Ne.symm (by assumption))).trans ((hput_ne _ (by first | assumption | exact Ne.symm (by assumption))).trans (by assumption)) | exact (hput_ne _ (by first | assumption | exact Ne.symm (by assumption))).trans ((hput_ne _ (by first | assumption | exact Ne.symm (by assumption))).trans (hput_eq _ _ _))) rfl ?_
      refine j_if_eq E (tgt := 97) dX5_cutBox_41 (by decide) (fun c1 => ?_) (fun c1 => ?_)
      ·
        refine j_new (C := RX0) (T := TX0) (N := 4) (ci := 1) E [.long 0, .long 0, .long 0, .long 0] dX5_cutBox_97 iw_X5_cutBox_X0 tyX0 tyX0_ok (by decide +kernel) (by decide +kernel) (by decide +kernel) rfl (by decide) (by omega) (by omega) (fun q nq bq => ?_)
        refine j_dup E dX5_cutBox_100 rfl ?_
        have n1 : g.1 ≠ q := hm_neN R1 nq
        have n2 : y ≠ q := hm_neN hy nq
        have n3 : g.2.2.2.1 ≠ q := hm_neN R4 nq
        refine j_aload_n E dX5_cutBox_101 rfl ?_
        refine j_getfield (ref := "ColourParts$Box") (C := RX0) (T := TX0) (N := 4) (ci := 1) E 0 dX5_cutBox_102 iw_X5_cutBox_X0 rfl (by decide) (by decide +kernel) rfl (by first | with_reducible assumption | exact hput_eq _ _ _ | exact (hput_ne _ (by first | assumption | exact Ne.symm (by assumption))).trans (by assumption) | exact (hput_ne _ (by first | assumption | exact Ne.symm (by assumption))).trans (hput_eq _ _ _) | exact (hput_ne _ (by first | assumption | exact Ne.symm (by assumption))).trans ((hput_ne _ (by first | assumption | exact Ne.symm (by assumption))).trans (by assumption)) | exact (hput_ne _ (by first | assumption | exact Ne.symm (by assumption))).trans ((hput_ne _ (by first | assumption | exact Ne.symm (by assumption))).trans (hput_eq _ _ _))) rfl ?_
        refine J.topl (x' := lZ (bx0 a 0)) (rfl) ?_
        refine j_iload_n E dX5_cutBox_105 rfl ?_
        refine j_if_eq E (tgt := 120) dX5_cutBox_106 (by decide) (fun c2 => ?_) (fun c2 => ?_)
        · have z0 := bI_z.mp c2
          refine j_aload_n E dX5_cutBox_120 rfl ?_
          refine j_getfield (ref := "ColourParts$Box") (C := RX0) (T := TX0) (N := 4) (ci := 1) E 1 dX5_cutBox_121 iw_X5_cutBox_X0 rfl (by decide) (by decide +kernel) rfl (by first | with_reducible assumption | exact hput_eq _ _ _ | exact (hput_ne _ (by first | assumption | exact Ne.symm (by assumption))).trans (by assumption) | exact (hput_ne _ (by first | assumption | exact Ne.symm (by assumption))).trans (hput_eq _ _ _) | exact (hput_ne _ (by first | assumption | exact Ne.symm (by assumption))).trans ((hput_ne _ (by first | assumption | exact Ne.symm (by assumption))).trans (by assumption)) | exact (hput_ne _ (by first | assumption | exact Ne.symm (by assumption))).trans ((hput_ne _ (by first | assumption | exact Ne.symm (by assumption))).trans (hput_eq _ _ _))) rfl ?_
          refine J.topl (x' := lZ (by0 a 0)) (rfl) ?_
          refine J.sub [(4, .int (bI (k < nk a))), (0, .ref g.1), (1, .ref y), (2, .int (nI k))] ⟨rfl, rfl, rfl, rfl, trivial⟩ ?_
          exact mid (by0 a 0) (by unfold py0; rw [if_neg (by omega)]) _ q nq rfl
        · have z0 := bI_n.mp c2
          obtain ⟨k, rfl⟩ : ∃ k1, k = k1 + 1 := ⟨k - 1, by omega⟩
          refine j_aload_n E dX5_cutBox_109 rfl ?_
          refine j_getfield (ref := "ColourParts$Shape") (C := RX5) (T := TX5) (N := 9) (ci := 6) E 1 dX5_cutBox_110 iw_X5_cutBox_X5 rfl (by decide) (by decide +kernel) rfl (by first | with_reducible assumption | exact hput_eq _ _ _ | exact (hput_ne _ (by first | assumption | exact Ne.symm (by assumption))).trans (by assumption) | exact (hput_ne _ (by first | assumption | exact Ne.symm (by assumption))).trans (hput_eq _ _ _) | exact (hput_ne _ (by first | assumption | exact Ne.symm (by assumption))).trans ((hput_ne _ (by first | assumption | exact Ne.symm (by assumption))).trans (by assumption)) | exact (hput_ne _ (by first | assumption | exact Ne.symm (by assumption))).trans ((hput_ne _ (by first | assumption | exact Ne.symm (by assumption))).trans (hput_eq _ _ _))) rfl ?_
          refine j_iload_n E dX5_cutBox_113 rfl ?_
          refine j_iconst (x := nI 1) E dX5_cutBox_114 (by decide) ?_
          refine j_isub E dX5_cutBox_115 ?_
          refine J.topi (x' := nI k) (nI_pred k) ?_
          refine j_laload E k dX5_cutBox_116 (by first | with_reducible assumption | exact hput_eq _ _ _ | exact (hput_ne _ (by first | assumption | exact Ne.symm (by assumption))).trans (by assumption) | exact (hput_ne _ (by first | assumption | exact Ne.symm (by assumption))).trans (hput_eq _ _ _) | exact (hput_ne _ (by first | assumption | exact Ne.symm (by assumption))).trans ((hput_ne _ (by first | assumption | exact Ne.symm (by assumption))).trans (by assumption)) | exact (hput_ne _ (by first | assumption | exact Ne.symm (by assumption))).trans ((hput_ne _ (by first | assumption | exact Ne.symm (by assumption))).trans (hput_eq _ _ _))) rfl (by omega) (by omega) ?_
          refine J.topl (x' := lZ (ct a k)) (R5 k (by omega)) ?_
          refine j_goto E (tgt := 124) dX5_cutBox_117 (by decide) ?_
          refine J.sub [(4, .int (bI (k + 1 < nk a))), (0, .ref g.1), (1, .ref y), (2, .int (nI (k + 1)))] ⟨rfl, rfl, rfl, rfl, trivial⟩ ?_
          exact mid (ct a k) (by unfold py0; rw [if_pos (by omega)]; rfl) _ q nq rfl
      · exact absurd (by rw [s0]; rfl) c1
    · have e1 : py0 a k 0 = by0 a 0 := by unfold py0; rw [if_neg (by omega)]
      have e2 : py1 a k 0 = by1 a 0 := by unfold py1; rw [if_neg (by omega)]
      have fin : ∀ z : Int, z = px1 a k 0 → ∀ (h1 : HM) (q : Nat), h q = none → h1 = hput h q (hO 1 [.long 0, .long 0, .long 0, .long 0]) → J X B D 5 Q h1 1 4 89 [(0, .ref g.1), (1, .ref y), (2, .int (nI k))] [.long (lZ z), .long (lZ (by0 a 0)), .long (lZ (px0 a k 0)), .ref q, .ref q] := by
        intro z hz h1 q nq hh
        have n2 : y ≠ q := hm_neN hy nq
        subst hh
        refine j_aload_n E dX5_cutBox_89 rfl ?_
        refine j_getfield (ref := "ColourParts$Box") (C := RX0) (T := TX0) (N := 4) (ci := 1) E 3 dX5_cutBox_90 iw_X5_cutBox_X0 rfl (by decide) (by decide +kernel) rfl (by first | with_reducible assumption | exact hput_eq _ _ _ | exact (hput_ne _ (by first | assumption | exact Ne.symm (by assumption))).trans (by assumption) | exact (hput_ne _ (by first | assumption | exact Ne.symm (by assumption))).trans (hput_eq _ _ _) | exact (hput_ne _ (by first | assumption | exact Ne.symm (by assumption))).trans ((hput_ne _ (by first | assumption | exact Ne.symm (by assumption))).trans (by assumption)) | exact (hput_ne _ (by first | assumption | exact Ne.symm (by assumption))).trans ((hput_ne _ (by first | assumption | exact Ne.symm (by assumption))).trans (hput_eq _ _ _))) rfl ?_
        refine J.topl (x' := lZ (by1 a 0)) (rfl) ?_
        refine j_callI (np := 4) E (c_boxInit v (px0 a k 0, by0 a 0, z, by1 a 0) (hput_eq _ _ _)) gX5_cutBox_X0_init rfl (by decide +kernel) (by decide +kernel) (by decide +kernel) rfl ⟨by decide, by decide, by decide +kernel⟩ dX5_cutBox_93 (by omega) (by decide) rfl rfl (Nat.le_of_ble_eq_true rfl) (by omega) (by omega) (fun r h1 p => ?_)
        obtain ⟨rfl, rfl⟩ := p
        rw [hput_hput]
        refine J.wide (k' := 1) (n' := 4) (by omega) (by omega) ?_
        rw [← hQ]
        exact j_aret E dX5_cutBox_96 rfl (Or.inl ⟨_, rfl⟩) (by omega) (by omega) ⟨q, rfl, nq, by unfold pxA; rw [e1, e2, hz]⟩
      have mid : ∀ z : Int, z = px0 a k 0 → ∀ (h1 : HM) (q : Nat), h q = none → h1 = hput h q (hO 1 [.long 0, .long 0, .long 0, .long 0]) → J X B D 5 Q h1 1 4 67 [(4, .int (bI (k < nk a))), (0, .ref g.1), (1, .ref y), (2, .int (nI k))] [.long (lZ z), .ref q, .ref q] := by
        intro z hz h1 q nq hh
        have n1 : g.1 ≠ q := hm_neN R1 nq
        have n2 : y ≠ q := hm_neN hy nq
        have n3 : g.2.2.2.1 ≠ q := hm_neN R4 nq
        subst hh
        refine j_aload_n E dX5_cutBox_67 rfl ?_
        refine j_getfield (ref := "ColourParts$Box") (C := RX0) (T := TX0) (N := 4) (ci := 1) E 1 dX5_cutBox_68 iw_X5_cutBox_X0 rfl (by decide) (by decide +kernel) rfl (by first | with_reducible assumption | exact hput_eq _ _ _ | exact (hput_ne _ (by first | assumption | exact Ne.symm (by assumption))).trans (by assumption) | exact (hput_ne _ (by first | assumption | exact Ne.symm (by assumption))).trans (hput_eq _ _ _) | exact (hput_ne _ (by first | assumption | exact Ne.symm (by assumption))).trans ((hput_ne _ (by first | assumption | exact Ne.symm (by assumption))).trans (by assumption)) | exact (hput_ne _ (by first | assumption | exact Ne.symm (by assumption))).trans ((hput_ne _ (by first | assumption | exact Ne.symm (by assumption))).trans (hput_eq _ _ _))) rfl ?_
        refine J.topl (x' := lZ (by0 a 0)) (rfl) ?_
        refine j_iload E dX5_cutBox_71 rfl ?_
        refine j_if_eq E (tgt := 85) dX5_cutBox_73 (by decide) (fun c1 => ?_) (fun c1 => ?_)
        · have nlt := bI_z.mp c1
          refine j_aload_n E dX5_cutBox_85 rfl ?_
          refine j_getfield (ref := "ColourParts$Box") (C := RX0) (T := TX0) (N := 4) (ci := 1) E 2 dX5_cutBox_86 iw_X5_cutBox_X0 rfl (by decide) (by decide +kernel) rfl (by first | with_reducible assumption | exact hput_eq _ _ _ | exact (hput_ne _ (by first | assumption | exact Ne.symm (by assumption))).trans (by assumption) | exact (hput_ne _ (by first | assumption | exact Ne.symm (by assumption))).trans (hput_eq _ _ _) | exact (hput_ne _ (by first | assumption | exact Ne.symm (by assumption))).trans ((hput_ne _ (by first | assumption | exact Ne.symm (by assumption))).trans (by assumption)) | exact (hput_ne _ (by first | assumption | exact Ne.symm (by assumption))).trans ((hput_ne _ (by first | assumption | exact Ne.symm (by assumption))).trans (hput_eq _ _ _))) rfl ?_
          refine J.topl (x' := lZ (bx1 a 0)) (rfl) ?_
          refine J.sub [(0, .ref g.1), (1, .ref y), (2, .int (nI k))] ⟨rfl, rfl, rfl, trivial⟩ ?_
          rw [hz]
          exact fin (bx1 a 0) (by unfold px1; rw [if_neg (by omega)]) _ q nq rfl
        · have lt := bI_n.mp c1
          refine j_aload_n E dX5_cutBox_76 rfl ?_
          refine j_getfield (ref := "ColourParts$Shape") (C := RX5) (T := TX5) (N := 9) (ci := 6) E 1 dX5_cutBox_77 iw_X5_cutBox_X5 rfl (by decide) (by decide +kernel) rfl (by first | with_reducible assumption | exact hput_eq _ _ _ | exact (hput_ne _ (by first | assumption | exact Ne.symm (by assumption))).trans (by assumption) | exact (hput_ne _ (by first | assumption | exact Ne.symm (by assumption))).trans (hput_eq _ _ _) | exact (hput_ne _ (by first | assumption | exact Ne.symm (by assumption))).trans ((hput_ne _ (by first | assumption | exact Ne.symm (by assumption))).trans (by assumption)) | exact (hput_ne _ (by first | assumption | exact Ne.symm (by assumption))).trans ((hput_ne _ (by first | assumption | exact Ne.symm (by assumption))).trans (hput_eq _ _ _))) rfl ?_
          refine j_iload_n E dX5_cutBox_80 rfl ?_
          refine j_laload E k dX5_cutBox_81 (by first | with_reducible assumption | exact hput_eq _ _ _ | exact (hput_ne _ (by first | assumption | exact Ne.symm (by assumption))).trans (by assumption) | exact (hput_ne _ (by first | assumption | exact Ne.symm (by assumption))).trans (hput_eq _ _ _) | exact (hput_ne _ (by first | assumption | exact Ne.symm (by assumption))).trans ((hput_ne _ (by first | assumption | exact Ne.symm (by assumption))).trans (by assumption)) | exact (hput_ne _ (by first | assumption | exact Ne.symm (by assumption))).trans ((hput_ne _ (by first | assumption | exact Ne.symm (by assumption))).trans (hput_eq _ _ _))) rfl (by omega) (by omega) ?_
          refine J.topl (x' := lZ (ct a k)) (R5 k lt) ?_
          refine j_goto E (tgt := 89) dX5_cutBox_82 (by decide) ?_
          refine J.sub [(0, .ref g.1), (1, .ref y), (2, .int (nI k))] ⟨rfl, rfl, rfl, trivial⟩ ?_
          rw [hz]
          exact fin (ct a k) (by unfold px1; rw [if_pos (by omega)]) _ q nq rfl
      refine j_aload_n E dX5_cutBox_37 rfl ?_
      refine j_getfield (ref := "ColourParts$Shape") (C := RX5) (T := TX5) (N := 9) (ci := 6) E 3 dX5_cutBox_38 iw_X5_cutBox_X5 rfl (by decide) (by decide +kernel) rfl (by first | with_reducible assumption | exact hput_eq _ _ _ | exact (hput_ne _ (by first | assumption | exact Ne.symm (by assumption))).trans (by assumption) | exact (hput_ne _ (by first | assumption | exact Ne.symm (by assumption))).trans (hput_eq _ _ _) | exact (hput_ne _ (by first | assumption | exact Ne.symm (by assumption))).trans ((hput_ne _ (by first | assumption | exact Ne.symm (by assumption))).trans (by assumption)) | exact (hput_ne _ (by first | assumption | exact Ne.symm (by assumption))).trans ((hput_ne _ (by first | assumption | exact Ne.symm (by assumption))).trans (hput_eq _ _ _))) rfl ?_
      refine j_if_eq E (tgt := 97) dX5_cutBox_41 (by decide) (fun c1 => ?_) (fun c1 => ?_)
      · exact absurd c1 (by rw [s1]; decide)
      ·
        refine j_new (C := RX0) (T := TX0) (N := 4) (ci := 1) E [.long 0, .long 0, .long 0, .long 0] dX5_cutBox_44 iw_X5_cutBox_X0 tyX0 tyX0_ok (by decide +kernel) (by decide +kernel) (by decide +kernel) rfl (by decide) (by omega) (by omega) (fun q nq bq => ?_)
        refine j_dup E dX5_cutBox_47 rfl ?_
        refine j_iload_n E dX5_cutBox_48 rfl ?_
        have n1 : g.1 ≠ q := hm_neN R1 nq
        have n2 : y ≠ q := hm_neN hy nq
        have n3 : g.2.2.2.1 ≠ q := hm_neN R4 nq
        refine j_if_eq E (tgt := 63) dX5_cutBox_49 (by decide) (fun c2 => ?_) (fun c2 => ?_)
        · have z0 := bI_z.mp c2
          refine j_aload_n E dX5_cutBox_63 rfl ?_
          refine j_getfield (ref := "ColourParts$Box") (C := RX0) (T := TX0) (N := 4) (ci := 1) E 0 dX5_cutBox_64 iw_X5_cutBox_X0 rfl (by decide) (by decide +kernel) rfl (by first | with_reducible assumption | exact hput_eq _ _ _ | exact (hput_ne _ (by first | assumption | exact Ne.symm (by assumption))).trans (by assumption) | exact (hput_ne _ (by first | assumption | exact Ne.symm (by assumption))).trans (hput_eq _ _ _) | exact (hput_ne _ (by first | assumption | exact Ne.symm (by assumption))).trans ((hput_ne _ (by first | assumption | exact Ne.symm (by assumption))).trans (by assumption)) | exact (hput_ne _ (by first | assumption | exact Ne.symm (by assumption))).trans ((hput_ne _ (by first | assumption | exact Ne.symm (by assumption))).trans (hput_eq _ _ _))) rfl ?_
          refine J.topl (x' := lZ (bx0 a 0)) (rfl) ?_
          refine J.sub [(4, .int (bI (k < nk a))), (0, .ref g.1), (1, .ref y), (2, .int (nI k))] ⟨rfl, rfl, rfl, rfl, trivial⟩ ?_
          exact mid (bx0 a 0) (by unfold px0; rw [if_neg (by omega)]) _ q nq rfl
        · have z0 := bI_n.mp c2
          obtain ⟨k, rfl⟩ : ∃ k1, k = k1 + 1 := ⟨k - 1, by omega⟩
          refine j_aload_n E dX5_cutBox_52 rfl ?_
          refine j_getfield (ref := "ColourParts$Shape") (C := RX5) (T := TX5) (N := 9) (ci := 6) E 1 dX5_cutBox_53 iw_X5_cutBox_X5 rfl (by decide) (by decide +kernel) rfl (by first | with_reducible assumption | exact hput_eq _ _ _ | exact (hput_ne _ (by first | assumption | exact Ne.symm (by assumption))).trans (by assumption) | exact (hput_ne _ (by first | assumption | exact Ne.symm (by assumption))).trans (hput_eq _ _ _) | exact (hput_ne _ (by first | assumption | exact Ne.symm (by assumption))).trans ((hput_ne _ (by first | assumption | exact Ne.symm (by assumption))).trans (by assumption)) | exact (hput_ne _ (by first | assumption | exact Ne.symm (by assumption))).trans ((hput_ne _ (by first | assumption | exact Ne.symm (by assumption))).trans (hput_eq _ _ _))) rfl ?_
          refine j_iload_n E dX5_cutBox_56 rfl ?_
          refine j_iconst (x := nI 1) E dX5_cutBox_57 (by decide) ?_
          refine j_isub E dX5_cutBox_58 ?_
          refine J.topi (x' := nI k) (nI_pred k) ?_
          refine j_laload E k dX5_cutBox_59 (by first | with_reducible assumption | exact hput_eq _ _ _ | exact (hput_ne _ (by first | assumption | exact Ne.symm (by assumption))).trans (by assumption) | exact (hput_ne _ (by first | assumption | exact Ne.symm (by assumption))).trans (hput_eq _ _ _) | exact (hput_ne _ (by first | assumption | exact Ne.symm (by assumption))).trans ((hput_ne _ (by first | assumption | exact Ne.symm (by assumption))).trans (by assumption)) | exact (hput_ne _ (by first | assumption | exact Ne.symm (by assumption))).trans ((hput_ne _ (by first | assumption | exact Ne.symm (by assumption))).trans (hput_eq _ _ _))) rfl (by omega) (by omega) ?_
          refine J.topl (x' := lZ (ct a k)) (R5 k (by omega)) ?_
          refine j_goto E (tgt := 67) dX5_cutBox_60 (by decide) ?_
          refine J.sub [(4, .int (bI (k + 1 < nk a))), (0, .ref g.1), (1, .ref y), (2, .int (nI (k + 1)))] ⟨rfl, rfl, rfl, rfl, trivial⟩ ?_
          exact mid (ct a k) (by unfold px0; rw [if_pos (by omega)]; rfl) _ q nq rfl
  have part1 : ∀ p : Prop, (p ↔ 0 < k) → J X B D 5 Q h 0 0 17 [(0, .ref g.1), (1, .ref y), (2, .int (nI k))] [.int (bI p)] := by
    intro p hp
    rw [bI_c hp]
    have join : ∀ p : Prop, (p ↔ k < nk a) → J X B D 5 Q h 0 0 35 [(3, .int (bI (0 < k))), (0, .ref g.1), (1, .ref y), (2, .int (nI k))] [.int (bI p)] := by
      intro p hp
      rw [bI_c hp]
      refine j_istore E dX5_cutBox_35 (by decide) ?_
      exact part2
    refine j_istore_n E dX5_cutBox_17 (by decide) ?_
    refine j_iload_n E dX5_cutBox_18 rfl ?_
    refine j_if_lt E (tgt := 34) dX5_cutBox_19 (by decide) (fun c1 => ?_) (fun c1 => ?_)
    · exact absurd c1 (nI_pos (by omega))
    ·
      refine j_iload_n E dX5_cutBox_22 rfl ?_
      refine j_aload_n E dX5_cutBox_23 rfl ?_
      refine j_getfield (ref := "ColourParts$Shape") (C := RX5) (T := TX5) (N := 9) (ci := 6) E 2 dX5_cutBox_24 iw_X5_cutBox_X5 rfl (by decide) (by decide +kernel) rfl (by first | with_reducible assumption | exact hput_eq _ _ _ | exact (hput_ne _ (by first | assumption | exact Ne.symm (by assumption))).trans (by assumption) | exact (hput_ne _ (by first | assumption | exact Ne.symm (by assumption))).trans (hput_eq _ _ _) | exact (hput_ne _ (by first | assumption | exact Ne.symm (by assumption))).trans ((hput_ne _ (by first | assumption | exact Ne.symm (by assumption))).trans (by assumption)) | exact (hput_ne _ (by first | assumption | exact Ne.symm (by assumption))).trans ((hput_ne _ (by first | assumption | exact Ne.symm (by assumption))).trans (hput_eq _ _ _))) rfl ?_
      refine j_icmp_ge E (tgt := 34) dX5_cutBox_27 (by decide) (fun c2 => ?_) (fun c2 => ?_)
      ·
        refine j_iconst (x := nI 0) E dX5_cutBox_34 (by decide) ?_
        refine J.topi (x' := bI False) ((bI_f id).symm) ?_
        exact join False ⟨fun z => z.elim, fun z => nI_ge z (by omega) c2⟩
      ·
        refine j_iconst (x := nI 1) E dX5_cutBox_30 (by decide) ?_
        refine J.topi (x' := bI True) ((bI_t trivial).symm) ?_
        refine j_goto E (tgt := 35) dX5_cutBox_31 (by decide) ?_
        exact join True ⟨fun _ => Nat.not_le.mp (fun z => c2 (nI_le z (by omega))), fun _ => trivial⟩
  refine j_iload_n E dX5_cutBox_0 rfl ?_
  refine j_if_le E (tgt := 16) dX5_cutBox_1 (by decide) (fun c1 => ?_) (fun c1 => ?_)
  ·
    refine j_iconst (x := nI 0) E dX5_cutBox_16 (by decide) ?_
    refine J.topi (x' := bI False) ((bI_f id).symm) ?_
    exact part1 False ⟨fun z => z.elim, fun z => Int32.not_le.mpr (nI_lt z (by omega)) c1⟩
  · have z0 : 0 < k := Nat.pos_of_ne_zero (fun z => c1 (by rw [z]; exact Int32.le_refl _))
    refine j_iload_n E dX5_cutBox_4 rfl ?_
    refine j_aload_n E dX5_cutBox_5 rfl ?_
    refine j_getfield (ref := "ColourParts$Shape") (C := RX5) (T := TX5) (N := 9) (ci := 6) E 2 dX5_cutBox_6 iw_X5_cutBox_X5 rfl (by decide) (by decide +kernel) rfl (by first | with_reducible assumption | exact hput_eq _ _ _ | exact (hput_ne _ (by first | assumption | exact Ne.symm (by assumption))).trans (by assumption) | exact (hput_ne _ (by first | assumption | exact Ne.symm (by assumption))).trans (hput_eq _ _ _) | exact (hput_ne _ (by first | assumption | exact Ne.symm (by assumption))).trans ((hput_ne _ (by first | assumption | exact Ne.symm (by assumption))).trans (by assumption)) | exact (hput_ne _ (by first | assumption | exact Ne.symm (by assumption))).trans ((hput_ne _ (by first | assumption | exact Ne.symm (by assumption))).trans (hput_eq _ _ _))) rfl ?_
    refine j_icmp_gt E (tgt := 16) dX5_cutBox_9 (by decide) (fun c2 => ?_) (fun c2 => ?_)
    · exact absurd c2 (nI_nlt hk (by omega))
    ·
      refine j_iconst (x := nI 1) E dX5_cutBox_12 (by decide) ?_
      refine J.topi (x' := bI True) ((bI_t trivial).symm) ?_
      refine j_goto E (tgt := 17) dX5_cutBox_13 (by decide) ?_
      exact part1 True ⟨fun _ => z0, fun _ => trivial⟩
theorem iw_X5_pieceBoxes_Jx4a65c : ∀ w ∈ u_ws RJx4a65c TJx4a65c 3, w ∈ wsX5_pieceBoxes := by decide +kernel
theorem iw_X5_pieceBoxes_X5 : ∀ w ∈ u_ws RX5 TX5 9, w ∈ wsX5_pieceBoxes := by decide +kernel
theorem c_pieceBoxes (v : Nat) {a : SH} {nr : Int32} {g : SG} {f0 : Nat → Option Nat} (R : shR E0 h a nr g) (hw : wfS a) (hE : h E0 = some (hQ 0 f0)) (hop : ¬ opn a) {k : Nat} (hk : k ≤ nk a) : CM l B E0 D yX5_pieceBoxes wsX5_pieceBoxes (v + 7) 3 22 [.ref g.1, .int (nI k)] h (fun r h1 => ∃ q e els, r = some (.ref q) ∧ onF h h1 ∧ BLs E0 h1 q e els (pbx a k) ∧ ((q = g.2.1 ∧ e = g.2.2.1) ∨ (h q = none ∧ (e = E0 ∨ h e = none)))) := by
  have R0 := R
  obtain ⟨⟨hx, hyy, R1, R2⟩, L, f, R4, R5⟩ := R
  have L0 := L
  obtain ⟨L1, L2, L3⟩ := L
  rw [bxs_len] at L2
  have h3 := hw.2.1
  have h8 := hw.1
  unfold shF at R1
  obtain ⟨⟨zl, hl1⟩, ne, fe, hl2⟩ := L1.ty
  refine CM.of (cc := cX5_pieceBoxes) (maxL := 3) (ret := (some (.object "java/util/ArrayList"))) (by decide) rfl (Nat.le_of_ble_eq_true rfl) (fun X E hin => ?_)
  show J X B D 3 _ h 0 0 0 [(0, .ref g.1), (1, .int (nI k))] []
  generalize hQ : jQ X B D _ _ _ = Q
  refine j_aload_n E dX5_pieceBoxes_0 rfl ?_
  refine j_getfield (ref := "ColourParts$Shape") (C := RX5) (T := TX5) (N := 9) (ci := 6) E 2 dX5_pieceBoxes_1 iw_X5_pieceBoxes_X5 rfl (by decide) (by decide +kernel) rfl (by first | with_reducible assumption | exact hput_eq _ _ _ | exact (hput_ne _ (by first | assumption | exact Ne.symm (by assumption))).trans (by assumption) | exact (hput_ne _ (by first | assumption | exact Ne.symm (by assumption))).trans (hput_eq _ _ _) | exact (hput_ne _ (by first | assumption | exact Ne.symm (by assumption))).trans ((hput_ne _ (by first | assumption | exact Ne.symm (by assumption))).trans (by assumption)) | exact (hput_ne _ (by first | assumption | exact Ne.symm (by assumption))).trans ((hput_ne _ (by first | assumption | exact Ne.symm (by assumption))).trans (hput_eq _ _ _))) rfl ?_
  refine j_if_eq E (tgt := 17) dX5_pieceBoxes_4 (by decide) (fun c1 => ?_) (fun c1 => ?_)
  · have n0 : nk a = 0 := (nI_eq (show nk a < 2 ^ 31 by omega) (show 0 < 2 ^ 31 by decide)).mp c1
    refine j_aload_n E dX5_pieceBoxes_17 rfl ?_
    refine j_getfield (ref := "ColourParts$Shape") (C := RX5) (T := TX5) (N := 9) (ci := 6) E 0 dX5_pieceBoxes_18 iw_X5_pieceBoxes_X5 rfl (by decide) (by decide +kernel) rfl (by first | with_reducible assumption | exact hput_eq _ _ _ | exact (hput_ne _ (by first | assumption | exact Ne.symm (by assumption))).trans (by assumption) | exact (hput_ne _ (by first | assumption | exact Ne.symm (by assumption))).trans (hput_eq _ _ _) | exact (hput_ne _ (by first | assumption | exact Ne.symm (by assumption))).trans ((hput_ne _ (by first | assumption | exact Ne.symm (by assumption))).trans (by assumption)) | exact (hput_ne _ (by first | assumption | exact Ne.symm (by assumption))).trans ((hput_ne _ (by first | assumption | exact Ne.symm (by assumption))).trans (hput_eq _ _ _))) rfl ?_
    refine J.wide (k' := 3) (n' := 22) (by omega) (by omega) ?_
    rw [← hQ]
    exact j_aret E dX5_pieceBoxes_21 rfl (Or.inl ⟨_, rfl⟩) (by omega) (by omega) ⟨_, _, _, rfl, onF.rf, by rw [pbx_0 n0]; exact L0, Or.inl ⟨rfl, rfl⟩⟩
  · have n0 : 0 < nk a := Nat.pos_of_ne_zero (fun z => c1 (by rw [z]; rfl))
    have n2 := hw.2.2.1 n0
    have nE : g.2.2.2.2 ≠ [] := fun z => by rw [z, n2] at L2; exact absurd L2 (by decide)
    refine j_aload_n E dX5_pieceBoxes_7 rfl ?_
    refine j_getfield (ref := "ColourParts$Shape") (C := RX5) (T := TX5) (N := 9) (ci := 6) E 0 dX5_pieceBoxes_8 iw_X5_pieceBoxes_X5 rfl (by decide) (by decide +kernel) rfl (by first | with_reducible assumption | exact hput_eq _ _ _ | exact (hput_ne _ (by first | assumption | exact Ne.symm (by assumption))).trans (by assumption) | exact (hput_ne _ (by first | assumption | exact Ne.symm (by assumption))).trans (hput_eq _ _ _) | exact (hput_ne _ (by first | assumption | exact Ne.symm (by assumption))).trans ((hput_ne _ (by first | assumption | exact Ne.symm (by assumption))).trans (by assumption)) | exact (hput_ne _ (by first | assumption | exact Ne.symm (by assumption))).trans ((hput_ne _ (by first | assumption | exact Ne.symm (by assumption))).trans (hput_eq _ _ _))) rfl ?_
    refine j_callV (np := 0) (C := RJx4a65c) (T := TJx4a65c) (N := 3) (ci := 0) E (c_isEmpty v L1 (by omega)) gX5_pieceBoxes_Jx4a65c_isEmpty_aae02 rfl ⟨rfl, by decide, by decide, by decide +kernel⟩ dX5_pieceBoxes_11 (by omega) (by decide) rfl hl1 rfl rfl (Nat.le_of_ble_eq_true rfl) (by omega) (by omega) (fun r9 h9 p9 => J.pure p9 ?_)
    refine J.wide (k' := 0) (n' := 0) (by omega) (by omega) ?_
    rw [if_neg nE]
    refine j_if_eq E (tgt := 22) dX5_pieceBoxes_14 (by decide) (fun c2 => ?_) (fun c2 => ?_)
    · have hi0 : 0 < g.2.2.2.2.length := by omega
      have hb0 := L3 0 hi0
      rw [bxs_get (show 0 < nc a / 2 by omega)] at hb0
      refine j_new (C := RJx4a65c) (T := TJx4a65c) (N := 3) (ci := 0) E [.int 0, .null, .int 0] dX5_pieceBoxes_22 iw_X5_pieceBoxes_Jx4a65c tyJx4a65c tyJx4a65c_ok (by decide +kernel) (by decide +kernel) (by decide +kernel) rfl (by decide) (by omega) (by omega) (fun q nq bq => ?_)
      refine j_dup E dX5_pieceBoxes_25 rfl ?_
      have nq1 : g.1 ≠ q := hm_neN R1 nq
      have nq2 : E0 ≠ q := hm_neN hE nq
      refine j_callI (np := 0) E (c_alInit v (m := 0) (x := .null) (y := .int 0) (hput_eq _ _ _)) gX5_pieceBoxes_Jx4a65c_init_da8c8 rfl (by decide +kernel) (by decide +kernel) (by decide +kernel) rfl ⟨by decide, by decide, by decide +kernel⟩ dX5_pieceBoxes_26 (by omega) (by decide) rfl rfl (Nat.le_of_ble_eq_true rfl) (by omega) (by omega) (fun r h1 p => ?_)
      obtain ⟨rfl, rfl⟩ := p
      rw [hput_hput]
      refine J.wide (k' := 1) (n' := 3) (by omega) (by omega) ?_
      generalize hh1 : hput h q (hO 0 [.int 0, .ref E0, .int 0]) = h1
      have o1 : onF h h1 := by rw [← hh1]; exact onF.put nq
      have q1 : h1 q = some (hO 0 [.int 0, .ref E0, .int 0]) := by rw [← hh1]; exact hput_eq _ _ _
      refine j_astore_n E dX5_pieceBoxes_29 (by decide) ?_
      refine j_aload_n E dX5_pieceBoxes_30 rfl ?_
      refine j_aload_n E dX5_pieceBoxes_31 rfl ?_
      refine j_aload_n E dX5_pieceBoxes_32 rfl ?_
      refine j_getfield (ref := "ColourParts$Shape") (C := RX5) (T := TX5) (N := 9) (ci := 6) E 0 dX5_pieceBoxes_33 iw_X5_pieceBoxes_X5 rfl (by decide) (by decide +kernel) rfl (o1.at R1) rfl ?_
      refine j_iconst (x := nI 0) E dX5_pieceBoxes_36 (by decide) ?_
      refine j_callV (np := 1) (C := RJx4a65c) (T := TJx4a65c) (N := 3) (ci := 0) E (c_get (v + 2) (L1.keep ((o1.at hl1).trans hl1.symm) ((o1.at hl2).trans hl2.symm)) hi0 (by omega)) gX5_pieceBoxes_Jx4a65c_get_915e3 rfl ⟨rfl, by decide, by decide, by decide +kernel⟩ dX5_pieceBoxes_37 (by omega) (by decide) rfl (o1.at hl1) rfl rfl (Nat.le_of_ble_eq_true rfl) (by omega) (by omega) (fun r9 h9 p9 => J.pure p9 ?_)
      refine J.wide (k' := 1) (n' := 3) (by omega) (by omega) ?_
      refine j_cast (C := RX0) (T := TX0) (N := 4) (ci := 1) E dX5_pieceBoxes_40 (by decide +kernel) rfl (o1.at hb0) ?_
      refine j_iload_n E dX5_pieceBoxes_43 rfl ?_
      refine j_callV (np := 2) (C := RX5) (T := TX5) (N := 9) (ci := 6) E (c_cutBox (v + 2) (R0.on o1) hw n0 hk (o1.at hb0)) gX5_pieceBoxes_X5_cutBox rfl ⟨rfl, by decide, by decide, by decide +kernel⟩ dX5_pieceBoxes_44 (by omega) (by decide) rfl (o1.at R1) rfl rfl (Nat.le_of_ble_eq_true rfl) (by omega) (by omega) (fun r h2 p => ?_)
      obtain ⟨q2, rfl, nq2, hh2⟩ := p
      have o2 : onF h1 h2 := by rw [hh2]; exact onF.put nq2
      have b2 : h2 q2 = some (bxO (pxA a k 0)) := by rw [hh2]; exact hput_eq _ _ _
      have nqq : q ≠ q2 := hm_neN q1 nq2
      refine J.wide (k' := 2) (n' := 7) (by omega) (by omega) ?_
      have AL2 : AL E0 h2 q E0 [] := ⟨0, 0, f0, o2.at q1, o2.at (o1.at hE), Nat.le_refl _, Or.inl ⟨rfl, rfl⟩, fun i hi => absurd hi (Nat.not_lt_zero _)⟩
      refine j_callV (np := 1) (C := RJx4a65c) (T := TJx4a65c) (N := 3) (ci := 0) E (c_add v AL2 (o2.at (o1.at hE)) (by decide) (fun z hz => absurd hz List.not_mem_nil) ⟨1, _, _, b2, rfl⟩) gX5_pieceBoxes_Jx4a65c_add_9ea2d rfl ⟨rfl, by decide, by decide, by decide +kernel⟩ dX5_pieceBoxes_47 (by omega) (by decide) rfl (o2.at q1) rfl rfl (Nat.le_of_ble_eq_true rfl) (by omega) (by omega) (fun r h3 p => ?_)
      obtain ⟨rfl, e1, p1, p2, p3⟩ := p
      have p4 : ∀ z, h2 z ≠ none → z ≠ q → h3 z = h2 z := fun z z1 z2 => p2 z z1 (fun w => w.elim z2 (fun w => w.2 w.1))
      refine j_pop E dX5_pieceBoxes_50 rfl ?_
      refine j_aload_n E dX5_pieceBoxes_51 rfl ?_
      refine J.wide (k' := 3) (n' := 22) (by omega) (by omega) ?_
      rw [← hQ]
      refine j_aret E dX5_pieceBoxes_52 rfl (Or.inl ⟨_, rfl⟩) (by omega) (by omega) ⟨q, e1, [] ++ [q2], rfl, fun z hz => ?_, ⟨p1, ?_, fun i hi => ?_⟩, Or.inr ⟨nq, p3.imp id (fun z => (o1.tr o2).no z)⟩⟩
      · have z1 := (o1.tr o2) z hz
        exact (p4 z (by rw [z1]; exact hz) (fun e => hz (by rw [e]; exact nq))).trans z1
      · rw [pbx_len]
        unfold nb
        rw [if_pos n0]; rfl
      · have : i = 0 := by have : i < 1 := hi; omega
        subst this
        rw [pbx_get (by unfold nb; rw [if_pos n0]; decide)]
        exact (p4 q2 (by rw [b2]; intro w; cases w) nqq.symm).trans b2
    · exact absurd rfl c2
end C4
