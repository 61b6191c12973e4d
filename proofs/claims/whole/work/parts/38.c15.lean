/-! pieces -/
abbrev PG : Type := Nat × Nat × Nat × List Nat
def gP (pg : List PG) (p : Nat) : PG := pg.getD p (0, 0, 0, [])
theorem gP_lt {pg : List PG} {p : Nat} (hp : p < pg.length) : gP pg p = pg[p] := by
  unfold gP
  rw [List.getD_eq_getElem?_getD, List.getElem?_eq_getElem hp]; rfl
noncomputable def pcF (g : PG) (o : Nat) (t : Int) (N : Nat → Prop) : List Value := [.int (nI o), .int (iZ t), .ref g.2.1, .int (bS N)]
/-- the pieces made since h0: their object, list, array; piece p is of shape o p, told t p, has the boxes bb p, is near N p -/
def PSR (E0 : Nat) (h0 h : HM) (ps row re : Nat) (pg : List PG) (o : Nat → Nat) (t : Nat → Int) (bb : Nat → List BB) (N : Nat → Nat → Prop) : Prop :=
  (onF h0 h ∧ h0 ps = none ∧ h0 row = none ∧ (re ≠ E0 → h0 re = none) ∧ ∃ f0, h0 E0 = some (hQ 0 f0)) ∧ h ps = some (hO 4 [.ref row]) ∧ AL E0 h row re (pg.map (·.1)) ∧ pg.length ≤ 12 ∧
  (∀ p, p < pg.length → h0 (gP pg p).1 = none ∧ h (gP pg p).1 = some (hO 3 (pcF (gP pg p) (o p) (t p) (N p))) ∧ BLs E0 h (gP pg p).2.1 (gP pg p).2.2.1 (gP pg p).2.2.2 (bb p) ∧ (gP pg p).2.1 ≠ row ∧ ((gP pg p).2.2.1 = re → re = E0)) ∧
  ∀ p q, p < pg.length → q < pg.length → p ≠ q → (gP pg p).1 ≠ (gP pg q).1
def areaL (bs : List BB) : Nat → Int
  | 0 => 0
  | n + 1 => areaL bs n + ((gB bs n).2.2.1 - (gB bs n).1) * ((gB bs n).2.2.2 - (gB bs n).2.1)
def nearL (d : Int) (bs cs : List BB) : Prop := ∃ i, i < bs.length ∧ anyB d (gB bs i) cs
section C15
variable {l : Launch} {B E0 : Nat} {D : va_G} {h h0 : HM} {d : Int} {ps row re : Nat} {pg : List PG} {o : Nat → Nat} {t : Nat → Int} {bb : Nat → List BB} {N : Nat → Nat → Prop}
theorem PSR.lst (R : PSR E0 h0 h ps row re pg o t bb N) : h ps = some (hO 4 [.ref row]) ∧ AL E0 h row re (pg.map (·.1)) ∧ (pg.map (·.1)).length = pg.length ∧ pg.length ≤ 12 ∧ ∃ z, h row = some (hO 0 z) := ⟨R.2.1, R.2.2.1, List.length_map .., R.2.2.2.1, R.2.2.1.ty.1⟩
theorem PSR.el (R : PSR E0 h0 h ps row re pg o t bb N) {p : Nat} (hp : p < (pg.map (·.1)).length) : (pg.map (·.1))[p] = (gP pg p).1 := by
  rw [List.getElem_map, gP_lt (by rw [List.length_map] at hp; exact hp)]
theorem PSR.pc (R : PSR E0 h0 h ps row re pg o t bb N) {p : Nat} (hp : p < pg.length) : h (gP pg p).1 = some (hO 3 (pcF (gP pg p) (o p) (t p) (N p))) ∧ BLs E0 h (gP pg p).2.1 (gP pg p).2.2.1 (gP pg p).2.2.2 (bb p) := ⟨(R.2.2.2.2.1 p hp).2.1, (R.2.2.2.2.1 p hp).2.2.1⟩
theorem iw_X2_init_X2 : ∀ w ∈ u_ws RX2 TX2 4, w ∈ wsX2_init := by decide +kernel
theorem c_pieceInit (v : Nat) {a bl : Nat} {o : Nat} {t : Int} (ha : h a = some (hO 3 [.int 0, .int 0, .null, .int 0])) : CM l B E0 D yX2_init wsX2_init (v + 2) 0 0 [.ref a, .int (nI o), .int (iZ t), .ref bl] h (fun r h1 => r = none ∧ h1 = hput h a (hO 3 [.int (nI o), .int (iZ t), .ref bl, .int 0])) := by
  refine CM.of (cc := cX2_init) (maxL := 4) (ret := none) (by decide) rfl (Nat.le_of_ble_eq_true rfl) (fun X E hin => ?_)
  show J X B D 4 _ h 0 0 0 [(0, .ref a), (1, .int (nI o)), (2, .int (iZ t)), (3, .ref bl)] []
  generalize hQ : jQ X B D _ _ _ = Q
  refine j_aload_n E dX2_init_0 rfl ?_
  refine j_objInit E dX2_init_1 (by decide +kernel) (by decide +kernel) (by decide +kernel) (by omega) (Nat.le_of_ble_eq_true rfl) ?_
  refine j_aload_n E dX2_init_4 rfl ?_
  refine j_iconst (x := nI 0) E dX2_init_5 (by decide) ?_
  refine j_putfield (ref := "ColourParts$Piece") (C := RX2) (T := TX2) (N := 4) (ci := 3) E 3 dX2_init_6 iw_X2_init_X2 tyX2 tyX2_ok nmX2 rfl (by decide) (by decide +kernel) rfl rfl rfl rfl (by first | with_reducible assumption | exact hput_eq _ _ _ | exact (hput_ne _ (by first | assumption | exact Ne.symm (by assumption))).trans (by assumption) | exact (hput_ne _ (by first | assumption | exact Ne.symm (by assumption))).trans (hput_eq _ _ _) | exact (hput_ne _ (by first | assumption | exact Ne.symm (by assumption))).trans ((hput_ne _ (by first | assumption | exact Ne.symm (by assumption))).trans (by assumption)) | exact (hput_ne _ (by first | assumption | exact Ne.symm (by assumption))).trans ((hput_ne _ (by first | assumption | exact Ne.symm (by assumption))).trans (hput_eq _ _ _))) (Nat.le_of_ble_eq_true rfl) ?_
  refine j_aload_n E dX2_init_9 rfl ?_
  refine j_iload_n E dX2_init_10 rfl ?_
  refine j_putfin (C := RX2) (T := TX2) (N := 4) (ci := 3) E 0 dX2_init_11 iw_X2_init_X2 tyX2 tyX2_ok nmX2 rfl (by decide) (by decide +kernel) rfl rfl hin rfl rfl rfl (by first | with_reducible assumption | exact hput_eq _ _ _ | exact (hput_ne _ (by first | assumption | exact Ne.symm (by assumption))).trans (by assumption) | exact (hput_ne _ (by first | assumption | exact Ne.symm (by assumption))).trans (hput_eq _ _ _) | exact (hput_ne _ (by first | assumption | exact Ne.symm (by assumption))).trans ((hput_ne _ (by first | assumption | exact Ne.symm (by assumption))).trans (by assumption)) | exact (hput_ne _ (by first | assumption | exact Ne.symm (by assumption))).trans ((hput_ne _ (by first | assumption | exact Ne.symm (by assumption))).trans (hput_eq _ _ _))) (Nat.le_of_ble_eq_true rfl) ?_
  refine j_aload_n E dX2_init_14 rfl ?_
  refine j_iload_n E dX2_init_15 rfl ?_
  refine j_putfin (C := RX2) (T := TX2) (N := 4) (ci := 3) E 1 dX2_init_16 iw_X2_init_X2 tyX2 tyX2_ok nmX2 rfl (by decide) (by decide +kernel) rfl rfl hin rfl rfl rfl (by first | with_reducible assumption | exact hput_eq _ _ _ | exact (hput_ne _ (by first | assumption | exact Ne.symm (by assumption))).trans (by assumption) | exact (hput_ne _ (by first | assumption | exact Ne.symm (by assumption))).trans (hput_eq _ _ _) | exact (hput_ne _ (by first | assumption | exact Ne.symm (by assumption))).trans ((hput_ne _ (by first | assumption | exact Ne.symm (by assumption))).trans (by assumption)) | exact (hput_ne _ (by first | assumption | exact Ne.symm (by assumption))).trans ((hput_ne _ (by first | assumption | exact Ne.symm (by assumption))).trans (hput_eq _ _ _))) (Nat.le_of_ble_eq_true rfl) ?_
  refine j_aload_n E dX2_init_19 rfl ?_
  refine j_aload_n E dX2_init_20 rfl ?_
  refine j_putfin (C := RX2) (T := TX2) (N := 4) (ci := 3) E 2 dX2_init_21 iw_X2_init_X2 tyX2 tyX2_ok nmX2 rfl (by decide) (by decide +kernel) rfl rfl hin rfl rfl rfl (by first | with_reducible assumption | exact hput_eq _ _ _ | exact (hput_ne _ (by first | assumption | exact Ne.symm (by assumption))).trans (by assumption) | exact (hput_ne _ (by first | assumption | exact Ne.symm (by assumption))).trans (hput_eq _ _ _) | exact (hput_ne _ (by first | assumption | exact Ne.symm (by assumption))).trans ((hput_ne _ (by first | assumption | exact Ne.symm (by assumption))).trans (by assumption)) | exact (hput_ne _ (by first | assumption | exact Ne.symm (by assumption))).trans ((hput_ne _ (by first | assumption | exact Ne.symm (by assumption))).trans (hput_eq _ _ _))) (Nat.le_of_ble_eq_true rfl) ?_
  rw [← hQ]
  exact j_vret E dX2_init_24 rfl (by omega) (by omega) ⟨rfl, by rw [hput_hput, hput_hput, hput_hput]; rfl⟩
theorem iw_X2_areas_X2 : ∀ w ∈ u_ws RX2 TX2 4, w ∈ wsX2_areas := by decide +kernel
theorem c_pieceAreas (v : Nat) {a bl be : Nat} {els : List Nat} {bs : List BB} {x y z : Value} (ha : h a = some (hO 3 [x, y, .ref bl, z])) (L : BLs E0 h bl be els bs) (h12 : bs.length < 12) : CM l B E0 D yX2_areas wsX2_areas (v + 4) 0 0 [.ref a] h (fun r h1 => r = some (.long (lZ (areaL bs bs.length))) ∧ h1 = h) := by
  obtain ⟨L1, L2, L3⟩ := L
  obtain ⟨⟨zq, hq⟩, -⟩ := L1.ty
  refine CM.of (cc := cX2_areas) (maxL := 4) (ret := (some .long)) (by decide) rfl (Nat.le_of_ble_eq_true rfl) (fun X E hin => ?_)
  show J X B D 4 _ h 0 0 0 [(0, .ref a)] []
  generalize hQ : jQ X B D _ _ _ = Q
  have key : ∀ (t i : Nat), i + t = els.length → J X B D 4 Q h 0 0 4 [(3, .int (nI i)), (1, .long (lZ (areaL bs i))), (0, .ref a)] [] := by
    intro t
    induction t with
    | zero =>
      intro i hi
      refine j_iload_n E dX2_areas_4 rfl ?_
      refine j_aload_n E dX2_areas_5 rfl ?_
      refine j_getfield (ref := "ColourParts$Piece") (C := RX2) (T := TX2) (N := 4) (ci := 3) E 2 dX2_areas_6 iw_X2_areas_X2 rfl (by decide) (by decide +kernel) rfl (by first | with_reducible assumption | exact hput_eq _ _ _ | exact (hput_ne _ (by first | assumption | exact Ne.symm (by assumption))).trans (by assumption) | exact (hput_ne _ (by first | assumption | exact Ne.symm (by assumption))).trans (hput_eq _ _ _) | exact (hput_ne _ (by first | assumption | exact Ne.symm (by assumption))).trans ((hput_ne _ (by first | assumption | exact Ne.symm (by assumption))).trans (by assumption)) | exact (hput_ne _ (by first | assumption | exact Ne.symm (by assumption))).trans ((hput_ne _ (by first | assumption | exact Ne.symm (by assumption))).trans (hput_eq _ _ _))) rfl ?_
      refine j_callV (np := 0) (C := RJx4a65c) (T := TJx4a65c) (N := 3) (ci := 0) E (c_size (v + 2) L1) gX2_areas_Jx4a65c_size_8abf5 rfl ⟨rfl, by decide, by decide, by decide +kernel⟩ dX2_areas_9 (by omega) (by decide) rfl hq rfl rfl (Nat.le_of_ble_eq_true rfl) (by omega) (by omega) (fun r9 h9 p9 => J.pure p9 ?_)
      refine J.wide (k' := 0) (n' := 0) (by omega) (by omega) ?_
      refine j_icmp_ge E (tgt := 38) dX2_areas_12 (by decide) (fun c1 => ?_) (fun c1 => ?_)
      · rw [show bs.length = i by omega] at hQ
        refine j_lload_n E dX2_areas_38 rfl ?_
        rw [← hQ]
        exact j_lret E dX2_areas_39 rfl (by omega) (by omega) ⟨rfl, rfl⟩
      · exact absurd (nI_le (show els.length ≤ i by omega) (by omega)) c1
    | succ t ih =>
      intro i hi
      have hil : i < els.length := by omega
      refine j_iload_n E dX2_areas_4 rfl ?_
      refine j_aload_n E dX2_areas_5 rfl ?_
      refine j_getfield (ref := "ColourParts$Piece") (C := RX2) (T := TX2) (N := 4) (ci := 3) E 2 dX2_areas_6 iw_X2_areas_X2 rfl (by decide) (by decide +kernel) rfl (by first | with_reducible assumption | exact hput_eq _ _ _ | exact (hput_ne _ (by first | assumption | exact Ne.symm (by assumption))).trans (by assumption) | exact (hput_ne _ (by first | assumption | exact Ne.symm (by assumption))).trans (hput_eq _ _ _) | exact (hput_ne _ (by first | assumption | exact Ne.symm (by assumption))).trans ((hput_ne _ (by first | assumption | exact Ne.symm (by assumption))).trans (by assumption)) | exact (hput_ne _ (by first | assumption | exact Ne.symm (by assumption))).trans ((hput_ne _ (by first | assumption | exact Ne.symm (by assumption))).trans (hput_eq _ _ _))) rfl ?_
      refine j_callV (np := 0) (C := RJx4a65c) (T := TJx4a65c) (N := 3) (ci := 0) E (c_size (v + 2) L1) gX2_areas_Jx4a65c_size_8abf5 rfl ⟨rfl, by decide, by decide, by decide +kernel⟩ dX2_areas_9 (by omega) (by decide) rfl hq rfl rfl (Nat.le_of_ble_eq_true rfl) (by omega) (by omega) (fun r9 h9 p9 => J.pure p9 ?_)
      refine J.wide (k' := 0) (n' := 0) (by omega) (by omega) ?_
      refine j_icmp_ge E (tgt := 38) dX2_areas_12 (by decide) (fun c1 => ?_) (fun c1 => ?_)
      · exact absurd c1 (nI_ge hil (by omega))
      ·
        refine j_lload_n E dX2_areas_15 rfl ?_
        refine j_aload_n E dX2_areas_16 rfl ?_
        refine j_getfield (ref := "ColourParts$Piece") (C := RX2) (T := TX2) (N := 4) (ci := 3) E 2 dX2_areas_17 iw_X2_areas_X2 rfl (by decide) (by decide +kernel) rfl (by first | with_reducible assumption | exact hput_eq _ _ _ | exact (hput_ne _ (by first | assumption | exact Ne.symm (by assumption))).trans (by assumption) | exact (hput_ne _ (by first | assumption | exact Ne.symm (by assumption))).trans (hput_eq _ _ _) | exact (hput_ne _ (by first | assumption | exact Ne.symm (by assumption))).trans ((hput_ne _ (by first | assumption | exact Ne.symm (by assumption))).trans (by assumption)) | exact (hput_ne _ (by first | assumption | exact Ne.symm (by assumption))).trans ((hput_ne _ (by first | assumption | exact Ne.symm (by assumption))).trans (hput_eq _ _ _))) rfl ?_
        refine j_iload_n E dX2_areas_20 rfl ?_
        refine j_callV (np := 1) (C := RJx4a65c) (T := TJx4a65c) (N := 3) (ci := 0) E (c_get v L1 hil (by omega)) gX2_areas_Jx4a65c_get_915e3 rfl ⟨rfl, by decide, by decide, by decide +kernel⟩ dX2_areas_21 (by omega) (by decide) rfl hq rfl rfl (Nat.le_of_ble_eq_true rfl) (by omega) (by omega) (fun r9 h9 p9 => J.pure p9 ?_)
        refine J.wide (k' := 0) (n' := 0) (by omega) (by omega) ?_
        have hb := L3 i hil
        refine j_cast (C := RX0) (T := TX0) (N := 4) (ci := 1) E dX2_areas_24 (by decide +kernel) rfl hb ?_
        refine j_callV (np := 0) (C := RX0) (T := TX0) (N := 4) (ci := 1) E (c_area v (gB bs i) hb) gX2_areas_X0_area rfl ⟨rfl, by decide, by decide, by decide +kernel⟩ dX2_areas_27 (by omega) (by decide) rfl hb rfl rfl (Nat.le_of_ble_eq_true rfl) (by omega) (by omega) (fun r9 h9 p9 => J.pure p9 ?_)
        refine J.wide (k' := 0) (n' := 0) (by omega) (by omega) ?_
        refine j_ladd E dX2_areas_30 ?_
        refine J.topl (x' := lZ (areaL bs (i + 1))) (lZ_add _ _) ?_
        refine j_lstore_n E dX2_areas_31 (by decide) ?_
        refine j_iinc E dX2_areas_32 rfl (nI_1 i) (by decide) ?_
        refine j_goto E (tgt := 4) dX2_areas_35 (by decide) ?_
        refine J.sub [(3, .int (nI (i + 1))), (1, .long (lZ (areaL bs (i + 1)))), (0, .ref a)] ⟨rfl, rfl, rfl, trivial⟩ ?_
        exact ih (i + 1) (by omega)
  refine j_lconst (x := lZ 0) E dX2_areas_0 (by decide) ?_
  refine j_lstore_n E dX2_areas_1 (by decide) ?_
  refine j_iconst (x := nI 0) E dX2_areas_2 (by decide) ?_
  refine j_istore_n E dX2_areas_3 (by decide) ?_
  refine J.sub [(3, .int (nI 0)), (1, .long (lZ (areaL bs 0))), (0, .ref a)] ⟨rfl, rfl, rfl, trivial⟩ ?_
  exact key els.length 0 (by omega)
theorem iw_X2_isNearPiece_X2 : ∀ w ∈ u_ws RX2 TX2 4, w ∈ wsX2_isNearPiece := by decide +kernel
theorem c_isNearPiece (v : Nat) (hd : 1 ≤ d ∧ d ≤ 65536) {a bl be a2 bl2 be2 : Nat} {els els2 : List Nat} {bs cs : List BB} {x y z x2 y2 z2 : Value} (ha : h a = some (hO 3 [x, y, .ref bl, z])) (ha2 : h a2 = some (hO 3 [x2, y2, .ref bl2, z2])) (L : BLs E0 h bl be els bs) (M : BLs E0 h bl2 be2 els2 cs) (h12 : bs.length < 12) (g12 : cs.length < 12) (wb : ∀ i, i < bs.length → wB (gB bs i)) (wc : ∀ i, i < cs.length → wB (gB cs i)) : CM l B E0 D yX2_isNearPiece wsX2_isNearPiece (v + 5) 0 0 [.ref a, .ref a2, .long (lZ (d * d))] h (fun r h1 => r = some (.int (bI (nearL d bs cs))) ∧ h1 = h) := by
  obtain ⟨L1, L2, L3⟩ := L
  obtain ⟨⟨zq, hq⟩, -⟩ := L1.ty
  refine CM.of (cc := cX2_isNearPiece) (maxL := 5) (ret := (some .boolean)) (by decide) rfl (Nat.le_of_ble_eq_true rfl) (fun X E hin => ?_)
  show J X B D 5 _ h 0 0 0 [(0, .ref a), (1, .ref a2), (2, .long (lZ (d * d)))] []
  generalize hQ : jQ X B D _ _ _ = Q
  have key : ∀ (t i : Nat), i + t = els.length → (∀ j, j < i → ¬ anyB d (gB bs j) cs) → J X B D 5 Q h 0 0 3 [(4, .int (nI i)), (0, .ref a), (1, .ref a2), (2, .long (lZ (d * d)))] [] := by
    intro t
    induction t with
    | zero =>
      intro i hi hno
      refine j_iload E dX2_isNearPiece_3 rfl ?_
      refine j_aload_n E dX2_isNearPiece_5 rfl ?_
      refine j_getfield (ref := "ColourParts$Piece") (C := RX2) (T := TX2) (N := 4) (ci := 3) E 2 dX2_isNearPiece_6 iw_X2_isNearPiece_X2 rfl (by decide) (by decide +kernel) rfl (by first | with_reducible assumption | exact hput_eq _ _ _ | exact (hput_ne _ (by first | assumption | exact Ne.symm (by assumption))).trans (by assumption) | exact (hput_ne _ (by first | assumption | exact Ne.symm (by assumption))).trans (hput_eq _ _ _) | exact (hput_ne _ (by first | assumption | exact Ne.symm (by assumption))).trans ((hput_ne _ (by first | assumption | exact Ne.symm (by assumption))).trans (by assumption)) | exact (hput_ne _ (by first | assumption | exact Ne.symm (by assumption))).trans ((hput_ne _ (by first | assumption | exact Ne.symm (by assumption))).trans (hput_eq _ _ _))) rfl ?_
      refine j_callV (np := 0) (C := RJx4a65c) (T := TJx4a65c) (N := 3) (ci := 0) E (c_size (v + 2) L1) gX2_isNearPiece_Jx4a65c_size_8abf5 rfl ⟨rfl, by decide, by decide, by decide +kernel⟩ dX2_isNearPiece_9 (by omega) (by decide) rfl hq rfl rfl (Nat.le_of_ble_eq_true rfl) (by omega) (by omega) (fun r9 h9 p9 => J.pure p9 ?_)
      refine J.wide (k' := 0) (n' := 0) (by omega) (by omega) ?_
      refine j_icmp_ge E (tgt := 46) dX2_isNearPiece_12 (by decide) (fun c1 => ?_) (fun c1 => ?_)
      ·
        refine j_iconst (x := nI 0) E dX2_isNearPiece_46 (by decide) ?_
        refine J.topi (x' := bI (nearL d bs cs)) ((bI_f (fun z => z.elim (fun j hj => hno j (by omega) hj.2))).symm) ?_
        rw [← hQ]
        exact j_iret E dX2_isNearPiece_47 rfl (nb_bI _) (by omega) (by omega) ⟨rfl, rfl⟩
      · exact absurd (nI_le (show els.length ≤ i by omega) (by omega)) c1
    | succ t ih =>
      intro i hi hno
      have hil : i < els.length := by omega
      refine j_iload E dX2_isNearPiece_3 rfl ?_
      refine j_aload_n E dX2_isNearPiece_5 rfl ?_
      refine j_getfield (ref := "ColourParts$Piece") (C := RX2) (T := TX2) (N := 4) (ci := 3) E 2 dX2_isNearPiece_6 iw_X2_isNearPiece_X2 rfl (by decide) (by decide +kernel) rfl (by first | with_reducible assumption | exact hput_eq _ _ _ | exact (hput_ne _ (by first | assumption | exact Ne.symm (by assumption))).trans (by assumption) | exact (hput_ne _ (by first | assumption | exact Ne.symm (by assumption))).trans (hput_eq _ _ _) | exact (hput_ne _ (by first | assumption | exact Ne.symm (by assumption))).trans ((hput_ne _ (by first | assumption | exact Ne.symm (by assumption))).trans (by assumption)) | exact (hput_ne _ (by first | assumption | exact Ne.symm (by assumption))).trans ((hput_ne _ (by first | assumption | exact Ne.symm (by assumption))).trans (hput_eq _ _ _))) rfl ?_
      refine j_callV (np := 0) (C := RJx4a65c) (T := TJx4a65c) (N := 3) (ci := 0) E (c_size (v + 2) L1) gX2_isNearPiece_Jx4a65c_size_8abf5 rfl ⟨rfl, by decide, by decide, by decide +kernel⟩ dX2_isNearPiece_9 (by omega) (by decide) rfl hq rfl rfl (Nat.le_of_ble_eq_true rfl) (by omega) (by omega) (fun r9 h9 p9 => J.pure p9 ?_)
      refine J.wide (k' := 0) (n' := 0) (by omega) (by omega) ?_
      refine j_icmp_ge E (tgt := 46) dX2_isNearPiece_12 (by decide) (fun c1 => ?_) (fun c1 => ?_)
      · exact absurd c1 (nI_ge hil (by omega))
      ·
        refine j_aload_n E dX2_isNearPiece_15 rfl ?_
        refine j_getfield (ref := "ColourParts$Piece") (C := RX2) (T := TX2) (N := 4) (ci := 3) E 2 dX2_isNearPiece_16 iw_X2_isNearPiece_X2 rfl (by decide) (by decide +kernel) rfl (by first | with_reducible assumption | exact hput_eq _ _ _ | exact (hput_ne _ (by first | assumption | exact Ne.symm (by assumption))).trans (by assumption) | exact (hput_ne _ (by first | assumption | exact Ne.symm (by assumption))).trans (hput_eq _ _ _) | exact (hput_ne _ (by first | assumption | exact Ne.symm (by assumption))).trans ((hput_ne _ (by first | assumption | exact Ne.symm (by assumption))).trans (by assumption)) | exact (hput_ne _ (by first | assumption | exact Ne.symm (by assumption))).trans ((hput_ne _ (by first | assumption | exact Ne.symm (by assumption))).trans (hput_eq _ _ _))) rfl ?_
        refine j_iload E dX2_isNearPiece_19 rfl ?_
        refine j_callV (np := 1) (C := RJx4a65c) (T := TJx4a65c) (N := 3) (ci := 0) E (c_get v L1 hil (by omega)) gX2_isNearPiece_Jx4a65c_get_915e3 rfl ⟨rfl, by decide, by decide, by decide +kernel⟩ dX2_isNearPiece_21 (by omega) (by decide) rfl hq rfl rfl (Nat.le_of_ble_eq_true rfl) (by omega) (by omega) (fun r9 h9 p9 => J.pure p9 ?_)
        refine J.wide (k' := 0) (n' := 0) (by omega) (by omega) ?_
        have hb := L3 i hil
        refine j_cast (C := RX0) (T := TX0) (N := 4) (ci := 1) E dX2_isNearPiece_24 (by decide +kernel) rfl hb ?_
        refine j_aload_n E dX2_isNearPiece_27 rfl ?_
        refine j_getfield (ref := "ColourParts$Piece") (C := RX2) (T := TX2) (N := 4) (ci := 3) E 2 dX2_isNearPiece_28 iw_X2_isNearPiece_X2 rfl (by decide) (by decide +kernel) rfl (by first | with_reducible assumption | exact hput_eq _ _ _ | exact (hput_ne _ (by first | assumption | exact Ne.symm (by assumption))).trans (by assumption) | exact (hput_ne _ (by first | assumption | exact Ne.symm (by assumption))).trans (hput_eq _ _ _) | exact (hput_ne _ (by first | assumption | exact Ne.symm (by assumption))).trans ((hput_ne _ (by first | assumption | exact Ne.symm (by assumption))).trans (by assumption)) | exact (hput_ne _ (by first | assumption | exact Ne.symm (by assumption))).trans ((hput_ne _ (by first | assumption | exact Ne.symm (by assumption))).trans (hput_eq _ _ _))) rfl ?_
        refine j_lload_n E dX2_isNearPiece_31 rfl ?_
        refine j_callV (np := 2) (C := RX0) (T := TX0) (N := 4) (ci := 1) E (c_isNearAny v hd hb M (wb i (by omega)) wc g12) gX2_isNearPiece_X0_isNearAny rfl ⟨rfl, by decide, by decide, by decide +kernel⟩ dX2_isNearPiece_32 (by omega) (by decide) rfl hb rfl rfl (Nat.le_of_ble_eq_true rfl) (by omega) (by omega) (fun r9 h9 p9 => J.pure p9 ?_)
        refine J.wide (k' := 0) (n' := 0) (by omega) (by omega) ?_
        refine j_if_eq E (tgt := 40) dX2_isNearPiece_35 (by decide) (fun c2 => ?_) (fun c2 => ?_)
        ·
          refine j_iinc E dX2_isNearPiece_40 rfl (nI_1 i) (by decide) ?_
          refine j_goto E (tgt := 3) dX2_isNearPiece_43 (by decide) ?_
          refine J.sub [(4, .int (nI (i + 1))), (0, .ref a), (1, .ref a2), (2, .long (lZ (d * d)))] ⟨rfl, rfl, rfl, rfl, trivial⟩ ?_
          refine ih (i + 1) (by omega) (fun j hj => ?_)
          by_cases e : j = i
          · rw [e]; exact bI_z.mp c2
          · exact hno j (by omega)
        ·
          refine j_iconst (x := nI 1) E dX2_isNearPiece_38 (by decide) ?_
          refine J.topi (x' := bI (nearL d bs cs)) ((bI_t ⟨i, by omega, bI_n.mp c2⟩).symm) ?_
          rw [← hQ]
          exact j_iret E dX2_isNearPiece_39 rfl (nb_bI _) (by omega) (by omega) ⟨rfl, rfl⟩
  refine j_iconst (x := nI 0) E dX2_isNearPiece_0 (by decide) ?_
  refine j_istore E dX2_isNearPiece_1 (by decide) ?_
  refine J.sub [(4, .int (nI 0)), (0, .ref a), (1, .ref a2), (2, .long (lZ (d * d)))] ⟨rfl, rfl, rfl, rfl, trivial⟩ ?_
  exact key els.length 0 (by omega) (fun j hj => absurd hj (Nat.not_lt_zero _))
theorem iw_X3_count_X3 : ∀ w ∈ u_ws RX3 TX3 1, w ∈ wsX3_count := by decide +kernel
theorem c_count (v : Nat) (R : PSR E0 h0 h ps row re pg o t bb N) : CM l B E0 D yX3_count wsX3_count (v + 2) 0 0 [.ref ps] h (fun r h1 => r = some (.int (nI pg.length)) ∧ h1 = h) := by
  obtain ⟨R1, L, hL, h12, zl, hl⟩ := R.lst
  refine CM.of (cc := cX3_count) (maxL := 1) (ret := (some .int)) (by decide) rfl (Nat.le_of_ble_eq_true rfl) (fun X E hin => ?_)
  show J X B D 1 _ h 0 0 0 [(0, .ref ps)] []
  generalize hQ : jQ X B D _ _ _ = Q
  refine j_aload_n E dX3_count_0 rfl ?_
  refine j_getfield (ref := "ColourParts$Pieces") (C := RX3) (T := TX3) (N := 1) (ci := 4) E 0 dX3_count_1 iw_X3_count_X3 rfl (by decide) (by decide +kernel) rfl (by first | with_reducible assumption | exact hput_eq _ _ _ | exact (hput_ne _ (by first | assumption | exact Ne.symm (by assumption))).trans (by assumption) | exact (hput_ne _ (by first | assumption | exact Ne.symm (by assumption))).trans (hput_eq _ _ _) | exact (hput_ne _ (by first | assumption | exact Ne.symm (by assumption))).trans ((hput_ne _ (by first | assumption | exact Ne.symm (by assumption))).trans (by assumption)) | exact (hput_ne _ (by first | assumption | exact Ne.symm (by assumption))).trans ((hput_ne _ (by first | assumption | exact Ne.symm (by assumption))).trans (hput_eq _ _ _))) rfl ?_
  refine j_callV (np := 0) (C := RJx4a65c) (T := TJx4a65c) (N := 3) (ci := 0) E (c_size v L) gX3_count_Jx4a65c_size_8abf5 rfl ⟨rfl, by decide, by decide, by decide +kernel⟩ dX3_count_4 (by omega) (by decide) rfl hl rfl rfl (Nat.le_of_ble_eq_true rfl) (by omega) (by omega) (fun r9 h9 p9 => J.pure p9 ?_)
  rw [hL]
  refine J.wide (k' := 0) (n' := 0) (by omega) (by omega) ?_
  rw [← hQ]
  exact j_iret E dX3_count_7 rfl rfl (by omega) (by omega) ⟨rfl, rfl⟩
theorem iw_X3_owner_X2 : ∀ w ∈ u_ws RX2 TX2 4, w ∈ wsX3_owner := by decide +kernel
theorem iw_X3_owner_X3 : ∀ w ∈ u_ws RX3 TX3 1, w ∈ wsX3_owner := by decide +kernel
theorem c_owner (v : Nat) (R : PSR E0 h0 h ps row re pg o t bb N) {p : Nat} (hp : p < pg.length) : CM l B E0 D yX3_owner wsX3_owner (v + 4) 0 0 [.ref ps, .int (nI p)] h (fun r h1 => r = some (.int (nI (o p))) ∧ h1 = h) := by
  obtain ⟨R1, L, hL, h12, zl, hl⟩ := R.lst
  have P1 := (R.pc hp).1
  unfold pcF at P1
  refine CM.of (cc := cX3_owner) (maxL := 2) (ret := (some .int)) (by decide) rfl (Nat.le_of_ble_eq_true rfl) (fun X E hin => ?_)
  show J X B D 2 _ h 0 0 0 [(0, .ref ps), (1, .int (nI p))] []
  generalize hQ : jQ X B D _ _ _ = Q
  refine j_iload_n E dX3_owner_0 rfl ?_
  refine j_if_lt E (tgt := 15) dX3_owner_1 (by decide) (fun c1 => ?_) (fun c1 => ?_)
  · exact absurd c1 (nI_pos (by omega))
  ·
    refine j_iload_n E dX3_owner_4 rfl ?_
    refine j_aload_n E dX3_owner_5 rfl ?_
    refine j_getfield (ref := "ColourParts$Pieces") (C := RX3) (T := TX3) (N := 1) (ci := 4) E 0 dX3_owner_6 iw_X3_owner_X3 rfl (by decide) (by decide +kernel) rfl (by first | with_reducible assumption | exact hput_eq _ _ _ | exact (hput_ne _ (by first | assumption | exact Ne.symm (by assumption))).trans (by assumption) | exact (hput_ne _ (by first | assumption | exact Ne.symm (by assumption))).trans (hput_eq _ _ _) | exact (hput_ne _ (by first | assumption | exact Ne.symm (by assumption))).trans ((hput_ne _ (by first | assumption | exact Ne.symm (by assumption))).trans (by assumption)) | exact (hput_ne _ (by first | assumption | exact Ne.symm (by assumption))).trans ((hput_ne _ (by first | assumption | exact Ne.symm (by assumption))).trans (hput_eq _ _ _))) rfl ?_
    refine j_callV (np := 0) (C := RJx4a65c) (T := TJx4a65c) (N := 3) (ci := 0) E (c_size (v + 2) L) gX3_owner_Jx4a65c_size_8abf5 rfl ⟨rfl, by decide, by decide, by decide +kernel⟩ dX3_owner_9 (by omega) (by decide) rfl hl rfl rfl (Nat.le_of_ble_eq_true rfl) (by omega) (by omega) (fun r9 h9 p9 => J.pure p9 ?_)
    rw [hL]
    refine J.wide (k' := 0) (n' := 0) (by omega) (by omega) ?_
    refine j_icmp_lt E (tgt := 19) dX3_owner_12 (by decide) (fun c2 => ?_) (fun c2 => ?_)
    ·
      refine j_aload_n E dX3_owner_19 rfl ?_
      refine j_getfield (ref := "ColourParts$Pieces") (C := RX3) (T := TX3) (N := 1) (ci := 4) E 0 dX3_owner_20 iw_X3_owner_X3 rfl (by decide) (by decide +kernel) rfl (by first | with_reducible assumption | exact hput_eq _ _ _ | exact (hput_ne _ (by first | assumption | exact Ne.symm (by assumption))).trans (by assumption) | exact (hput_ne _ (by first | assumption | exact Ne.symm (by assumption))).trans (hput_eq _ _ _) | exact (hput_ne _ (by first | assumption | exact Ne.symm (by assumption))).trans ((hput_ne _ (by first | assumption | exact Ne.symm (by assumption))).trans (by assumption)) | exact (hput_ne _ (by first | assumption | exact Ne.symm (by assumption))).trans ((hput_ne _ (by first | assumption | exact Ne.symm (by assumption))).trans (hput_eq _ _ _))) rfl ?_
      refine j_iload_n E dX3_owner_23 rfl ?_
      refine j_callV (np := 1) (C := RJx4a65c) (T := TJx4a65c) (N := 3) (ci := 0) E (c_get v L (show p < (pg.map (·.1)).length by omega) (by omega)) gX3_owner_Jx4a65c_get_915e3 rfl ⟨rfl, by decide, by decide, by decide +kernel⟩ dX3_owner_24 (by omega) (by decide) rfl hl rfl rfl (Nat.le_of_ble_eq_true rfl) (by omega) (by omega) (fun r9 h9 p9 => J.pure p9 ?_)
      rw [R.el]
      refine J.wide (k' := 0) (n' := 0) (by omega) (by omega) ?_
      refine j_cast (C := RX2) (T := TX2) (N := 4) (ci := 3) E dX3_owner_27 (by decide +kernel) rfl P1 ?_
      refine j_getfield (ref := "ColourParts$Piece") (C := RX2) (T := TX2) (N := 4) (ci := 3) E 0 dX3_owner_30 iw_X3_owner_X2 rfl (by decide) (by decide +kernel) rfl P1 rfl ?_
      rw [← hQ]
      exact j_iret E dX3_owner_33 rfl rfl (by omega) (by omega) ⟨rfl, rfl⟩
    · exact absurd (nI_lt hp (by omega)) c2
end C15
