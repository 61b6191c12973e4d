/-! pieces: more of what is read, the row's growth -/
section C16
variable {l : Launch} {B E0 : Nat} {D : va_G} {h h0 : HM} {d : Int} {ps row re : Nat} {pg : List PG} {o : Nat → Nat} {t : Nat → Int} {bb : Nat → List BB} {N : Nat → Nat → Prop}
theorem iw_X3_told_X2 : ∀ w ∈ u_ws RX2 TX2 4, w ∈ wsX3_told := by decide +kernel
theorem iw_X3_told_X3 : ∀ w ∈ u_ws RX3 TX3 1, w ∈ wsX3_told := by decide +kernel
theorem c_told (v : Nat) (R : PSR E0 h0 h ps row re pg o t bb N) {p : Nat} (hp : p < pg.length) : CM l B E0 D yX3_told wsX3_told (v + 4) 0 0 [.ref ps, .int (nI p)] h (fun r h1 => r = some (.int (iZ (t p))) ∧ h1 = h) := by
  obtain ⟨R1, L, hL, h12, zl, hl⟩ := R.lst
  have P1 := (R.pc hp).1
  unfold pcF at P1
  refine CM.of (cc := cX3_told) (maxL := 2) (ret := (some .int)) (by decide) rfl (Nat.le_of_ble_eq_true rfl) (fun X E hin => ?_)
  show J X B D 2 _ h 0 0 0 [(0, .ref ps), (1, .int (nI p))] []
  generalize hQ : jQ X B D _ _ _ = Q
  refine j_iload_n E dX3_told_0 rfl ?_
  refine j_if_lt E (tgt := 15) dX3_told_1 (by decide) (fun c1 => ?_) (fun c1 => ?_)
  · exact absurd c1 (nI_pos (by omega))
  ·
    refine j_iload_n E dX3_told_4 rfl ?_
    refine j_aload_n E dX3_told_5 rfl ?_
    refine j_getfield (ref := "ColourParts$Pieces") (C := RX3) (T := TX3) (N := 1) (ci := 4) E 0 dX3_told_6 iw_X3_told_X3 rfl (by decide) (by decide +kernel) rfl (by first | with_reducible assumption | exact hput_eq _ _ _ | exact (hput_ne _ (by first | assumption | exact Ne.symm (by assumption))).trans (by assumption) | exact (hput_ne _ (by first | assumption | exact Ne.symm (by assumption))).trans (hput_eq _ _ _) | exact (hput_ne _ (by first | assumption | exact Ne.symm (by assumption))).trans ((hput_ne _ (by first | assumption | exact Ne.symm (by assumption))).trans (by assumption)) | exact (hput_ne _ (by first | assumption | exact Ne.symm (by assumption))).trans ((hput_ne _ (by first | assumption | exact Ne.symm (by assumption))).trans (hput_eq _ _ _))) rfl ?_
    refine j_callV (np := 0) (C := RJx4a65c) (T := TJx4a65c) (N := 3) (ci := 0) E (c_size (v + 2) L) gX3_told_Jx4a65c_size_8abf5 rfl ⟨rfl, by decide, by decide, by decide +kernel⟩ dX3_told_9 (by omega) (by decide) rfl hl rfl rfl (Nat.le_of_ble_eq_true rfl) (by omega) (by omega) (fun r9 h9 p9 => J.pure p9 ?_)
    rw [hL]
    refine J.wide (k' := 0) (n' := 0) (by omega) (by omega) ?_
    refine j_icmp_lt E (tgt := 19) dX3_told_12 (by decide) (fun c2 => ?_) (fun c2 => ?_)
    ·
      refine j_aload_n E dX3_told_19 rfl ?_
      refine j_getfield (ref := "ColourParts$Pieces") (C := RX3) (T := TX3) (N := 1) (ci := 4) E 0 dX3_told_20 iw_X3_told_X3 rfl (by decide) (by decide +kernel) rfl (by first | with_reducible assumption | exact hput_eq _ _ _ | exact (hput_ne _ (by first | assumption | exact Ne.symm (by assumption))).trans (by assumption) | exact (hput_ne _ (by first | assumption | exact Ne.symm (by assumption))).trans (hput_eq _ _ _) | exact (hput_ne _ (by first | assumption | exact Ne.symm (by assumption))).trans ((hput_ne _ (by first | assumption | exact Ne.symm (by assumption))).trans (by assumption)) | exact (hput_ne _ (by first | assumption | exact Ne.symm (by assumption))).trans ((hput_ne _ (by first | assumption | exact Ne.symm (by assumption))).trans (hput_eq _ _ _))) rfl ?_
      refine j_iload_n E dX3_told_23 rfl ?_
      refine j_callV (np := 1) (C := RJx4a65c) (T := TJx4a65c) (N := 3) (ci := 0) E (c_get v L (show p < (pg.map (·.1)).length by omega) (by omega)) gX3_told_Jx4a65c_get_915e3 rfl ⟨rfl, by decide, by decide, by decide +kernel⟩ dX3_told_24 (by omega) (by decide) rfl hl rfl rfl (Nat.le_of_ble_eq_true rfl) (by omega) (by omega) (fun r9 h9 p9 => J.pure p9 ?_)
      rw [R.el]
      refine J.wide (k' := 0) (n' := 0) (by omega) (by omega) ?_
      refine j_cast (C := RX2) (T := TX2) (N := 4) (ci := 3) E dX3_told_27 (by decide +kernel) rfl P1 ?_
      refine j_getfield (ref := "ColourParts$Piece") (C := RX2) (T := TX2) (N := 4) (ci := 3) E 1 dX3_told_30 iw_X3_told_X2 rfl (by decide) (by decide +kernel) rfl P1 rfl ?_
      rw [← hQ]
      exact j_iret E dX3_told_33 rfl rfl (by omega) (by omega) ⟨rfl, rfl⟩
    · exact absurd (nI_lt hp (by omega)) c2
theorem iw_X3_nearPieces_X2 : ∀ w ∈ u_ws RX2 TX2 4, w ∈ wsX3_nearPieces := by decide +kernel
theorem iw_X3_nearPieces_X3 : ∀ w ∈ u_ws RX3 TX3 1, w ∈ wsX3_nearPieces := by decide +kernel
theorem c_nearPieces (v : Nat) (R : PSR E0 h0 h ps row re pg o t bb N) {p : Nat} (hp : p < pg.length) : CM l B E0 D yX3_nearPieces wsX3_nearPieces (v + 4) 0 0 [.ref ps, .int (nI p)] h (fun r h1 => r = some (.int (bS (N p))) ∧ h1 = h) := by
  obtain ⟨R1, L, hL, h12, zl, hl⟩ := R.lst
  have P1 := (R.pc hp).1
  unfold pcF at P1
  refine CM.of (cc := cX3_nearPieces) (maxL := 2) (ret := (some .int)) (by decide) rfl (Nat.le_of_ble_eq_true rfl) (fun X E hin => ?_)
  show J X B D 2 _ h 0 0 0 [(0, .ref ps), (1, .int (nI p))] []
  generalize hQ : jQ X B D _ _ _ = Q
  refine j_iload_n E dX3_nearPieces_0 rfl ?_
  refine j_if_lt E (tgt := 15) dX3_nearPieces_1 (by decide) (fun c1 => ?_) (fun c1 => ?_)
  · exact absurd c1 (nI_pos (by omega))
  ·
    refine j_iload_n E dX3_nearPieces_4 rfl ?_
    refine j_aload_n E dX3_nearPieces_5 rfl ?_
    refine j_getfield (ref := "ColourParts$Pieces") (C := RX3) (T := TX3) (N := 1) (ci := 4) E 0 dX3_nearPieces_6 iw_X3_nearPieces_X3 rfl (by decide) (by decide +kernel) rfl (by first | with_reducible assumption | exact hput_eq _ _ _ | exact (hput_ne _ (by first | assumption | exact Ne.symm (by assumption))).trans (by assumption) | exact (hput_ne _ (by first | assumption | exact Ne.symm (by assumption))).trans (hput_eq _ _ _) | exact (hput_ne _ (by first | assumption | exact Ne.symm (by assumption))).trans ((hput_ne _ (by first | assumption | exact Ne.symm (by assumption))).trans (by assumption)) | exact (hput_ne _ (by first | assumption | exact Ne.symm (by assumption))).trans ((hput_ne _ (by first | assumption | exact Ne.symm (by assumption))).trans (hput_eq _ _ _))) rfl ?_
    refine j_callV (np := 0) (C := RJx4a65c) (T := TJx4a65c) (N := 3) (ci := 0) E (c_size (v + 2) L) gX3_nearPieces_Jx4a65c_size_8abf5 rfl ⟨rfl, by decide, by decide, by decide +kernel⟩ dX3_nearPieces_9 (by omega) (by decide) rfl hl rfl rfl (Nat.le_of_ble_eq_true rfl) (by omega) (by omega) (fun r9 h9 p9 => J.pure p9 ?_)
    rw [hL]
    refine J.wide (k' := 0) (n' := 0) (by omega) (by omega) ?_
    refine j_icmp_lt E (tgt := 19) dX3_nearPieces_12 (by decide) (fun c2 => ?_) (fun c2 => ?_)
    ·
      refine j_aload_n E dX3_nearPieces_19 rfl ?_
      refine j_getfield (ref := "ColourParts$Pieces") (C := RX3) (T := TX3) (N := 1) (ci := 4) E 0 dX3_nearPieces_20 iw_X3_nearPieces_X3 rfl (by decide) (by decide +kernel) rfl (by first | with_reducible assumption | exact hput_eq _ _ _ | exact (hput_ne _ (by first | assumption | exact Ne.symm (by assumption))).trans (by assumption) | exact (hput_ne _ (by first | assumption | exact Ne.symm (by assumption))).trans (hput_eq _ _ _) | exact (hput_ne _ (by first | assumption | exact Ne.symm (by assumption))).trans ((hput_ne _ (by first | assumption | exact Ne.symm (by assumption))).trans (by assumption)) | exact (hput_ne _ (by first | assumption | exact Ne.symm (by assumption))).trans ((hput_ne _ (by first | assumption | exact Ne.symm (by assumption))).trans (hput_eq _ _ _))) rfl ?_
      refine j_iload_n E dX3_nearPieces_23 rfl ?_
      refine j_callV (np := 1) (C := RJx4a65c) (T := TJx4a65c) (N := 3) (ci := 0) E (c_get v L (show p < (pg.map (·.1)).length by omega) (by omega)) gX3_nearPieces_Jx4a65c_get_915e3 rfl ⟨rfl, by decide, by decide, by decide +kernel⟩ dX3_nearPieces_24 (by omega) (by decide) rfl hl rfl rfl (Nat.le_of_ble_eq_true rfl) (by omega) (by omega) (fun r9 h9 p9 => J.pure p9 ?_)
      rw [R.el]
      refine J.wide (k' := 0) (n' := 0) (by omega) (by omega) ?_
      refine j_cast (C := RX2) (T := TX2) (N := 4) (ci := 3) E dX3_nearPieces_27 (by decide +kernel) rfl P1 ?_
      refine j_getfield (ref := "ColourParts$Piece") (C := RX2) (T := TX2) (N := 4) (ci := 3) E 3 dX3_nearPieces_30 iw_X3_nearPieces_X2 rfl (by decide) (by decide +kernel) rfl P1 rfl ?_
      rw [← hQ]
      exact j_iret E dX3_nearPieces_33 rfl rfl (by omega) (by omega) ⟨rfl, rfl⟩
    · exact absurd (nI_lt hp (by omega)) c2
theorem iw_X3_areas_X3 : ∀ w ∈ u_ws RX3 TX3 1, w ∈ wsX3_areas := by decide +kernel
theorem c_areas (v : Nat) (R : PSR E0 h0 h ps row re pg o t bb N) {p : Nat} (hp : p < pg.length) (hb : (bb p).length < 12) : CM l B E0 D yX3_areas wsX3_areas (v + 5) 0 0 [.ref ps, .int (nI p)] h (fun r h1 => r = some (.long (lZ (areaL (bb p) (bb p).length))) ∧ h1 = h) := by
  obtain ⟨R1, L, hL, h12, zl, hl⟩ := R.lst
  obtain ⟨P1, P2⟩ := R.pc hp
  unfold pcF at P1
  refine CM.of (cc := cX3_areas) (maxL := 2) (ret := (some .long)) (by decide) rfl (Nat.le_of_ble_eq_true rfl) (fun X E hin => ?_)
  show J X B D 2 _ h 0 0 0 [(0, .ref ps), (1, .int (nI p))] []
  generalize hQ : jQ X B D _ _ _ = Q
  refine j_iload_n E dX3_areas_0 rfl ?_
  refine j_if_lt E (tgt := 15) dX3_areas_1 (by decide) (fun c1 => ?_) (fun c1 => ?_)
  · exact absurd c1 (nI_pos (by omega))
  ·
    refine j_iload_n E dX3_areas_4 rfl ?_
    refine j_aload_n E dX3_areas_5 rfl ?_
    refine j_getfield (ref := "ColourParts$Pieces") (C := RX3) (T := TX3) (N := 1) (ci := 4) E 0 dX3_areas_6 iw_X3_areas_X3 rfl (by decide) (by decide +kernel) rfl (by first | with_reducible assumption | exact hput_eq _ _ _ | exact (hput_ne _ (by first | assumption | exact Ne.symm (by assumption))).trans (by assumption) | exact (hput_ne _ (by first | assumption | exact Ne.symm (by assumption))).trans (hput_eq _ _ _) | exact (hput_ne _ (by first | assumption | exact Ne.symm (by assumption))).trans ((hput_ne _ (by first | assumption | exact Ne.symm (by assumption))).trans (by assumption)) | exact (hput_ne _ (by first | assumption | exact Ne.symm (by assumption))).trans ((hput_ne _ (by first | assumption | exact Ne.symm (by assumption))).trans (hput_eq _ _ _))) rfl ?_
    refine j_callV (np := 0) (C := RJx4a65c) (T := TJx4a65c) (N := 3) (ci := 0) E (c_size (v + 3) L) gX3_areas_Jx4a65c_size_8abf5 rfl ⟨rfl, by decide, by decide, by decide +kernel⟩ dX3_areas_9 (by omega) (by decide) rfl hl rfl rfl (Nat.le_of_ble_eq_true rfl) (by omega) (by omega) (fun r9 h9 p9 => J.pure p9 ?_)
    rw [hL]
    refine J.wide (k' := 0) (n' := 0) (by omega) (by omega) ?_
    refine j_icmp_lt E (tgt := 19) dX3_areas_12 (by decide) (fun c2 => ?_) (fun c2 => ?_)
    ·
      refine j_aload_n E dX3_areas_19 rfl ?_
      refine j_getfield (ref := "ColourParts$Pieces") (C := RX3) (T := TX3) (N := 1) (ci := 4) E 0 dX3_areas_20 iw_X3_areas_X3 rfl (by decide) (by decide +kernel) rfl (by first | with_reducible assumption | exact hput_eq _ _ _ | exact (hput_ne _ (by first | assumption | exact Ne.symm (by assumption))).trans (by assumption) | exact (hput_ne _ (by first | assumption | exact Ne.symm (by assumption))).trans (hput_eq _ _ _) | exact (hput_ne _ (by first | assumption | exact Ne.symm (by assumption))).trans ((hput_ne _ (by first | assumption | exact Ne.symm (by assumption))).trans (by assumption)) | exact (hput_ne _ (by first | assumption | exact Ne.symm (by assumption))).trans ((hput_ne _ (by first | assumption | exact Ne.symm (by assumption))).trans (hput_eq _ _ _))) rfl ?_
      refine j_iload_n E dX3_areas_23 rfl ?_
      refine j_callV (np := 1) (C := RJx4a65c) (T := TJx4a65c) (N := 3) (ci := 0) E (c_get (v + 1) L (show p < (pg.map (·.1)).length by omega) (by omega)) gX3_areas_Jx4a65c_get_915e3 rfl ⟨rfl, by decide, by decide, by decide +kernel⟩ dX3_areas_24 (by omega) (by decide) rfl hl rfl rfl (Nat.le_of_ble_eq_true rfl) (by omega) (by omega) (fun r9 h9 p9 => J.pure p9 ?_)
      rw [R.el]
      refine J.wide (k' := 0) (n' := 0) (by omega) (by omega) ?_
      refine j_cast (C := RX2) (T := TX2) (N := 4) (ci := 3) E dX3_areas_27 (by decide +kernel) rfl P1 ?_
      refine j_callV (np := 0) (C := RX2) (T := TX2) (N := 4) (ci := 3) E (c_pieceAreas v P1 P2 hb) gX3_areas_X2_areas rfl ⟨rfl, by decide, by decide, by decide +kernel⟩ dX3_areas_30 (by omega) (by decide) rfl P1 rfl rfl (Nat.le_of_ble_eq_true rfl) (by omega) (by omega) (fun r9 h9 p9 => J.pure p9 ?_)
      refine J.wide (k' := 0) (n' := 0) (by omega) (by omega) ?_
      rw [← hQ]
      exact j_lret E dX3_areas_33 rfl (by omega) (by omega) ⟨rfl, rfl⟩
    · exact absurd (nI_lt hp (by omega)) c2
theorem c_isAfterStitch (v : Nat) (R : PSR E0 h0 h ps row re pg o t bb N) {p : Nat} (hp : p < pg.length) (ho : ∀ p, p < pg.length → o p < 100) : CM l B E0 D yX3_isAfterStitch wsX3_isAfterStitch (v + 5) 0 0 [.ref ps, .int (nI p)] h (fun r h1 => r = some (.int (bI (0 < p ∧ o p = o (p - 1)))) ∧ h1 = h) := by
  obtain ⟨R1, L, hL, h12, zl, hl⟩ := R.lst
  refine CM.of (cc := cX3_isAfterStitch) (maxL := 2) (ret := (some .boolean)) (by decide) rfl (Nat.le_of_ble_eq_true rfl) (fun X E hin => ?_)
  show J X B D 2 _ h 0 0 0 [(0, .ref ps), (1, .int (nI p))] []
  generalize hQ : jQ X B D _ _ _ = Q
  refine j_iload_n E dX3_isAfterStitch_0 rfl ?_
  refine j_if_le E (tgt := 23) dX3_isAfterStitch_1 (by decide) (fun c1 => ?_) (fun c1 => ?_)
  · have p0 : ¬ 0 < p := fun z => Int32.not_le.mpr (nI_lt z (by omega)) c1
    refine j_iconst (x := nI 0) E dX3_isAfterStitch_23 (by decide) ?_
    refine J.topi (x' := bI (0 < p ∧ o p = o (p - 1))) ((bI_f (fun z => p0 z.1)).symm) ?_
    rw [← hQ]
    exact j_iret E dX3_isAfterStitch_24 rfl (nb_bI _) (by omega) (by omega) ⟨rfl, rfl⟩
  · obtain ⟨q, rfl⟩ : ∃ q, p = q + 1 := ⟨p - 1, by
      have : p ≠ 0 := fun z => c1 (by rw [z]; exact Int32.le_refl _)
      omega⟩
    have o1 := ho (q + 1) hp
    have o2 := ho q (by omega)
    refine j_aload_n E dX3_isAfterStitch_4 rfl ?_
    refine j_iload_n E dX3_isAfterStitch_5 rfl ?_
    refine j_callV (np := 1) (C := RX3) (T := TX3) (N := 1) (ci := 4) E (c_owner v R hp) gX3_isAfterStitch_X3_owner rfl ⟨rfl, by decide, by decide, by decide +kernel⟩ dX3_isAfterStitch_6 (by omega) (by decide) rfl R1 rfl rfl (Nat.le_of_ble_eq_true rfl) (by omega) (by omega) (fun r9 h9 p9 => J.pure p9 ?_)
    refine J.wide (k' := 0) (n' := 0) (by omega) (by omega) ?_
    refine j_aload_n E dX3_isAfterStitch_9 rfl ?_
    refine j_iload_n E dX3_isAfterStitch_10 rfl ?_
    refine j_iconst (x := nI 1) E dX3_isAfterStitch_11 (by decide) ?_
    refine j_isub E dX3_isAfterStitch_12 ?_
    refine J.topi (x' := nI q) (nI_pred q) ?_
    refine j_callV (np := 1) (C := RX3) (T := TX3) (N := 1) (ci := 4) E (c_owner v R (show q < pg.length by omega)) gX3_isAfterStitch_X3_owner rfl ⟨rfl, by decide, by decide, by decide +kernel⟩ dX3_isAfterStitch_13 (by omega) (by decide) rfl R1 rfl rfl (Nat.le_of_ble_eq_true rfl) (by omega) (by omega) (fun r9 h9 p9 => J.pure p9 ?_)
    refine J.wide (k' := 0) (n' := 0) (by omega) (by omega) ?_
    refine j_icmp_ne E (tgt := 23) dX3_isAfterStitch_16 (by decide) (fun c2 => ?_) (fun c2 => ?_)
    ·
      refine j_iconst (x := nI 0) E dX3_isAfterStitch_23 (by decide) ?_
      refine J.topi (x' := bI (0 < q + 1 ∧ o (q + 1) = o (q + 1 - 1))) ((bI_f (fun z => c2 (congrArg nI z.2))).symm) ?_
      rw [← hQ]
      exact j_iret E dX3_isAfterStitch_24 rfl (nb_bI _) (by omega) (by omega) ⟨rfl, rfl⟩
    ·
      refine j_iconst (x := nI 1) E dX3_isAfterStitch_19 (by decide) ?_
      refine J.topi (x' := bI (0 < q + 1 ∧ o (q + 1) = o (q + 1 - 1))) ((bI_t ⟨Nat.succ_pos _, (nI_eq (show o (q + 1) < 2 ^ 31 by omega) (show o q < 2 ^ 31 by omega)).mp c2⟩).symm) ?_
      refine j_goto E (tgt := 24) dX3_isAfterStitch_20 (by decide) ?_
      rw [← hQ]
      exact j_iret E dX3_isAfterStitch_24 rfl (nb_bI _) (by omega) (by omega) ⟨rfl, rfl⟩
theorem iw_X3_init_Jx4a65c : ∀ w ∈ u_ws RJx4a65c TJx4a65c 3, w ∈ wsX3_init := by decide +kernel
theorem iw_X3_init_X3 : ∀ w ∈ u_ws RX3 TX3 1, w ∈ wsX3_init := by decide +kernel
theorem c_piecesInit (v : Nat) {q : Nat} {f0 : Nat → Option Nat} (hE : h E0 = some (hQ 0 f0)) (hq : h q = some (hO 4 [.null])) : CM l B E0 D yX3_init wsX3_init (v + 4) 1 3 [.ref q] h (fun r h1 => r = none ∧ ∃ row, h row = none ∧ h1 q = some (hO 4 [.ref row]) ∧ AL E0 h1 row E0 [] ∧ FR h h1 (fun z => z = q)) := by
  refine CM.of (cc := cX3_init) (maxL := 1) (ret := none) (by decide) rfl (Nat.le_of_ble_eq_true rfl) (fun X E hin => ?_)
  show J X B D 1 _ h 0 0 0 [(0, .ref q)] []
  generalize hQ : jQ X B D _ _ _ = Q
  refine j_aload_n E dX3_init_0 rfl ?_
  refine j_objInit E dX3_init_1 (by decide +kernel) (by decide +kernel) (by decide +kernel) (by omega) (Nat.le_of_ble_eq_true rfl) ?_
  refine j_aload_n E dX3_init_4 rfl ?_
  refine j_new (C := RJx4a65c) (T := TJx4a65c) (N := 3) (ci := 0) E [.int 0, .null, .int 0] dX3_init_5 iw_X3_init_Jx4a65c tyJx4a65c tyJx4a65c_ok (by decide +kernel) (by decide +kernel) (by decide +kernel) rfl (by decide) (by omega) (by omega) (fun row nrow brow => ?_)
  have n1 : q ≠ row := hm_neN hq nrow
  have n3 : E0 ≠ row := hm_neN hE nrow
  have n4 : q ≠ E0 := hm_ne hq hE (by intro z; cases z)
  refine j_dup E dX3_init_8 rfl ?_
  refine j_callI (np := 0) E (c_alInit v (m := 0) (x := .null) (y := .int 0) (hput_eq _ _ _)) gX3_init_Jx4a65c_init_da8c8 rfl (by decide +kernel) (by decide +kernel) (by decide +kernel) rfl ⟨by decide, by decide, by decide +kernel⟩ dX3_init_9 (by omega) (by decide) rfl rfl (Nat.le_of_ble_eq_true rfl) (by omega) (by omega) (fun r h1 p => ?_)
  obtain ⟨rfl, rfl⟩ := p
  rw [hput_hput]
  refine J.wide (k' := 1) (n' := 3) (by omega) (by omega) ?_
  refine j_putfin (C := RX3) (T := TX3) (N := 1) (ci := 4) E 0 dX3_init_12 iw_X3_init_X3 tyX3 tyX3_ok nmX3 rfl (by decide) (by decide +kernel) rfl rfl hin rfl rfl rfl (by first | with_reducible assumption | exact hput_eq _ _ _ | exact (hput_ne _ (by first | assumption | exact Ne.symm (by assumption))).trans (by assumption) | exact (hput_ne _ (by first | assumption | exact Ne.symm (by assumption))).trans (hput_eq _ _ _) | exact (hput_ne _ (by first | assumption | exact Ne.symm (by assumption))).trans ((hput_ne _ (by first | assumption | exact Ne.symm (by assumption))).trans (by assumption)) | exact (hput_ne _ (by first | assumption | exact Ne.symm (by assumption))).trans ((hput_ne _ (by first | assumption | exact Ne.symm (by assumption))).trans (hput_eq _ _ _))) (Nat.le_of_ble_eq_true rfl) ?_
  rw [← hQ]
  refine j_vret E dX3_init_15 rfl (by omega) (by omega) ⟨rfl, row, nrow, hput_eq _ _ _, ⟨0, 0, f0, ?_, ?_, Nat.le_refl _, Or.inl ⟨rfl, rfl⟩, fun i hi => absurd hi (Nat.not_lt_zero _)⟩, fun z z1 z2 => ?_⟩
  · rw [hput_ne _ n1.symm, hput_eq]; rfl
  · rw [hput_ne _ n4.symm, hput_ne _ n3]; exact hE
  · rw [hput_ne _ z2, hput_ne _ (fun e => z1 (by rw [e]; exact nrow))]
end C16
