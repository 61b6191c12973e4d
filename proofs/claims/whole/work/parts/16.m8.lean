/-! what is asked of a kept colouring and of the ring: the reference -/
noncomputable def cdColour (ss : List SH) (z : Int32) : Int32 := cI (isx z ss.length) 0 1
def usedOK (kp : Option KPs) (j K : Nat) : Prop := ∃ ps f, kp = some ps ∧ isF ps j f ∧ f + K + 1 < ps.length ∧ kS ps (f + K + 1) = j
noncomputable def cdUsed (ss : List SH) (kp : Option KPs) (z k : Int32) : Int32 := cI (∃ j K, j < ss.length ∧ z = nI j ∧ K < 2 ^ 31 ∧ k = nI K ∧ usedOK kp j K) 0 1
section M8
variable {l : Launch} {B E0 : Nat} {D : va_G} {h0 h : HM} {m : Nat} {a : Nat → Nat} {d : Int} {s : Nat → Int32} {I : Nat → Nat → Int32} {G : Nat → Nat → Int64} {ss : List SH} {kp : Option KPs} {rg : List Nat} {cl : Prop}
theorem iw_X7_clear_X7 : ∀ w ∈ u_ws RX7 TX7 27, w ∈ wsX7_clear := by decide +kernel
theorem m_clear (v : Nat) (hM : MR h0 h m a (lZ d) s I G) : CM l B E0 D yX7_clear wsX7_clear (v + 1) 0 0 [.ref m] h (fun r h1 => ∃ s1, MR h0 h1 m a (lZ d) s1 I G ∧ MA [] s1 I G ∧ MK none [] False s1 I G) := by
  refine CM.of (cc := cX7_clear) (maxL := 1) (ret := none) (by decide) rfl (Nat.le_of_ble_eq_true rfl) (fun X E hin => ?_)
  show J X B D 1 _ h 0 0 0 [(0, .ref m)] []
  generalize hQ : jQ X B D _ _ _ = Q
  refine j_aload_n E dX7_clear_0 rfl ?_
  refine j_iconst (x := nI 0) E dX7_clear_1 (by decide) ?_
  refine j_putfield (ref := "ColourPartsModel") (C := RX7) (T := TX7) (N := 27) (ci := 8) E 0 dX7_clear_2 iw_X7_clear_X7 tyX7 tyX7_ok nmX7 rfl (by decide) (by decide +kernel) rfl rfl rfl rfl hM.obj (Nat.le_of_ble_eq_true rfl) ?_
  refine MR.gen (hM.pS 0 _ (by decide) rfl) (fun h hM => ?_)
  refine j_aload_n E dX7_clear_5 rfl ?_
  refine j_iconst (x := nI 0) E dX7_clear_6 (by decide) ?_
  refine j_putfield (ref := "ColourPartsModel") (C := RX7) (T := TX7) (N := 27) (ci := 8) E 2 dX7_clear_7 iw_X7_clear_X7 tyX7 tyX7_ok nmX7 rfl (by decide) (by decide +kernel) rfl rfl rfl rfl hM.obj (Nat.le_of_ble_eq_true rfl) ?_
  refine MR.gen (hM.pS 2 _ (by decide) rfl) (fun h hM => ?_)
  refine j_aload_n E dX7_clear_10 rfl ?_
  refine j_iconst (x := nI 0) E dX7_clear_11 (by decide) ?_
  refine j_putfield (ref := "ColourPartsModel") (C := RX7) (T := TX7) (N := 27) (ci := 8) E 17 dX7_clear_12 iw_X7_clear_X7 tyX7 tyX7_ok nmX7 rfl (by decide) (by decide +kernel) rfl rfl rfl rfl hM.obj (Nat.le_of_ble_eq_true rfl) ?_
  refine MR.gen (hM.pS 17 _ (by decide) rfl) (fun h hM => ?_)
  refine j_aload_n E dX7_clear_15 rfl ?_
  refine j_iconst (x := nI 0) E dX7_clear_16 (by decide) ?_
  refine j_putfield (ref := "ColourPartsModel") (C := RX7) (T := TX7) (N := 27) (ci := 8) E 25 dX7_clear_17 iw_X7_clear_X7 tyX7 tyX7_ok nmX7 rfl (by decide) (by decide +kernel) rfl rfl rfl rfl hM.obj (Nat.le_of_ble_eq_true rfl) ?_
  refine MR.gen (hM.pS 25 _ (by decide) rfl) (fun h hM => ?_)
  refine j_aload_n E dX7_clear_20 rfl ?_
  refine j_iconst (x := nI 0) E dX7_clear_21 (by decide) ?_
  refine j_putfield (ref := "ColourPartsModel") (C := RX7) (T := TX7) (N := 27) (ci := 8) E 26 dX7_clear_22 iw_X7_clear_X7 tyX7 tyX7_ok nmX7 rfl (by decide) (by decide +kernel) rfl rfl rfl rfl hM.obj (Nat.le_of_ble_eq_true rfl) ?_
  refine MR.gen (hM.pS 26 _ (by decide) rfl) (fun h hM => ?_)
  rw [← hQ]
  exact j_vret E dX7_clear_25 rfl (by omega) (by omega) ⟨_, hM, ⟨rfl, fun j hj => absurd hj (Nat.not_lt_zero j)⟩, by rw [bI_f id]; rfl, rfl, fun j hj => absurd hj (Nat.not_lt_zero j), fun _ => rfl, fun ps e => by cases e⟩
theorem iw_X7_length_X7 : ∀ w ∈ u_ws RX7 TX7 27, w ∈ wsX7_length := by decide +kernel
theorem m_length (v : Nat) (hM : MR h0 h m a (lZ d) s I G) (K : MK kp rg cl s I G) : CM l B E0 D yX7_length wsX7_length (v + 1) 0 0 [.ref m] h (fun r h1 => MR h0 h1 m a (lZ d) (uA s 0 0) I G ∧ r = some (.int (nI rg.length))) := by
  refine CM.of (cc := cX7_length) (maxL := 1) (ret := (some .int)) (by decide) rfl (Nat.le_of_ble_eq_true rfl) (fun X E hin => ?_)
  show J X B D 1 _ h 0 0 0 [(0, .ref m)] []
  generalize hQ : jQ X B D _ _ _ = Q
  refine j_aload_n E dX7_length_0 rfl ?_
  refine j_iconst (x := nI 0) E dX7_length_1 (by decide) ?_
  refine j_putfield (ref := "ColourPartsModel") (C := RX7) (T := TX7) (N := 27) (ci := 8) E 0 dX7_length_2 iw_X7_length_X7 tyX7 tyX7_ok nmX7 rfl (by decide) (by decide +kernel) rfl rfl rfl rfl hM.obj (Nat.le_of_ble_eq_true rfl) ?_
  refine MR.gen (hM.pS 0 _ (by decide) rfl) (fun h hM => ?_)
  refine j_aload_n E dX7_length_5 rfl ?_
  refine j_getfield (ref := "ColourPartsModel") (C := RX7) (T := TX7) (N := 27) (ci := 8) E 25 dX7_length_6 iw_X7_length_X7 rfl (by decide) (by decide +kernel) rfl hM.obj rfl ?_
  refine J.topi (x' := nI rg.length) (K.2.1) ?_
  rw [← hQ]
  exact j_iret E dX7_length_9 rfl rfl (by omega) (by omega) ⟨hM, rfl⟩
theorem iw_X7_closed_X7 : ∀ w ∈ u_ws RX7 TX7 27, w ∈ wsX7_closed := by decide +kernel
theorem m_closed (v : Nat) (hM : MR h0 h m a (lZ d) s I G) (K : MK kp rg cl s I G) : CM l B E0 D yX7_closed wsX7_closed (v + 1) 0 0 [.ref m] h (fun r h1 => MR h0 h1 m a (lZ d) (uA s 0 0) I G ∧ r = some (.int (bI cl))) := by
  refine CM.of (cc := cX7_closed) (maxL := 1) (ret := (some .boolean)) (by decide) rfl (Nat.le_of_ble_eq_true rfl) (fun X E hin => ?_)
  show J X B D 1 _ h 0 0 0 [(0, .ref m)] []
  generalize hQ : jQ X B D _ _ _ = Q
  refine j_aload_n E dX7_closed_0 rfl ?_
  refine j_iconst (x := nI 0) E dX7_closed_1 (by decide) ?_
  refine j_putfield (ref := "ColourPartsModel") (C := RX7) (T := TX7) (N := 27) (ci := 8) E 0 dX7_closed_2 iw_X7_closed_X7 tyX7 tyX7_ok nmX7 rfl (by decide) (by decide +kernel) rfl rfl rfl rfl hM.obj (Nat.le_of_ble_eq_true rfl) ?_
  refine MR.gen (hM.pS 0 _ (by decide) rfl) (fun h hM => ?_)
  refine j_aload_n E dX7_closed_5 rfl ?_
  refine j_getfield (ref := "ColourPartsModel") (C := RX7) (T := TX7) (N := 27) (ci := 8) E 26 dX7_closed_6 iw_X7_closed_X7 rfl (by decide) (by decide +kernel) rfl hM.obj rfl ?_
  refine J.topi (x' := bI cl) (K.1) ?_
  rw [← hQ]
  exact j_iret E dX7_closed_9 rfl (nb_bI _) (by omega) (by omega) ⟨hM, rfl⟩
theorem iw_X7_stitches_X7 : ∀ w ∈ u_ws RX7 TX7 27, w ∈ wsX7_stitches := by decide +kernel
theorem m_stitches (v : Nat) (hM : MR h0 h m a (lZ d) s I G) (K : MK kp rg cl s I G) : CM l B E0 D yX7_stitches wsX7_stitches (v + 1) 0 0 [.ref m] h (fun r h1 => MR h0 h1 m a (lZ d) (uA s 0 0) I G ∧ (kp = none → r = some (.int 0)) ∧ ∀ ps, kp = some ps → r = some (.int (nI (uC (kS ps) (kC ps) ps.length)))) := by
  refine CM.of (cc := cX7_stitches) (maxL := 1) (ret := (some .int)) (by decide) rfl (Nat.le_of_ble_eq_true rfl) (fun X E hin => ?_)
  show J X B D 1 _ h 0 0 0 [(0, .ref m)] []
  generalize hQ : jQ X B D _ _ _ = Q
  cases kp with
  | none =>
    refine j_aload_n E dX7_stitches_0 rfl ?_
    refine j_iconst (x := nI 0) E dX7_stitches_1 (by decide) ?_
    refine j_putfield (ref := "ColourPartsModel") (C := RX7) (T := TX7) (N := 27) (ci := 8) E 0 dX7_stitches_2 iw_X7_stitches_X7 tyX7 tyX7_ok nmX7 rfl (by decide) (by decide +kernel) rfl rfl rfl rfl hM.obj (Nat.le_of_ble_eq_true rfl) ?_
    refine MR.gen (hM.pS 0 _ (by decide) rfl) (fun h hM => ?_)
    refine j_aload_n E dX7_stitches_5 rfl ?_
    refine j_getfield (ref := "ColourPartsModel") (C := RX7) (T := TX7) (N := 27) (ci := 8) E 17 dX7_stitches_6 iw_X7_stitches_X7 rfl (by decide) (by decide +kernel) rfl hM.obj rfl ?_
    refine J.topi (x' := (0 : Int32)) (K.2.2.2.1 rfl) ?_
    refine j_if_eq E (tgt := 19) dX7_stitches_9 (by decide) (fun c => ?_) (fun c => ?_)
    ·
      refine j_iconst (x := nI 0) E dX7_stitches_19 (by decide) ?_
      rw [← hQ]
      exact j_iret E dX7_stitches_20 rfl rfl (by omega) (by omega) ⟨hM, fun _ => rfl, fun ps e => by cases e⟩
    · exact absurd rfl c
  | some ps =>
    obtain ⟨k1, k2, k3, k4⟩ := K.2.2.2.2 ps rfl
    refine j_aload_n E dX7_stitches_0 rfl ?_
    refine j_iconst (x := nI 0) E dX7_stitches_1 (by decide) ?_
    refine j_putfield (ref := "ColourPartsModel") (C := RX7) (T := TX7) (N := 27) (ci := 8) E 0 dX7_stitches_2 iw_X7_stitches_X7 tyX7 tyX7_ok nmX7 rfl (by decide) (by decide +kernel) rfl rfl rfl rfl hM.obj (Nat.le_of_ble_eq_true rfl) ?_
    refine MR.gen (hM.pS 0 _ (by decide) rfl) (fun h hM => ?_)
    refine j_aload_n E dX7_stitches_5 rfl ?_
    refine j_getfield (ref := "ColourPartsModel") (C := RX7) (T := TX7) (N := 27) (ci := 8) E 17 dX7_stitches_6 iw_X7_stitches_X7 rfl (by decide) (by decide +kernel) rfl hM.obj rfl ?_
    refine J.topi (x' := (1 : Int32)) (k1) ?_
    refine j_if_eq E (tgt := 19) dX7_stitches_9 (by decide) (fun c => ?_) (fun c => ?_)
    · exact absurd c (by decide)
    ·
      refine j_aload_n E dX7_stitches_12 rfl ?_
      refine j_getfield (ref := "ColourPartsModel") (C := RX7) (T := TX7) (N := 27) (ci := 8) E 19 dX7_stitches_13 iw_X7_stitches_X7 rfl (by decide) (by decide +kernel) rfl hM.obj rfl ?_
      refine J.topi (x' := nI (uC (kS ps) (kC ps) ps.length)) (k3) ?_
      refine j_goto E (tgt := 20) dX7_stitches_16 (by decide) ?_
      rw [← hQ]
      exact j_iret E dX7_stitches_20 rfl rfl (by omega) (by omega) ⟨hM, fun e => (by cases e), fun ps2 e => by cases e; rfl⟩
theorem iw_X7_ring_X7 : ∀ w ∈ u_ws RX7 TX7 27, w ∈ wsX7_ring := by decide +kernel
theorem m_ring (v : Nat) (hM : MR h0 h m a (lZ d) s I G) (K : MK kp rg cl s I G) (hr : rg.length ≤ 12) (z : Int32) : CM l B E0 D yX7_ring wsX7_ring (v + 1) 0 0 [.ref m, .int z] h (fun r h1 => (∃ y : Int32, r = some (.int y)) ∧ (∃ c, MR h0 h1 m a (lZ d) (uA s 0 c) I G ∧ c = cI (isx z rg.length) (0 : Int32) 1 ∧ ∀ j, j < rg.length → z = nI j → r = some (.int (nI (rg.getD j 0))))) := by
  refine CM.of (cc := cX7_ring) (maxL := 2) (ret := (some .int)) (by decide) rfl (Nat.le_of_ble_eq_true rfl) (fun X E hin => ?_)
  show J X B D 2 _ h 0 0 0 [(0, .ref m), (1, .int z)] []
  generalize hQ : jQ X B D _ _ _ = Q
  have e25 : s 25 = nI rg.length := K.2.1
  have bad : ¬ isx z rg.length → J X B D 2 Q h 0 0 13 [(0, .ref m), (1, .int z)] [.ref m] := by
    intro w
    refine j_iconst (x := nI 1) E dX7_ring_13 (by decide) ?_
    refine j_goto E (tgt := 18) dX7_ring_14 (by decide) ?_
    refine j_putfield (ref := "ColourPartsModel") (C := RX7) (T := TX7) (N := 27) (ci := 8) E 0 dX7_ring_18 iw_X7_ring_X7 tyX7 tyX7_ok nmX7 rfl (by decide) (by decide +kernel) rfl rfl rfl rfl hM.obj (Nat.le_of_ble_eq_true rfl) ?_
    refine MR.gen (hM.pS 0 _ (by decide) rfl) (fun h hM => ?_)
    refine j_aload_n E dX7_ring_21 rfl ?_
    refine j_getfield (ref := "ColourPartsModel") (C := RX7) (T := TX7) (N := 27) (ci := 8) E 0 dX7_ring_22 iw_X7_ring_X7 rfl (by decide) (by decide +kernel) rfl hM.obj rfl ?_
    refine J.topi (x' := (1 : Int32)) (uA_eq _ _ _) ?_
    refine j_if_le E (tgt := 32) dX7_ring_25 (by decide) (fun c => ?_) (fun c => ?_)
    · exact absurd c (by decide)
    ·
      refine j_iconst (x := nI 0) E dX7_ring_28 (by decide) ?_
      refine j_goto E (tgt := 38) dX7_ring_29 (by decide) ?_
      rw [← hQ]
      exact j_iret E dX7_ring_38 rfl rfl (by omega) (by omega) ⟨⟨_, rfl⟩, ⟨_, hM, by rw [cI_f w]; rfl, fun j hj e => absurd ⟨j, hj, e⟩ w⟩⟩
  refine j_aload_n E dX7_ring_0 rfl ?_
  refine j_iload_n E dX7_ring_1 rfl ?_
  refine j_if_lt E (tgt := 13) dX7_ring_2 (by decide) (fun c => ?_) (fun c => ?_)
  · exact bad (isx_neg (by omega) c)
  ·
    refine j_iload_n E dX7_ring_5 rfl ?_
    refine j_aload_n E dX7_ring_6 rfl ?_
    refine j_getfield (ref := "ColourPartsModel") (C := RX7) (T := TX7) (N := 27) (ci := 8) E 25 dX7_ring_7 iw_X7_ring_X7 rfl (by decide) (by decide +kernel) rfl hM.obj rfl ?_
    refine J.topi (x' := nI rg.length) (e25) ?_
    refine j_icmp_lt E (tgt := 17) dX7_ring_10 (by decide) (fun c2 => ?_) (fun c2 => ?_)
    · have hx := isx_lt (n := rg.length) (by omega) c (Int32.not_le.mpr c2)
      refine j_iconst (x := nI 0) E dX7_ring_17 (by decide) ?_
      refine j_putfield (ref := "ColourPartsModel") (C := RX7) (T := TX7) (N := 27) (ci := 8) E 0 dX7_ring_18 iw_X7_ring_X7 tyX7 tyX7_ok nmX7 rfl (by decide) (by decide +kernel) rfl rfl rfl rfl hM.obj (Nat.le_of_ble_eq_true rfl) ?_
      refine MR.gen (hM.pS 0 _ (by decide) rfl) (fun h hM => ?_)
      refine j_aload_n E dX7_ring_21 rfl ?_
      refine j_getfield (ref := "ColourPartsModel") (C := RX7) (T := TX7) (N := 27) (ci := 8) E 0 dX7_ring_22 iw_X7_ring_X7 rfl (by decide) (by decide +kernel) rfl hM.obj rfl ?_
      refine J.topi (x' := (0 : Int32)) (uA_eq _ _ _) ?_
      refine j_if_le E (tgt := 32) dX7_ring_25 (by decide) (fun c3 => ?_) (fun c3 => ?_)
      · obtain ⟨j, hj, rfl⟩ := hx
        refine j_aload_n E dX7_ring_32 rfl ?_
        refine j_getfield (ref := "ColourPartsModel") (C := RX7) (T := TX7) (N := 27) (ci := 8) E 24 dX7_ring_33 iw_X7_ring_X7 rfl (by decide) (by decide +kernel) rfl hM.obj rfl ?_
        refine j_iload_n E dX7_ring_36 rfl ?_
        refine j_iaload E j dX7_ring_37 (hM.gI 24 12 (by decide)) rfl (by omega) (by omega) ?_
        refine J.topi (x' := nI (rg.getD j 0)) (K.2.2.1 j hj) ?_
        rw [← hQ]
        exact j_iret E dX7_ring_38 rfl rfl (by omega) (by omega) ⟨⟨_, rfl⟩, ⟨_, hM, by rw [cI_t ⟨j, hj, rfl⟩]; rfl, fun i hi e => by rw [(nI_eq (by omega) (by omega)).mp e]⟩⟩
      · exact absurd (by decide) c3
    · exact bad (isx_big (by omega) (Int32.not_lt.mp c2))
theorem iw_X7_firstOf_X7 : ∀ w ∈ u_ws RX7 TX7 27, w ∈ wsX7_firstOf := by decide +kernel
theorem m_firstOf (v : Nat) (hM : MR h0 h m a (lZ d) s I G) (K : MK kp rg cl s I G) (hk : wfK kp) (hs18 : kp = none → True) {j : Nat} (hj : j < 10) : CM l B E0 D yX7_firstOf wsX7_firstOf (v + 1) 0 0 [.ref m, .int (nI j)] h (fun r h1 => h1 = h ∧ ((∃ ps f, kp = some ps ∧ isF ps j f ∧ r = some (.int (nI f))) ∨ ((∀ ps f, kp = some ps → ¬ isF ps j f) ∧ r = some (.int (-1))))) := by
  refine CM.of (cc := cX7_firstOf) (maxL := 3) (ret := (some .int)) (by decide) rfl (Nat.le_of_ble_eq_true rfl) (fun X E hin => ?_)
  show J X B D 3 _ h 0 0 0 [(0, .ref m), (1, .int (nI j))] []
  generalize hQ : jQ X B D _ _ _ = Q
  cases kp with
  | none =>
    refine j_iconst (x := nI 0) E dX7_firstOf_0 (by decide) ?_
    refine j_istore_n E dX7_firstOf_1 (by decide) ?_
    refine j_iload_n E dX7_firstOf_2 rfl ?_
    refine j_aload_n E dX7_firstOf_3 rfl ?_
    refine j_getfield (ref := "ColourPartsModel") (C := RX7) (T := TX7) (N := 27) (ci := 8) E 18 dX7_firstOf_4 iw_X7_firstOf_X7 rfl (by decide) (by decide +kernel) rfl hM.obj rfl ?_
    refine j_icmp_ge E (tgt := 35) dX7_firstOf_7 (by decide) (fun c => ?_) (fun c => ?_)
    ·
      refine j_iconst (x := (-1)) E dX7_firstOf_35 (by decide) ?_
      rw [← hQ]
      exact j_iret E dX7_firstOf_36 rfl rfl (by omega) (by omega) ⟨rfl, Or.inr ⟨fun ps f e => (by cases e), rfl⟩⟩
    ·
      refine j_aload_n E dX7_firstOf_10 rfl ?_
      refine j_getfield (ref := "ColourPartsModel") (C := RX7) (T := TX7) (N := 27) (ci := 8) E 17 dX7_firstOf_11 iw_X7_firstOf_X7 rfl (by decide) (by decide +kernel) rfl hM.obj rfl ?_
      refine J.topi (x' := (0 : Int32)) (K.2.2.2.1 rfl) ?_
      refine j_if_eq E (tgt := 35) dX7_firstOf_14 (by decide) (fun c2 => ?_) (fun c2 => ?_)
      ·
        refine j_iconst (x := (-1)) E dX7_firstOf_35 (by decide) ?_
        rw [← hQ]
        exact j_iret E dX7_firstOf_36 rfl rfl (by omega) (by omega) ⟨rfl, Or.inr ⟨fun ps f e => (by cases e), rfl⟩⟩
      · exact absurd rfl c2
  | some ps =>
    obtain ⟨k1, k2, k3, k4⟩ := K.2.2.2.2 ps rfl
    obtain ⟨hl, hk⟩ := hk ps rfl
    refine j_iconst (x := nI 0) E dX7_firstOf_0 (by decide) ?_
    refine j_istore_n E dX7_firstOf_1 (by decide) ?_
    have key : ∀ (t i : Nat), i + t = ps.length → (∀ i2, i2 < i → ¬ kS ps i2 = j) → J X B D 3 Q h 0 0 2 [(2, .int (nI i)), (1, .int (nI j)), (0, .ref m)] [] := by
      intro t
      induction t with
      | zero =>
        intro i hi hno
        refine j_iload_n E dX7_firstOf_2 rfl ?_
        refine j_aload_n E dX7_firstOf_3 rfl ?_
        refine j_getfield (ref := "ColourPartsModel") (C := RX7) (T := TX7) (N := 27) (ci := 8) E 18 dX7_firstOf_4 iw_X7_firstOf_X7 rfl (by decide) (by decide +kernel) rfl hM.obj rfl ?_
        refine J.topi (x' := nI ps.length) (k2) ?_
        refine j_icmp_ge E (tgt := 35) dX7_firstOf_7 (by decide) (fun c => ?_) (fun c => ?_)
        ·
          refine j_iconst (x := (-1)) E dX7_firstOf_35 (by decide) ?_
          rw [← hQ]
          exact j_iret E dX7_firstOf_36 rfl rfl (by omega) (by omega) ⟨rfl, Or.inr ⟨fun p2 f e hf => by cases e; exact hno f (by have := hf.1; omega) hf.2.1, rfl⟩⟩
        · exact absurd (nI_le (show ps.length ≤ i by omega) (by omega)) c
      | succ t ih =>
        intro i hi hno
        have hil : i < ps.length := by omega
        refine j_iload_n E dX7_firstOf_2 rfl ?_
        refine j_aload_n E dX7_firstOf_3 rfl ?_
        refine j_getfield (ref := "ColourPartsModel") (C := RX7) (T := TX7) (N := 27) (ci := 8) E 18 dX7_firstOf_4 iw_X7_firstOf_X7 rfl (by decide) (by decide +kernel) rfl hM.obj rfl ?_
        refine J.topi (x' := nI ps.length) (k2) ?_
        refine j_icmp_ge E (tgt := 35) dX7_firstOf_7 (by decide) (fun c => ?_) (fun c => ?_)
        · exact absurd c (nI_ge hil (by omega))
        ·
          refine j_aload_n E dX7_firstOf_10 rfl ?_
          refine j_getfield (ref := "ColourPartsModel") (C := RX7) (T := TX7) (N := 27) (ci := 8) E 17 dX7_firstOf_11 iw_X7_firstOf_X7 rfl (by decide) (by decide +kernel) rfl hM.obj rfl ?_
          refine J.topi (x' := (1 : Int32)) (k1) ?_
          refine j_if_eq E (tgt := 35) dX7_firstOf_14 (by decide) (fun c2 => ?_) (fun c2 => ?_)
          · exact absurd c2 (by decide)
          · have := (hk i hil).1
            refine j_aload_n E dX7_firstOf_17 rfl ?_
            refine j_getfield (ref := "ColourPartsModel") (C := RX7) (T := TX7) (N := 27) (ci := 8) E 20 dX7_firstOf_18 iw_X7_firstOf_X7 rfl (by decide) (by decide +kernel) rfl hM.obj rfl ?_
            refine j_iload_n E dX7_firstOf_21 rfl ?_
            refine j_iaload E i dX7_firstOf_22 (hM.gI 20 12 (by decide)) rfl (by omega) (by omega) ?_
            refine J.topi (x' := nI (kS ps i)) ((k4 i hil).1) ?_
            refine j_iload_n E dX7_firstOf_23 rfl ?_
            refine j_icmp_ne E (tgt := 29) dX7_firstOf_24 (by decide) (fun c3 => ?_) (fun c3 => ?_)
            ·
              refine j_iinc E dX7_firstOf_29 rfl (nI_1 i) (by decide) ?_
              refine j_goto E (tgt := 2) dX7_firstOf_32 (by decide) ?_
              refine J.sub [(2, .int (nI (i + 1))), (1, .int (nI j)), (0, .ref m)] ⟨rfl, rfl, rfl, trivial⟩ ?_
              refine ih (i + 1) (by omega) (fun i2 h2 => ?_)
              by_cases e : i2 = i
              · rw [e]; exact fun q => c3 (by rw [q])
              · exact hno i2 (by omega)
            · have e := (nI_eq (by omega) (by omega)).mp c3
              refine j_iload_n E dX7_firstOf_27 rfl ?_
              rw [← hQ]
              exact j_iret E dX7_firstOf_28 rfl rfl (by omega) (by omega) ⟨rfl, Or.inl ⟨ps, i, rfl, ⟨hil, e, hno⟩, rfl⟩⟩
    refine J.sub [(2, .int (nI 0)), (1, .int (nI j)), (0, .ref m)] ⟨rfl, rfl, rfl, trivial⟩ ?_
    exact key ps.length 0 (by omega) (fun i hi => absurd hi (Nat.not_lt_zero i))
theorem iw_X7_colour_X7 : ∀ w ∈ u_ws RX7 TX7 27, w ∈ wsX7_colour := by decide +kernel
theorem m_colour (v : Nat) (hM : MR h0 h m a (lZ d) s I G) (A : MA ss s I G) (hw : wfSS ss) (K : MK kp rg cl s I G) (hk : wfK kp) (z : Int32) : CM l B E0 D yX7_colour wsX7_colour (v + 2) 0 0 [.ref m, .int z] h (fun r h1 => (∃ y : Int32, r = some (.int y)) ∧ (MR h0 h1 m a (lZ d) (uA s 0 (cdColour ss z)) I G ∧ ∀ j, j < ss.length → z = nI j → (∃ ps f, kp = some ps ∧ isF ps j f ∧ r = some (.int (nI (kC ps f)))) ∨ ((∀ ps f, kp = some ps → ¬ isF ps j f) ∧ r = some (.int (-1))))) := by
  have hl := hw.1
  refine CM.of (cc := cX7_colour) (maxL := 3) (ret := (some .int)) (by decide) rfl (Nat.le_of_ble_eq_true rfl) (fun X E hin => ?_)
  show J X B D 3 _ h 0 0 0 [(0, .ref m), (1, .int z)] []
  generalize hQ : jQ X B D _ _ _ = Q
  refine j_aload_n E dX7_colour_0 rfl ?_
  refine j_aload_n E dX7_colour_1 rfl ?_
  refine j_iload_n E dX7_colour_2 rfl ?_
  refine j_callV (np := 1) (C := RX7) (T := TX7) (N := 27) (ci := 8) E (m_isShape v hM A (by omega) z) gX7_colour_X7_isShape rfl ⟨rfl, by decide, by decide, by decide +kernel⟩ dX7_colour_3 (by omega) (by decide) rfl hM.obj rfl rfl (Nat.le_of_ble_eq_true rfl) (by omega) (by omega) (fun r9 h9 p9 => J.pure p9 ?_)
  refine J.wide (k' := 0) (n' := 0) (by omega) (by omega) ?_
  by_cases hx : isx z ss.length
  · have e0 : cdColour ss z = 0 := cI_t hx
    refine j_if_eq E (tgt := 13) dX7_colour_6 (by decide) (fun c => ?_) (fun c => ?_)
    · exact absurd hx (bI_z.mp c)
    · obtain ⟨j, hj, rfl⟩ := hx
      have hjj : ∀ i, i < ss.length → nI j = nI i → i = j := fun i hi e => ((nI_eq (by omega) (by omega)).mp e).symm
      refine j_iconst (x := nI 0) E dX7_colour_9 (by decide) ?_
      refine j_goto E (tgt := 14) dX7_colour_10 (by decide) ?_
      refine j_putfield (ref := "ColourPartsModel") (C := RX7) (T := TX7) (N := 27) (ci := 8) E 0 dX7_colour_14 iw_X7_colour_X7 tyX7 tyX7_ok nmX7 rfl (by decide) (by decide +kernel) rfl rfl rfl rfl hM.obj (Nat.le_of_ble_eq_true rfl) ?_
      refine MR.gen (hM.pS 0 _ (by decide) rfl) (fun h hM => ?_)
      refine j_aload_n E dX7_colour_17 rfl ?_
      refine j_getfield (ref := "ColourPartsModel") (C := RX7) (T := TX7) (N := 27) (ci := 8) E 0 dX7_colour_18 iw_X7_colour_X7 rfl (by decide) (by decide +kernel) rfl hM.obj rfl ?_
      refine J.topi (x' := (0 : Int32)) (uA_eq _ _ _) ?_
      refine j_if_le E (tgt := 28) dX7_colour_21 (by decide) (fun c2 => ?_) (fun c2 => ?_)
      · have K1 : MK kp rg cl (uA s 0 (nI 0)) I G := K.keep ⟨rfl, rfl, rfl, rfl, rfl⟩ ⟨rfl, rfl, rfl⟩ rfl
        refine j_aload_n E dX7_colour_28 rfl ?_
        refine j_iload_n E dX7_colour_29 rfl ?_
        refine j_callV (np := 1) (C := RX7) (T := TX7) (N := 27) (ci := 8) E (m_firstOf v hM K1 hk (fun _ => trivial) (show j < 10 by omega)) gX7_colour_X7_firstOf rfl ⟨rfl, by decide, by decide, by decide +kernel⟩ dX7_colour_30 (by omega) (by decide) rfl hM.obj rfl rfl (Nat.le_of_ble_eq_true rfl) (by omega) (by omega) (fun r h1 p => ?_)
        obtain ⟨e9, p⟩ := p
        rw [e9]
        refine J.wide (k' := 0) (n' := 0) (by omega) (by omega) ?_
        rcases p with ⟨ps, f, hkp, hf, rfl⟩ | ⟨hno, rfl⟩
        · obtain ⟨k1, k2, k3, k4⟩ := K.2.2.2.2 ps hkp
          obtain ⟨hl2, hk2⟩ := hk ps hkp
          have hfl := hf.1
          refine j_istore_n E dX7_colour_33 (by decide) ?_
          refine j_aload_n E dX7_colour_34 rfl ?_
          refine j_getfield (ref := "ColourPartsModel") (C := RX7) (T := TX7) (N := 27) (ci := 8) E 0 dX7_colour_35 iw_X7_colour_X7 rfl (by decide) (by decide +kernel) rfl hM.obj rfl ?_
          refine J.topi (x' := (0 : Int32)) (uA_eq _ _ _) ?_
          refine j_if_le E (tgt := 45) dX7_colour_38 (by decide) (fun c3 => ?_) (fun c3 => ?_)
          ·
            refine j_iload_n E dX7_colour_45 rfl ?_
            refine j_iconst (x := (-1)) E dX7_colour_46 (by decide) ?_
            refine j_icmp_ne E (tgt := 54) dX7_colour_47 (by decide) (fun c4 => ?_) (fun c4 => ?_)
            ·
              refine j_aload_n E dX7_colour_54 rfl ?_
              refine j_getfield (ref := "ColourPartsModel") (C := RX7) (T := TX7) (N := 27) (ci := 8) E 21 dX7_colour_55 iw_X7_colour_X7 rfl (by decide) (by decide +kernel) rfl hM.obj rfl ?_
              refine j_iload_n E dX7_colour_58 rfl ?_
              refine j_iaload E f dX7_colour_59 (hM.gI 21 12 (by decide)) rfl (by omega) (by omega) ?_
              refine J.topi (x' := nI (kC ps f)) ((k4 f hfl).2.1) ?_
              rw [← hQ]
              exact j_iret E dX7_colour_60 rfl rfl (by omega) (by omega) ⟨⟨_, rfl⟩, ⟨by rw [e0]; exact hM, fun i hi e => Or.inl ⟨ps, f, hkp, by rw [hjj i hi e]; exact hf, rfl⟩⟩⟩
            · exact absurd c4 (fun e => nI_pos (n := f) (by omega) (e ▸ by decide))
          · exact absurd (by decide) c3
        ·
          refine j_istore_n E dX7_colour_33 (by decide) ?_
          refine j_aload_n E dX7_colour_34 rfl ?_
          refine j_getfield (ref := "ColourPartsModel") (C := RX7) (T := TX7) (N := 27) (ci := 8) E 0 dX7_colour_35 iw_X7_colour_X7 rfl (by decide) (by decide +kernel) rfl hM.obj rfl ?_
          refine J.topi (x' := (0 : Int32)) (uA_eq _ _ _) ?_
          refine j_if_le E (tgt := 45) dX7_colour_38 (by decide) (fun c3 => ?_) (fun c3 => ?_)
          ·
            refine j_iload_n E dX7_colour_45 rfl ?_
            refine j_iconst (x := (-1)) E dX7_colour_46 (by decide) ?_
            refine j_icmp_ne E (tgt := 54) dX7_colour_47 (by decide) (fun c4 => ?_) (fun c4 => ?_)
            · exact absurd rfl c4
            ·
              refine j_iconst (x := (-1)) E dX7_colour_50 (by decide) ?_
              refine j_goto E (tgt := 60) dX7_colour_51 (by decide) ?_
              rw [← hQ]
              exact j_iret E dX7_colour_60 rfl rfl (by omega) (by omega) ⟨⟨_, rfl⟩, ⟨by rw [e0]; exact hM, fun i hi e => Or.inr ⟨by rw [hjj i hi e]; exact hno, rfl⟩⟩⟩
          · exact absurd (by decide) c3
      · exact absurd (by decide) c2
  · have e0 : cdColour ss z = 1 := cI_f hx
    refine j_if_eq E (tgt := 13) dX7_colour_6 (by decide) (fun c => ?_) (fun c => ?_)
    ·
      refine j_iconst (x := nI 1) E dX7_colour_13 (by decide) ?_
      refine j_putfield (ref := "ColourPartsModel") (C := RX7) (T := TX7) (N := 27) (ci := 8) E 0 dX7_colour_14 iw_X7_colour_X7 tyX7 tyX7_ok nmX7 rfl (by decide) (by decide +kernel) rfl rfl rfl rfl hM.obj (Nat.le_of_ble_eq_true rfl) ?_
      refine MR.gen (hM.pS 0 _ (by decide) rfl) (fun h hM => ?_)
      refine j_aload_n E dX7_colour_17 rfl ?_
      refine j_getfield (ref := "ColourPartsModel") (C := RX7) (T := TX7) (N := 27) (ci := 8) E 0 dX7_colour_18 iw_X7_colour_X7 rfl (by decide) (by decide +kernel) rfl hM.obj rfl ?_
      refine J.topi (x' := (1 : Int32)) (uA_eq _ _ _) ?_
      refine j_if_le E (tgt := 28) dX7_colour_21 (by decide) (fun c2 => ?_) (fun c2 => ?_)
      · exact absurd c2 (by decide)
      ·
        refine j_iconst (x := (-1)) E dX7_colour_24 (by decide) ?_
        refine j_goto E (tgt := 33) dX7_colour_25 (by decide) ?_
        refine j_istore_n E dX7_colour_33 (by decide) ?_
        refine j_aload_n E dX7_colour_34 rfl ?_
        refine j_getfield (ref := "ColourPartsModel") (C := RX7) (T := TX7) (N := 27) (ci := 8) E 0 dX7_colour_35 iw_X7_colour_X7 rfl (by decide) (by decide +kernel) rfl hM.obj rfl ?_
        refine J.topi (x' := (1 : Int32)) (uA_eq _ _ _) ?_
        refine j_if_le E (tgt := 45) dX7_colour_38 (by decide) (fun c3 => ?_) (fun c3 => ?_)
        · exact absurd c3 (by decide)
        ·
          refine j_iconst (x := nI 0) E dX7_colour_41 (by decide) ?_
          refine j_goto E (tgt := 60) dX7_colour_42 (by decide) ?_
          rw [← hQ]
          exact j_iret E dX7_colour_60 rfl rfl (by omega) (by omega) ⟨⟨_, rfl⟩, ⟨by rw [e0]; exact hM, fun i hi e => absurd ⟨i, hi, e⟩ hx⟩⟩
    · exact absurd (bI_n.mp c) hx
theorem iw_X7_used_X7 : ∀ w ∈ u_ws RX7 TX7 27, w ∈ wsX7_used := by decide +kernel
theorem m_used (v : Nat) (hM : MR h0 h m a (lZ d) s I G) (A : MA ss s I G) (hw : wfSS ss) (K : MK kp rg cl s I G) (hk : wfK kp) (hu : ∀ j q, j < ss.length → usedOK kp j q → q < nk (gS ss j)) (z k : Int32) : CM l B E0 D yX7_used wsX7_used (v + 2) 0 0 [.ref m, .int z, .int k] h (fun r h1 => (∃ y : Int32, r = some (.int y)) ∧ (MR h0 h1 m a (lZ d) (uA s 0 (cdUsed ss kp z k)) I G ∧ ∀ j q ps f, j < ss.length → z = nI j → q < 2 ^ 31 → k = nI q → kp = some ps → isF ps j f → f + q + 1 < ps.length → kS ps (f + q + 1) = j → r = some (.int (bI (¬ kC ps (f + q) = kC ps (f + q + 1)))))) := by
  have hl := hw.1
  refine CM.of (cc := cX7_used) (maxL := 5) (ret := (some .boolean)) (by decide) rfl (Nat.le_of_ble_eq_true rfl) (fun X E hin => ?_)
  show J X B D 5 _ h 0 0 0 [(0, .ref m), (1, .int z), (2, .int k)] []
  generalize hQ : jQ X B D _ _ _ = Q
  -- no
  have no : ∀ z3 : Int32, ¬ (∃ j K, j < ss.length ∧ z = nI j ∧ K < 2 ^ 31 ∧ k = nI K ∧ usedOK kp j K) → J X B D 5 Q h 0 0 67 [(3, .int z3), (2, .int k), (1, .int z), (0, .ref m)] [] := by
    intro z3 w
    refine j_iconst (x := nI 0) E dX7_used_67 (by decide) ?_
    refine j_istore E dX7_used_68 (by decide) ?_
    refine j_aload_n E dX7_used_70 rfl ?_
    refine j_iload E dX7_used_71 rfl ?_
    refine j_if_eq E (tgt := 80) dX7_used_73 (by decide) (fun c => ?_) (fun c => ?_)
    ·
      refine j_iconst (x := nI 1) E dX7_used_80 (by decide) ?_
      refine j_putfield (ref := "ColourPartsModel") (C := RX7) (T := TX7) (N := 27) (ci := 8) E 0 dX7_used_81 iw_X7_used_X7 tyX7 tyX7_ok nmX7 rfl (by decide) (by decide +kernel) rfl rfl rfl rfl hM.obj (Nat.le_of_ble_eq_true rfl) ?_
      refine MR.gen (hM.pS 0 _ (by decide) rfl) (fun h hM => ?_)
      refine j_iload E dX7_used_84 rfl ?_
      refine j_if_eq E (tgt := 114) dX7_used_86 (by decide) (fun c2 => ?_) (fun c2 => ?_)
      ·
        refine j_iconst (x := nI 0) E dX7_used_114 (by decide) ?_
        rw [← hQ]
        exact j_iret E dX7_used_115 rfl rfl (by omega) (by omega) ⟨⟨_, rfl⟩, ⟨by rw [cdUsed, cI_f w]; exact hM, fun j q ps f h1 h2 h3 h4 h5 h6 h7 h8 => absurd ⟨j, q, h1, h2, h3, h4, ps, f, h5, h6, h7, h8⟩ w⟩⟩
      · exact absurd rfl c2
    · exact absurd rfl c
  refine j_aload_n E dX7_used_0 rfl ?_
  refine j_iload_n E dX7_used_1 rfl ?_
  refine j_callV (np := 1) (C := RX7) (T := TX7) (N := 27) (ci := 8) E (m_isShape v hM A (by omega) z) gX7_used_X7_isShape rfl ⟨rfl, by decide, by decide, by decide +kernel⟩ dX7_used_2 (by omega) (by decide) rfl hM.obj rfl rfl (Nat.le_of_ble_eq_true rfl) (by omega) (by omega) (fun r9 h9 p9 => J.pure p9 ?_)
  refine J.wide (k' := 0) (n' := 0) (by omega) (by omega) ?_
  refine j_if_eq E (tgt := 16) dX7_used_5 (by decide) (fun c => ?_) (fun c => ?_)
  · have hx := bI_z.mp c
    refine j_iconst (x := (-1)) E dX7_used_16 (by decide) ?_
    refine j_istore_n E dX7_used_17 (by decide) ?_
    refine j_iload_n E dX7_used_18 rfl ?_
    refine j_iconst (x := (-1)) E dX7_used_19 (by decide) ?_
    refine j_icmp_eq E (tgt := 67) dX7_used_20 (by decide) (fun c2 => ?_) (fun c2 => ?_)
    · refine J.sub [(3, .int (-1)), (2, .int k), (1, .int z), (0, .ref m)] ⟨rfl, rfl, rfl, rfl, trivial⟩ ?_
      exact no _ (fun ⟨j, _, h1, h2, _⟩ => hx ⟨j, h1, h2⟩)
    · exact absurd rfl c2
  · obtain ⟨j, hj, rfl⟩ := bI_n.mp c
    have hjj : ∀ i, i < ss.length → nI j = nI i → i = j := fun i hi e => ((nI_eq (by omega) (by omega)).mp e).symm
    obtain ⟨a5, a8, -⟩ := A.2 j hj
    have k3 := (hw.2.2 j hj).2.1
    refine j_aload_n E dX7_used_8 rfl ?_
    refine j_iload_n E dX7_used_9 rfl ?_
    refine j_callV (np := 1) (C := RX7) (T := TX7) (N := 27) (ci := 8) E (m_firstOf v hM K hk (fun _ => trivial) (show j < 10 by omega)) gX7_used_X7_firstOf rfl ⟨rfl, by decide, by decide, by decide +kernel⟩ dX7_used_10 (by omega) (by decide) rfl hM.obj rfl rfl (Nat.le_of_ble_eq_true rfl) (by omega) (by omega) (fun r h1 p => ?_)
    obtain ⟨e9, p⟩ := p
    rw [e9]
    refine J.wide (k' := 0) (n' := 0) (by omega) (by omega) ?_
    rcases p with ⟨ps, f, hkp, hf, rfl⟩ | ⟨hno, rfl⟩
    · obtain ⟨k1, k2, k3', k4⟩ := K.2.2.2.2 ps hkp
      obtain ⟨hl2, hk2⟩ := hk ps hkp
      have hfl := hf.1
      have nope : ¬ (∃ q, q < 2 ^ 31 ∧ k = nI q ∧ f + q + 1 < ps.length ∧ kS ps (f + q + 1) = j) → ¬ (∃ j2 K, j2 < ss.length ∧ nI j = nI j2 ∧ K < 2 ^ 31 ∧ k = nI K ∧ usedOK kp j2 K) := by
        rintro w ⟨j2, q, h1, h2, h3, h4, ps2, f2, h5, h6, h7, h8⟩
        obtain rfl := hjj j2 h1 h2
        rw [hkp] at h5
        cases h5
        obtain rfl := isF_one hf h6
        exact w ⟨q, h3, h4, h7, h8⟩
      refine j_goto E (tgt := 17) dX7_used_13 (by decide) ?_
      refine j_istore_n E dX7_used_17 (by decide) ?_
      refine j_iload_n E dX7_used_18 rfl ?_
      refine j_iconst (x := (-1)) E dX7_used_19 (by decide) ?_
      refine j_icmp_eq E (tgt := 67) dX7_used_20 (by decide) (fun c2 => ?_) (fun c2 => ?_)
      · exact absurd c2 (fun e => nI_pos (n := f) (by omega) (e ▸ by decide))
      · have no2 : ¬ (∃ q, q < 2 ^ 31 ∧ k = nI q ∧ f + q + 1 < ps.length ∧ kS ps (f + q + 1) = j) → J X B D 5 Q h 0 0 67 [(3, .int (nI f)), (2, .int k), (1, .int (nI j)), (0, .ref m)] [] := fun w => no _ (nope w)
        refine j_iload_n E dX7_used_23 rfl ?_
        refine J.sub [(3, .int (nI f)), (2, .int k), (1, .int (nI j)), (0, .ref m)] ⟨rfl, rfl, rfl, rfl, trivial⟩ ?_
        refine j_if_lt E (tgt := 67) dX7_used_24 (by decide) (fun c3 => ?_) (fun c3 => ?_)
        · exact no2 (fun ⟨q, h1, h2, _⟩ => nI_pos (n := q) h1 (h2 ▸ c3))
        · obtain ⟨q, hq, rfl⟩ := nI_of c3
          have hqq : ∀ i, i < 2 ^ 31 → nI q = nI i → i = q := fun i hi e => ((nI_eq hq hi).mp e).symm
          refine j_iload_n E dX7_used_27 rfl ?_
          refine j_aload_n E dX7_used_28 rfl ?_
          refine j_getfield (ref := "ColourPartsModel") (C := RX7) (T := TX7) (N := 27) (ci := 8) E 8 dX7_used_29 iw_X7_used_X7 rfl (by decide) (by decide +kernel) rfl hM.obj rfl ?_
          refine j_iload_n E dX7_used_32 rfl ?_
          refine j_iaload E j dX7_used_33 (hM.gI 8 10 (by decide)) rfl (by omega) (by omega) ?_
          refine J.topi (x' := nI (nk (gS ss j))) (a8) ?_
          refine j_icmp_ge E (tgt := 67) dX7_used_34 (by decide) (fun c4 => ?_) (fun c4 => ?_)
          · refine no2 (fun ⟨q2, h1, h2, h3, h4⟩ => ?_)
            obtain rfl := hqq q2 h1 h2
            exact nI_ge (hu j q2 hj ⟨ps, f, hkp, hf, h3, h4⟩) (by omega) c4
          · have hqk : q < nk (gS ss j) := by
              rcases Nat.lt_or_ge q (nk (gS ss j)) with w | w
              · exact w
              · exact absurd (nI_le w hq) c4
            refine j_iload_n E dX7_used_37 rfl ?_
            refine j_iload_n E dX7_used_38 rfl ?_
            refine j_iadd E dX7_used_39 ?_
            refine J.topi (x' := nI (f + q)) (nI_add _ _) ?_
            refine j_iconst (x := nI 1) E dX7_used_40 (by decide) ?_
            refine j_iadd E dX7_used_41 ?_
            refine J.topi (x' := nI (f + q + 1)) (nI_1 _) ?_
            refine j_aload_n E dX7_used_42 rfl ?_
            refine j_getfield (ref := "ColourPartsModel") (C := RX7) (T := TX7) (N := 27) (ci := 8) E 18 dX7_used_43 iw_X7_used_X7 rfl (by decide) (by decide +kernel) rfl hM.obj rfl ?_
            refine J.topi (x' := nI ps.length) (k2) ?_
            refine j_icmp_ge E (tgt := 67) dX7_used_46 (by decide) (fun c5 => ?_) (fun c5 => ?_)
            · refine no2 (fun ⟨q2, h1, h2, h3, h4⟩ => ?_)
              obtain rfl := hqq q2 h1 h2
              exact nI_ge h3 (by omega) c5
            · have hql : f + q + 1 < ps.length := by
                rcases Nat.lt_or_ge (f + q + 1) ps.length with w | w
                · exact w
                · exact absurd (nI_le w (by omega)) c5
              have b1 := (hk2 (f + q + 1) hql).1
              refine j_aload_n E dX7_used_49 rfl ?_
              refine j_getfield (ref := "ColourPartsModel") (C := RX7) (T := TX7) (N := 27) (ci := 8) E 20 dX7_used_50 iw_X7_used_X7 rfl (by decide) (by decide +kernel) rfl hM.obj rfl ?_
              refine j_iload_n E dX7_used_53 rfl ?_
              refine j_iload_n E dX7_used_54 rfl ?_
              refine j_iadd E dX7_used_55 ?_
              refine J.topi (x' := nI (f + q)) (nI_add _ _) ?_
              refine j_iconst (x := nI 1) E dX7_used_56 (by decide) ?_
              refine j_iadd E dX7_used_57 ?_
              refine J.topi (x' := nI (f + q + 1)) (nI_1 _) ?_
              refine j_iaload E (f + q + 1) dX7_used_58 (hM.gI 20 12 (by decide)) rfl (by omega) (by omega) ?_
              refine J.topi (x' := nI (kS ps (f + q + 1))) ((k4 _ hql).1) ?_
              refine j_iload_n E dX7_used_59 rfl ?_
              refine j_icmp_ne E (tgt := 67) dX7_used_60 (by decide) (fun c6 => ?_) (fun c6 => ?_)
              · refine no2 (fun ⟨q2, h1, h2, h3, h4⟩ => ?_)
                obtain rfl := hqq q2 h1 h2
                exact c6 (by rw [h4])
              · have e6 := (nI_eq (by omega) (by omega)).mp c6
                have ok : cdUsed ss kp (nI j) (nI q) = 0 := cI_t ⟨j, q, hj, rfl, hq, rfl, ps, f, hkp, hf, hql, e6⟩
                have b2 := (hk2 (f + q + 1) hql).2.1
                have b3 := (hk2 (f + q) (by omega)).2.1
                have post : ∀ r, r = some (Value.int (bI (¬ kC ps (f + q) = kC ps (f + q + 1)))) → ∀ (h9 : HM), MR h0 h9 m a (lZ d) (uA s 0 0) I G → MR h0 h9 m a (lZ d) (uA s 0 (cdUsed ss kp (nI j) (nI q))) I G ∧ ∀ j2 q2 ps2 f2, j2 < ss.length → nI j = nI j2 → q2 < 2 ^ 31 → nI q = nI q2 → kp = some ps2 → isF ps2 j2 f2 → f2 + q2 + 1 < ps2.length → kS ps2 (f2 + q2 + 1) = j2 → r = some (.int (bI (¬ kC ps2 (f2 + q2) = kC ps2 (f2 + q2 + 1)))) := by
                  intro r hr h9 hM9
                  refine ⟨by rw [ok]; exact hM9, fun j2 q2 ps2 f2 h1 h2 h3 h4 h5 h6 h7 h8 => ?_⟩
                  obtain rfl := hjj j2 h1 h2
                  obtain rfl := hqq q2 h3 h4
                  rw [hkp] at h5
                  cases h5
                  obtain rfl := isF_one hf h6
                  exact hr
                refine j_iconst (x := nI 1) E dX7_used_63 (by decide) ?_
                refine j_goto E (tgt := 68) dX7_used_64 (by decide) ?_
                refine j_istore E dX7_used_68 (by decide) ?_
                refine j_aload_n E dX7_used_70 rfl ?_
                refine j_iload E dX7_used_71 rfl ?_
                refine j_if_eq E (tgt := 80) dX7_used_73 (by decide) (fun c7 => ?_) (fun c7 => ?_)
                · exact absurd c7 (by decide)
                ·
                  refine j_iconst (x := nI 0) E dX7_used_76 (by decide) ?_
                  refine j_goto E (tgt := 81) dX7_used_77 (by decide) ?_
                  refine j_putfield (ref := "ColourPartsModel") (C := RX7) (T := TX7) (N := 27) (ci := 8) E 0 dX7_used_81 iw_X7_used_X7 tyX7 tyX7_ok nmX7 rfl (by decide) (by decide +kernel) rfl rfl rfl rfl hM.obj (Nat.le_of_ble_eq_true rfl) ?_
                  refine MR.gen (hM.pS 0 _ (by decide) rfl) (fun h hM => ?_)
                  refine j_iload E dX7_used_84 rfl ?_
                  refine j_if_eq E (tgt := 114) dX7_used_86 (by decide) (fun c8 => ?_) (fun c8 => ?_)
                  · exact absurd c8 (by decide)
                  ·
                    refine j_aload_n E dX7_used_89 rfl ?_
                    refine j_getfield (ref := "ColourPartsModel") (C := RX7) (T := TX7) (N := 27) (ci := 8) E 21 dX7_used_90 iw_X7_used_X7 rfl (by decide) (by decide +kernel) rfl hM.obj rfl ?_
                    refine j_iload_n E dX7_used_93 rfl ?_
                    refine j_iload_n E dX7_used_94 rfl ?_
                    refine j_iadd E dX7_used_95 ?_
                    refine J.topi (x' := nI (f + q)) (nI_add _ _) ?_
                    refine j_iaload E (f + q) dX7_used_96 (hM.gI 21 12 (by decide)) rfl (by omega) (by omega) ?_
                    refine J.topi (x' := nI (kC ps (f + q))) ((k4 _ (by omega)).2.1) ?_
                    refine j_aload_n E dX7_used_97 rfl ?_
                    refine j_getfield (ref := "ColourPartsModel") (C := RX7) (T := TX7) (N := 27) (ci := 8) E 21 dX7_used_98 iw_X7_used_X7 rfl (by decide) (by decide +kernel) rfl hM.obj rfl ?_
                    refine j_iload_n E dX7_used_101 rfl ?_
                    refine j_iload_n E dX7_used_102 rfl ?_
                    refine j_iadd E dX7_used_103 ?_
                    refine J.topi (x' := nI (f + q)) (nI_add _ _) ?_
                    refine j_iconst (x := nI 1) E dX7_used_104 (by decide) ?_
                    refine j_iadd E dX7_used_105 ?_
                    refine J.topi (x' := nI (f + q + 1)) (nI_1 _) ?_
                    refine j_iaload E (f + q + 1) dX7_used_106 (hM.gI 21 12 (by decide)) rfl (by omega) (by omega) ?_
                    refine J.topi (x' := nI (kC ps (f + q + 1))) ((k4 _ hql).2.1) ?_
                    refine j_icmp_eq E (tgt := 114) dX7_used_107 (by decide) (fun c9 => ?_) (fun c9 => ?_)
                    · have e7 := (nI_eq (by omega) (by omega)).mp c9
                      refine j_iconst (x := nI 0) E dX7_used_114 (by decide) ?_
                      rw [← hQ]
                      exact j_iret E dX7_used_115 rfl rfl (by omega) (by omega) ⟨⟨_, rfl⟩, post _ (by rw [bI_f (fun w => w e7)]; rfl) _ hM⟩
                    ·
                      refine j_iconst (x := nI 1) E dX7_used_110 (by decide) ?_
                      refine j_goto E (tgt := 115) dX7_used_111 (by decide) ?_
                      rw [← hQ]
                      exact j_iret E dX7_used_115 rfl rfl (by omega) (by omega) ⟨⟨_, rfl⟩, post _ (by rw [bI_t (fun w => c9 (by rw [w]))]; rfl) _ hM⟩
    ·
      refine j_goto E (tgt := 17) dX7_used_13 (by decide) ?_
      refine j_istore_n E dX7_used_17 (by decide) ?_
      refine j_iload_n E dX7_used_18 rfl ?_
      refine j_iconst (x := (-1)) E dX7_used_19 (by decide) ?_
      refine j_icmp_eq E (tgt := 67) dX7_used_20 (by decide) (fun c2 => ?_) (fun c2 => ?_)
      · refine J.sub [(3, .int (-1)), (2, .int k), (1, .int (nI j)), (0, .ref m)] ⟨rfl, rfl, rfl, rfl, trivial⟩ ?_
        exact no _ (fun ⟨j2, q, h1, h2, h3, h4, ps, f, h5, h6, _⟩ => hno ps f h5 (by rw [← hjj j2 h1 h2]; exact h6))
      · exact absurd rfl c2
theorem iw_X7_balance_X7 : ∀ w ∈ u_ws RX7 TX7 27, w ∈ wsX7_balance := by decide +kernel
theorem m_balance (v : Nat) (hM : MR h0 h m a (lZ d) s I G) (K : MK kp rg cl s I G) (hk : wfK kp) (c p : Int32) : CM l B E0 D yX7_balance wsX7_balance (v + 1) 0 0 [.ref m, .int c, .int p] h (fun r h1 => (∃ y : Int64, r = some (.long y)) ∧ (MR h0 h1 m a (lZ d) (uA s 0 (cdBal c p)) I G ∧ (cdBal c p = 0 → (kp = none → r = some (.long (lZ 0))) ∧ ∀ ps, kp = some ps → r = some (.long (lZ (balU ps c p ps.length)))))) := by
  refine CM.of (cc := cX7_balance) (maxL := 6) (ret := (some .long)) (by decide) rfl (Nat.le_of_ble_eq_true rfl) (fun X E hin => ?_)
  show J X B D 6 _ h 0 0 0 [(0, .ref m), (1, .int c), (2, .int p)] []
  generalize hQ : jQ X B D _ _ _ = Q
  have tail : ∀ q, q = cdBal c p → J X B D 6 Q h 0 0 28 [(0, .ref m), (1, .int c), (2, .int p)] [.int q, .ref m] := by
    intro q hq
    refine j_putfield (ref := "ColourPartsModel") (C := RX7) (T := TX7) (N := 27) (ci := 8) E 0 dX7_balance_28 iw_X7_balance_X7 tyX7 tyX7_ok nmX7 rfl (by decide) (by decide +kernel) rfl rfl rfl rfl hM.obj (Nat.le_of_ble_eq_true rfl) ?_
    refine MR.gen (hM.pS 0 _ (by decide) rfl) (fun h hM => ?_)
    refine j_lconst (x := lZ 0) E dX7_balance_31 (by decide) ?_
    refine j_lstore_n E dX7_balance_32 (by decide) ?_
    refine j_iconst (x := nI 0) E dX7_balance_33 (by decide) ?_
    refine j_istore E dX7_balance_34 (by decide) ?_
    subst hq
    have fin : ∀ x, (cdBal c p = 0 → (kp = none → x = 0) ∧ ∀ ps, kp = some ps → x = balU ps c p ps.length) → J X B D 6 Q h 0 0 94 [(3, .long (lZ x)), (0, .ref m)] [] := by
      intro x hx
      refine j_lload_n E dX7_balance_94 rfl ?_
      rw [← hQ]
      exact j_lret E dX7_balance_95 rfl (by omega) (by omega) ⟨⟨_, rfl⟩, ⟨hM, fun e => ⟨fun e2 => by rw [(hx e).1 e2], fun ps e2 => by rw [(hx e).2 ps e2]⟩⟩⟩
    cases kp with
    | none =>
      refine j_iload E dX7_balance_36 rfl ?_
      refine j_aload_n E dX7_balance_38 rfl ?_
      refine j_getfield (ref := "ColourPartsModel") (C := RX7) (T := TX7) (N := 27) (ci := 8) E 18 dX7_balance_39 iw_X7_balance_X7 rfl (by decide) (by decide +kernel) rfl hM.obj rfl ?_
      refine j_icmp_ge E (tgt := 94) dX7_balance_42 (by decide) (fun c1 => ?_) (fun c1 => ?_)
      · refine J.sub [(3, .long (lZ 0)), (0, .ref m)] ⟨rfl, rfl, trivial⟩ ?_
        exact fin 0 (fun _ => ⟨fun _ => rfl, fun ps e => by cases e⟩)
      ·
        refine j_aload_n E dX7_balance_45 rfl ?_
        refine j_getfield (ref := "ColourPartsModel") (C := RX7) (T := TX7) (N := 27) (ci := 8) E 17 dX7_balance_46 iw_X7_balance_X7 rfl (by decide) (by decide +kernel) rfl hM.obj rfl ?_
        refine J.topi (x' := (0 : Int32)) (K.2.2.2.1 rfl) ?_
        refine j_if_eq E (tgt := 94) dX7_balance_49 (by decide) (fun c2 => ?_) (fun c2 => ?_)
        · refine J.sub [(3, .long (lZ 0)), (0, .ref m)] ⟨rfl, rfl, trivial⟩ ?_
          exact fin 0 (fun _ => ⟨fun _ => rfl, fun ps e => by cases e⟩)
        · exact absurd rfl c2
    | some ps =>
      obtain ⟨k1, k2, k3, k4⟩ := K.2.2.2.2 ps rfl
      obtain ⟨hl2, hk2⟩ := id hk ps rfl
      have key : ∀ (t i : Nat), i + t = ps.length → J X B D 6 Q h 0 0 36 [(5, .int (nI i)), (3, .long (lZ (balU ps c p i))), (2, .int p), (1, .int c), (0, .ref m)] [] := by
        intro t
        induction t with
        | zero =>
          intro i hi
          refine j_iload E dX7_balance_36 rfl ?_
          refine j_aload_n E dX7_balance_38 rfl ?_
          refine j_getfield (ref := "ColourPartsModel") (C := RX7) (T := TX7) (N := 27) (ci := 8) E 18 dX7_balance_39 iw_X7_balance_X7 rfl (by decide) (by decide +kernel) rfl hM.obj rfl ?_
          refine J.topi (x' := nI ps.length) (k2) ?_
          refine j_icmp_ge E (tgt := 94) dX7_balance_42 (by decide) (fun c1 => ?_) (fun c1 => ?_)
          · refine J.sub [(3, .long (lZ (balU ps c p i))), (0, .ref m)] ⟨rfl, rfl, trivial⟩ ?_
            exact fin _ (fun _ => ⟨fun e => (by cases e), fun ps2 e => by cases e; rw [show i = ps.length by omega]⟩)
          · exact absurd (nI_le (show ps.length ≤ i by omega) (by omega)) c1
        | succ t ih =>
          intro i hi
          have hil : i < ps.length := by omega
          refine j_iload E dX7_balance_36 rfl ?_
          refine j_aload_n E dX7_balance_38 rfl ?_
          refine j_getfield (ref := "ColourPartsModel") (C := RX7) (T := TX7) (N := 27) (ci := 8) E 18 dX7_balance_39 iw_X7_balance_X7 rfl (by decide) (by decide +kernel) rfl hM.obj rfl ?_
          refine J.topi (x' := nI ps.length) (k2) ?_
          refine j_icmp_ge E (tgt := 94) dX7_balance_42 (by decide) (fun c1 => ?_) (fun c1 => ?_)
          · exact absurd c1 (nI_ge hil (by omega))
          ·
            refine j_aload_n E dX7_balance_45 rfl ?_
            refine j_getfield (ref := "ColourPartsModel") (C := RX7) (T := TX7) (N := 27) (ci := 8) E 17 dX7_balance_46 iw_X7_balance_X7 rfl (by decide) (by decide +kernel) rfl hM.obj rfl ?_
            refine J.topi (x' := (1 : Int32)) (k1) ?_
            refine j_if_eq E (tgt := 94) dX7_balance_49 (by decide) (fun c2 => ?_) (fun c2 => ?_)
            · exact absurd c2 (by decide)
            ·
              refine j_aload_n E dX7_balance_52 rfl ?_
              refine j_getfield (ref := "ColourPartsModel") (C := RX7) (T := TX7) (N := 27) (ci := 8) E 0 dX7_balance_53 iw_X7_balance_X7 rfl (by decide) (by decide +kernel) rfl hM.obj rfl ?_
              refine J.topi (x' := cdBal c p) (uA_eq _ _ _) ?_
              refine j_if_ne E (tgt := 94) dX7_balance_56 (by decide) (fun c3 => ?_) (fun c3 => ?_)
              · refine J.sub [(3, .long (lZ (balU ps c p i))), (0, .ref m)] ⟨rfl, rfl, trivial⟩ ?_
                exact fin _ (fun e => absurd e c3)
              · have step : ∀ x, x = balU ps c p (i + 1) → J X B D 6 Q h 0 0 88 [(5, .int (nI i)), (3, .long (lZ x)), (2, .int p), (1, .int c), (0, .ref m)] [] := by
                  intro x hx
                  subst hx
                  refine j_iinc E dX7_balance_88 rfl (nI_1 i) (by decide) ?_
                  refine j_goto E (tgt := 36) dX7_balance_91 (by decide) ?_
                  refine J.sub [(5, .int (nI (i + 1))), (3, .long (lZ (balU ps c p (i + 1)))), (2, .int p), (1, .int c), (0, .ref m)] ⟨rfl, rfl, rfl, rfl, rfl, trivial⟩ ?_
                  exact ih (i + 1) (by omega)
                refine j_aload_n E dX7_balance_59 rfl ?_
                refine j_getfield (ref := "ColourPartsModel") (C := RX7) (T := TX7) (N := 27) (ci := 8) E 21 dX7_balance_60 iw_X7_balance_X7 rfl (by decide) (by decide +kernel) rfl hM.obj rfl ?_
                refine j_iload E dX7_balance_63 rfl ?_
                refine j_iaload E i dX7_balance_65 (hM.gI 21 12 (by decide)) rfl (by omega) (by omega) ?_
                refine J.topi (x' := nI (kC ps i)) ((k4 i hil).2.1) ?_
                refine j_iload_n E dX7_balance_66 rfl ?_
                refine j_icmp_ne E (tgt := 88) dX7_balance_67 (by decide) (fun c4 => ?_) (fun c4 => ?_)
                · refine J.sub [(5, .int (nI i)), (3, .long (lZ (balU ps c p i))), (2, .int p), (1, .int c), (0, .ref m)] ⟨rfl, rfl, rfl, rfl, rfl, trivial⟩ ?_
                  exact step _ (by show _ = _ + cI _ _ _; rw [cI_f c4]; omega)
                ·
                  refine j_lload_n E dX7_balance_70 rfl ?_
                  refine j_iload_n E dX7_balance_71 rfl ?_
                  refine j_if_ne E (tgt := 79) dX7_balance_72 (by decide) (fun c5 => ?_) (fun c5 => ?_)
                  ·
                    refine j_aload_n E dX7_balance_79 rfl ?_
                    refine j_getfield (ref := "ColourPartsModel") (C := RX7) (T := TX7) (N := 27) (ci := 8) E 22 dX7_balance_80 iw_X7_balance_X7 rfl (by decide) (by decide +kernel) rfl hM.obj rfl ?_
                    refine j_iload E dX7_balance_83 rfl ?_
                    refine j_laload E i dX7_balance_85 (hM.gJ 22 12 (by decide)) rfl (by omega) (by omega) ?_
                    refine J.topl (x' := lZ (kA ps i)) ((k4 i hil).2.2) ?_
                    refine j_ladd E dX7_balance_86 ?_
                    refine J.topl (x' := lZ (balU ps c p i + kA ps i)) (lZ_add _ _) ?_
                    refine j_lstore_n E dX7_balance_87 (by decide) ?_
                    refine J.sub [(5, .int (nI i)), (3, .long (lZ (balU ps c p i + kA ps i))), (2, .int p), (1, .int c), (0, .ref m)] ⟨rfl, rfl, rfl, rfl, rfl, trivial⟩ ?_
                    exact step _ (by show _ = _ + cI _ _ _; rw [cI_t c4, cI_f c5])
                  ·
                    refine j_lconst (x := lZ 1) E dX7_balance_75 (by decide) ?_
                    refine j_goto E (tgt := 86) dX7_balance_76 (by decide) ?_
                    refine j_ladd E dX7_balance_86 ?_
                    refine J.topl (x' := lZ (balU ps c p i + 1)) (lZ_add _ _) ?_
                    refine j_lstore_n E dX7_balance_87 (by decide) ?_
                    refine J.sub [(5, .int (nI i)), (3, .long (lZ (balU ps c p i + 1))), (2, .int p), (1, .int c), (0, .ref m)] ⟨rfl, rfl, rfl, rfl, rfl, trivial⟩ ?_
                    exact step _ (by show _ = _ + cI _ _ _; rw [cI_t c4, cI_t c5])
      refine J.sub [(5, .int (nI 0)), (3, .long (lZ (balU ps c p 0))), (2, .int p), (1, .int c), (0, .ref m)] ⟨rfl, rfl, rfl, rfl, rfl, trivial⟩ ?_
      exact key ps.length 0 (by omega)
  refine j_aload_n E dX7_balance_0 rfl ?_
  refine j_iload_n E dX7_balance_1 rfl ?_
  have b1 : (p < 0 ∨ nI 1 < p) → J X B D 6 Q h 0 0 10 [(0, .ref m), (1, .int c), (2, .int p)] [.ref m] := by
    intro w
    refine j_iconst (x := nI 1) E dX7_balance_10 (by decide) ?_
    refine j_goto E (tgt := 28) dX7_balance_11 (by decide) ?_
    exact tail _ (by rw [cdBal, cI_t w]; rfl)
  have b2 : ¬ (p < 0 ∨ nI 1 < p) → (c < 0 ∨ nI 3 < c) → J X B D 6 Q h 0 0 23 [(0, .ref m), (1, .int c), (2, .int p)] [.ref m] := by
    intro w w2
    refine j_iconst (x := nI 2) E dX7_balance_23 (by decide) ?_
    refine j_goto E (tgt := 28) dX7_balance_24 (by decide) ?_
    exact tail _ (by rw [cdBal, cI_f w, cI_t w2]; rfl)
  refine j_if_lt E (tgt := 10) dX7_balance_2 (by decide) (fun c1 => ?_) (fun c1 => ?_)
  · exact b1 (Or.inl c1)
  ·
    refine j_iload_n E dX7_balance_5 rfl ?_
    refine j_iconst (x := nI 1) E dX7_balance_6 (by decide) ?_
    refine j_icmp_le E (tgt := 14) dX7_balance_7 (by decide) (fun c2 => ?_) (fun c2 => ?_)
    · have n1 : ¬ (p < 0 ∨ nI 1 < p) := fun w => w.elim c1 (fun w => Int32.not_lt.mpr c2 w)
      refine j_iload_n E dX7_balance_14 rfl ?_
      refine j_if_lt E (tgt := 23) dX7_balance_15 (by decide) (fun c3 => ?_) (fun c3 => ?_)
      · exact b2 n1 (Or.inl c3)
      ·
        refine j_iload_n E dX7_balance_18 rfl ?_
        refine j_iconst (x := nI 3) E dX7_balance_19 (by decide) ?_
        refine j_icmp_le E (tgt := 27) dX7_balance_20 (by decide) (fun c4 => ?_) (fun c4 => ?_)
        ·
          refine j_iconst (x := nI 0) E dX7_balance_27 (by decide) ?_
          exact tail _ (by rw [cdBal, cI_f n1, cI_f (fun w => w.elim c3 (fun w => Int32.not_lt.mpr c4 w))]; rfl)
        · exact b2 n1 (Or.inr (Int32.not_le.mp c4))
    · exact b1 (Or.inr (Int32.not_le.mp c2))
end M8
