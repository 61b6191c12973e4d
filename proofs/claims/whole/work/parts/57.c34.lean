/-! a colouring kept: its cells, its small methods -/
theorem sh0 : ∀ k, k < 12 → nI 0 <<< (nI k &&& 31) = nI 0 := by decide +kernel
def KO (h : HM) (ko : Nat) (k : Nat → Nat) (u : Int32) (f0 f1 f2 f3 : Nat → Int32) (f4 : Nat → Int64) : Prop := h ko = some (hO 2 [.ref (k 0), .ref (k 1), .ref (k 2), .ref (k 3), .ref (k 4), .int u]) ∧ (h (k 0) = some (hI 10 f0) ∧ h (k 1) = some (hI 10 f1) ∧ h (k 2) = some (hI 10 f2) ∧ h (k 3) = some (hI 4 f3) ∧ h (k 4) = some (hJ 4 f4)) ∧ ∀ i j, i < 5 → j < 5 → i ≠ j → k i ≠ k j
section C34
variable {l : Launch} {B E0 : Nat} {D : va_G} {h : HM} {ko : Nat} {k : Nat → Nat} {u : Int32} {f0 f1 f2 f3 : Nat → Int32} {f4 : Nat → Int64}
theorem KO.ne (R : KO h ko k u f0 f1 f2 f3 f4) : ko ≠ k 0 ∧ ko ≠ k 1 ∧ ko ≠ k 2 ∧ ko ≠ k 3 ∧ ko ≠ k 4 := by
  obtain ⟨R0, ⟨a0, a1, a2, a3, a4⟩, -⟩ := R
  exact ⟨hm_ne R0 a0 (by intro z; cases z), hm_ne R0 a1 (by intro z; cases z), hm_ne R0 a2 (by intro z; cases z), hm_ne R0 a3 (by intro z; cases z), hm_ne R0 a4 (by intro z; cases z)⟩
theorem KO.p0 (R : KO h ko k u f0 f1 f2 f3 f4) (g : Nat → Int32) : KO (hput h (k 0) (hI 10 g)) ko k u g f1 f2 f3 f4 := by
  have n := R.ne
  obtain ⟨R0, ⟨a0, a1, a2, a3, a4⟩, d⟩ := R
  exact ⟨(hput_ne _ n.1).trans R0, ⟨hput_eq _ _ _, (hput_ne _ (d 1 0 (by decide) (by decide) (by decide))).trans a1, (hput_ne _ (d 2 0 (by decide) (by decide) (by decide))).trans a2, (hput_ne _ (d 3 0 (by decide) (by decide) (by decide))).trans a3, (hput_ne _ (d 4 0 (by decide) (by decide) (by decide))).trans a4⟩, d⟩
theorem KO.p12 (R : KO h ko k u f0 f1 f2 f3 f4) (g g2 : Nat → Int32) : KO (hput (hput h (k 2) (hI 10 g2)) (k 1) (hI 10 g)) ko k u f0 g g2 f3 f4 := by
  have n := R.ne
  obtain ⟨R0, ⟨a0, a1, a2, a3, a4⟩, d⟩ := R
  refine ⟨(hput_ne _ n.2.1).trans ((hput_ne _ n.2.2.1).trans R0), ⟨?_, hput_eq _ _ _, (hput_ne _ (d 2 1 (by decide) (by decide) (by decide))).trans (hput_eq _ _ _), ?_, ?_⟩, d⟩
  · exact (hput_ne _ (d 0 1 (by decide) (by decide) (by decide))).trans ((hput_ne _ (d 0 2 (by decide) (by decide) (by decide))).trans a0)
  · exact (hput_ne _ (d 3 1 (by decide) (by decide) (by decide))).trans ((hput_ne _ (d 3 2 (by decide) (by decide) (by decide))).trans a3)
  · exact (hput_ne _ (d 4 1 (by decide) (by decide) (by decide))).trans ((hput_ne _ (d 4 2 (by decide) (by decide) (by decide))).trans a4)
theorem KO.p34 (R : KO h ko k u f0 f1 f2 f3 f4) (g : Nat → Int32) (g2 : Nat → Int64) : KO (hput (hput h (k 3) (hI 4 g)) (k 4) (hJ 4 g2)) ko k u f0 f1 f2 g g2 := by
  have n := R.ne
  obtain ⟨R0, ⟨a0, a1, a2, a3, a4⟩, d⟩ := R
  refine ⟨(hput_ne _ n.2.2.2.2).trans ((hput_ne _ n.2.2.2.1).trans R0), ⟨?_, ?_, ?_, (hput_ne _ (d 3 4 (by decide) (by decide) (by decide))).trans (hput_eq _ _ _), hput_eq _ _ _⟩, d⟩
  · exact (hput_ne _ (d 0 4 (by decide) (by decide) (by decide))).trans ((hput_ne _ (d 0 3 (by decide) (by decide) (by decide))).trans a0)
  · exact (hput_ne _ (d 1 4 (by decide) (by decide) (by decide))).trans ((hput_ne _ (d 1 3 (by decide) (by decide) (by decide))).trans a1)
  · exact (hput_ne _ (d 2 4 (by decide) (by decide) (by decide))).trans ((hput_ne _ (d 2 3 (by decide) (by decide) (by decide))).trans a2)
theorem iw_X1_noteFirst_X1 : ∀ w ∈ u_ws RX1 TX1 6, w ∈ wsX1_noteFirst := by decide +kernel
theorem c_noteFirst (v : Nat) (R : KO h ko k u f0 f1 f2 f3 f4) {s : Nat} (hs : s < 10) (y : Int32) : CM l B E0 D yX1_noteFirst wsX1_noteFirst (v + 1) 0 0 [.ref ko, .int (nI s), .int y] h (fun r h1 => r = none ∧ h1 = hput h (k 0) (hI 10 (upd f0 s y))) := by
  obtain ⟨R0, ⟨a0, a1, a2, a3, a4⟩, d⟩ := R
  refine CM.of (cc := cX1_noteFirst) (maxL := 3) (ret := none) (by decide) rfl (Nat.le_of_ble_eq_true rfl) (fun X E hin => ?_)
  show J X B D 3 _ h 0 0 0 [(0, .ref ko), (1, .int (nI s)), (2, .int y)] []
  generalize hQ : jQ X B D _ _ _ = Q
  refine j_iload_n E dX1_noteFirst_0 rfl ?_
  refine j_if_lt E (tgt := 17) dX1_noteFirst_1 (by decide) (fun c1 => ?_) (fun c1 => ?_)
  · exact absurd c1 (nI_pos (by omega))
  ·
    refine j_iload_n E dX1_noteFirst_4 rfl ?_
    refine j_bipush (x := nI 10) E dX1_noteFirst_5 (by decide) ?_
    refine j_icmp_ge E (tgt := 17) dX1_noteFirst_7 (by decide) (fun c2 => ?_) (fun c2 => ?_)
    · exact absurd c2 (nI_ge hs (by decide))
    ·
      refine j_aload_n E dX1_noteFirst_10 rfl ?_
      refine j_getfield (ref := "ColourParts$Colouring") (C := RX1) (T := TX1) (N := 6) (ci := 2) E 0 dX1_noteFirst_11 iw_X1_noteFirst_X1 rfl (by decide) (by decide +kernel) rfl (by first | with_reducible assumption | exact hput_eq _ _ _ | exact (hput_ne _ (by first | assumption | exact Ne.symm (by assumption))).trans (by assumption) | exact (hput_ne _ (by first | assumption | exact Ne.symm (by assumption))).trans (hput_eq _ _ _) | exact (hput_ne _ (by first | assumption | exact Ne.symm (by assumption))).trans ((hput_ne _ (by first | assumption | exact Ne.symm (by assumption))).trans (by assumption)) | exact (hput_ne _ (by first | assumption | exact Ne.symm (by assumption))).trans ((hput_ne _ (by first | assumption | exact Ne.symm (by assumption))).trans (hput_eq _ _ _))) rfl ?_
      refine j_iload_n E dX1_noteFirst_14 rfl ?_
      refine j_iload_n E dX1_noteFirst_15 rfl ?_
      refine j_iastore E s dX1_noteFirst_16 (by first | with_reducible assumption | exact hput_eq _ _ _ | exact (hput_ne _ (by first | assumption | exact Ne.symm (by assumption))).trans (by assumption) | exact (hput_ne _ (by first | assumption | exact Ne.symm (by assumption))).trans (hput_eq _ _ _) | exact (hput_ne _ (by first | assumption | exact Ne.symm (by assumption))).trans ((hput_ne _ (by first | assumption | exact Ne.symm (by assumption))).trans (by assumption)) | exact (hput_ne _ (by first | assumption | exact Ne.symm (by assumption))).trans ((hput_ne _ (by first | assumption | exact Ne.symm (by assumption))).trans (hput_eq _ _ _))) rfl (by omega) (by omega) ?_
      rw [← hQ]
      exact j_vret E dX1_noteFirst_17 rfl (by omega) (by omega) ⟨rfl, rfl⟩
theorem iw_X1_weigh_X1 : ∀ w ∈ u_ws RX1 TX1 6, w ∈ wsX1_weigh := by decide +kernel
theorem c_weigh (v : Nat) (R : KO h ko k u f0 f1 f2 f3 f4) {c : Nat} (hc : c < 4) (a : Int) : CM l B E0 D yX1_weigh wsX1_weigh (v + 1) 0 0 [.ref ko, .int (nI c), .long (lZ a)] h (fun r h1 => r = none ∧ h1 = hput (hput h (k 3) (hI 4 (upd f3 c (f3 c + nI 1)))) (k 4) (hJ 4 (vp_updL f4 c (f4 c + lZ a)))) := by
  have n := R.ne
  obtain ⟨R0, ⟨a0, a1, a2, a3, a4⟩, d⟩ := R
  refine CM.of (cc := cX1_weigh) (maxL := 4) (ret := none) (by decide) rfl (Nat.le_of_ble_eq_true rfl) (fun X E hin => ?_)
  show J X B D 4 _ h 0 0 0 [(0, .ref ko), (1, .int (nI c)), (2, .long (lZ a))] []
  generalize hQ : jQ X B D _ _ _ = Q
  have n3 := n.2.2.2.1
  have n43 := d 4 3 (by decide) (by decide) (by decide)
  refine j_iload_n E dX1_weigh_0 rfl ?_
  refine j_if_lt E (tgt := 29) dX1_weigh_1 (by decide) (fun c1 => ?_) (fun c1 => ?_)
  · exact absurd c1 (nI_pos (by omega))
  ·
    refine j_iload_n E dX1_weigh_4 rfl ?_
    refine j_iconst (x := nI 4) E dX1_weigh_5 (by decide) ?_
    refine j_icmp_ge E (tgt := 29) dX1_weigh_6 (by decide) (fun c2 => ?_) (fun c2 => ?_)
    · exact absurd c2 (nI_ge hc (by decide))
    ·
      refine j_aload_n E dX1_weigh_9 rfl ?_
      refine j_getfield (ref := "ColourParts$Colouring") (C := RX1) (T := TX1) (N := 6) (ci := 2) E 3 dX1_weigh_10 iw_X1_weigh_X1 rfl (by decide) (by decide +kernel) rfl (by first | with_reducible assumption | exact hput_eq _ _ _ | exact (hput_ne _ (by first | assumption | exact Ne.symm (by assumption))).trans (by assumption) | exact (hput_ne _ (by first | assumption | exact Ne.symm (by assumption))).trans (hput_eq _ _ _) | exact (hput_ne _ (by first | assumption | exact Ne.symm (by assumption))).trans ((hput_ne _ (by first | assumption | exact Ne.symm (by assumption))).trans (by assumption)) | exact (hput_ne _ (by first | assumption | exact Ne.symm (by assumption))).trans ((hput_ne _ (by first | assumption | exact Ne.symm (by assumption))).trans (hput_eq _ _ _))) rfl ?_
      refine j_iload_n E dX1_weigh_13 rfl ?_
      refine j_dup2 E dX1_weigh_14 rfl rfl ?_
      refine j_iaload E c dX1_weigh_15 (by first | with_reducible assumption | exact hput_eq _ _ _ | exact (hput_ne _ (by first | assumption | exact Ne.symm (by assumption))).trans (by assumption) | exact (hput_ne _ (by first | assumption | exact Ne.symm (by assumption))).trans (hput_eq _ _ _) | exact (hput_ne _ (by first | assumption | exact Ne.symm (by assumption))).trans ((hput_ne _ (by first | assumption | exact Ne.symm (by assumption))).trans (by assumption)) | exact (hput_ne _ (by first | assumption | exact Ne.symm (by assumption))).trans ((hput_ne _ (by first | assumption | exact Ne.symm (by assumption))).trans (hput_eq _ _ _))) rfl (by omega) (by omega) ?_
      refine j_iconst (x := nI 1) E dX1_weigh_16 (by decide) ?_
      refine j_iadd E dX1_weigh_17 ?_
      refine j_iastore E c dX1_weigh_18 (by first | with_reducible assumption | exact hput_eq _ _ _ | exact (hput_ne _ (by first | assumption | exact Ne.symm (by assumption))).trans (by assumption) | exact (hput_ne _ (by first | assumption | exact Ne.symm (by assumption))).trans (hput_eq _ _ _) | exact (hput_ne _ (by first | assumption | exact Ne.symm (by assumption))).trans ((hput_ne _ (by first | assumption | exact Ne.symm (by assumption))).trans (by assumption)) | exact (hput_ne _ (by first | assumption | exact Ne.symm (by assumption))).trans ((hput_ne _ (by first | assumption | exact Ne.symm (by assumption))).trans (hput_eq _ _ _))) rfl (by omega) (by omega) ?_
      refine j_aload_n E dX1_weigh_19 rfl ?_
      refine j_getfield (ref := "ColourParts$Colouring") (C := RX1) (T := TX1) (N := 6) (ci := 2) E 4 dX1_weigh_20 iw_X1_weigh_X1 rfl (by decide) (by decide +kernel) rfl (by first | with_reducible assumption | exact hput_eq _ _ _ | exact (hput_ne _ (by first | assumption | exact Ne.symm (by assumption))).trans (by assumption) | exact (hput_ne _ (by first | assumption | exact Ne.symm (by assumption))).trans (hput_eq _ _ _) | exact (hput_ne _ (by first | assumption | exact Ne.symm (by assumption))).trans ((hput_ne _ (by first | assumption | exact Ne.symm (by assumption))).trans (by assumption)) | exact (hput_ne _ (by first | assumption | exact Ne.symm (by assumption))).trans ((hput_ne _ (by first | assumption | exact Ne.symm (by assumption))).trans (hput_eq _ _ _))) rfl ?_
      refine j_iload_n E dX1_weigh_23 rfl ?_
      refine j_dup2 E dX1_weigh_24 rfl rfl ?_
      refine j_laload E c dX1_weigh_25 (by first | with_reducible assumption | exact hput_eq _ _ _ | exact (hput_ne _ (by first | assumption | exact Ne.symm (by assumption))).trans (by assumption) | exact (hput_ne _ (by first | assumption | exact Ne.symm (by assumption))).trans (hput_eq _ _ _) | exact (hput_ne _ (by first | assumption | exact Ne.symm (by assumption))).trans ((hput_ne _ (by first | assumption | exact Ne.symm (by assumption))).trans (by assumption)) | exact (hput_ne _ (by first | assumption | exact Ne.symm (by assumption))).trans ((hput_ne _ (by first | assumption | exact Ne.symm (by assumption))).trans (hput_eq _ _ _))) rfl (by omega) (by omega) ?_
      refine j_lload_n E dX1_weigh_26 rfl ?_
      refine j_ladd E dX1_weigh_27 ?_
      refine j_lastore E c dX1_weigh_28 (by first | with_reducible assumption | exact hput_eq _ _ _ | exact (hput_ne _ (by first | assumption | exact Ne.symm (by assumption))).trans (by assumption) | exact (hput_ne _ (by first | assumption | exact Ne.symm (by assumption))).trans (hput_eq _ _ _) | exact (hput_ne _ (by first | assumption | exact Ne.symm (by assumption))).trans ((hput_ne _ (by first | assumption | exact Ne.symm (by assumption))).trans (by assumption)) | exact (hput_ne _ (by first | assumption | exact Ne.symm (by assumption))).trans ((hput_ne _ (by first | assumption | exact Ne.symm (by assumption))).trans (hput_eq _ _ _))) rfl (by omega) (by omega) ?_
      rw [← hQ]
      exact j_vret E dX1_weigh_29 rfl (by omega) (by omega) ⟨rfl, rfl⟩
theorem iw_X1_noteStitch_X1 : ∀ w ∈ u_ws RX1 TX1 6, w ∈ wsX1_noteStitch := by decide +kernel
theorem c_noteStitch (v : Nat) (R : KO h ko k u f0 f1 f2 f3 f4) {s n : Nat} (hs : s < 10) {S : Nat → Prop} (z : Prop) (hn : f1 s = nI n) (hS : f2 s = bS S) (hn12 : n < 12) : CM l B E0 D yX1_noteStitch wsX1_noteStitch (v + 1) 0 0 [.ref ko, .int (nI s), .int (bI z)] h (fun r h1 => r = none ∧ h1 = hput (hput h (k 2) (hI 10 (upd f2 s (bS (fun i => S i ∨ (i = n ∧ z)))))) (k 1) (hI 10 (upd f1 s (nI (n + 1))))) := by
  have nn := R.ne
  obtain ⟨R0, ⟨a0, a1, a2, a3, a4⟩, d⟩ := R
  refine CM.of (cc := cX1_noteStitch) (maxL := 3) (ret := none) (by decide) rfl (Nat.le_of_ble_eq_true rfl) (fun X E hin => ?_)
  show J X B D 3 _ h 0 0 0 [(0, .ref ko), (1, .int (nI s)), (2, .int (bI z))] []
  generalize hQ : jQ X B D _ _ _ = Q
  have n2 := nn.2.2.1
  have n12 := d 1 2 (by decide) (by decide) (by decide)
  have fin : ∀ x : Int32, bS S ||| (x <<< (nI n &&& 31)) = bS (fun i => S i ∨ (i = n ∧ z)) → J X B D 3 Q h 0 0 26 [(0, .ref ko), (1, .int (nI s))] [.int x, .int (bS S), .int (nI s), .ref (k 2)] := by
    intro x hx
    refine j_aload_n E dX1_noteStitch_26 rfl ?_
    refine j_getfield (ref := "ColourParts$Colouring") (C := RX1) (T := TX1) (N := 6) (ci := 2) E 1 dX1_noteStitch_27 iw_X1_noteStitch_X1 rfl (by decide) (by decide +kernel) rfl (by first | with_reducible assumption | exact hput_eq _ _ _ | exact (hput_ne _ (by first | assumption | exact Ne.symm (by assumption))).trans (by assumption) | exact (hput_ne _ (by first | assumption | exact Ne.symm (by assumption))).trans (hput_eq _ _ _) | exact (hput_ne _ (by first | assumption | exact Ne.symm (by assumption))).trans ((hput_ne _ (by first | assumption | exact Ne.symm (by assumption))).trans (by assumption)) | exact (hput_ne _ (by first | assumption | exact Ne.symm (by assumption))).trans ((hput_ne _ (by first | assumption | exact Ne.symm (by assumption))).trans (hput_eq _ _ _))) rfl ?_
    refine j_iload_n E dX1_noteStitch_30 rfl ?_
    refine j_iaload E s dX1_noteStitch_31 (by first | with_reducible assumption | exact hput_eq _ _ _ | exact (hput_ne _ (by first | assumption | exact Ne.symm (by assumption))).trans (by assumption) | exact (hput_ne _ (by first | assumption | exact Ne.symm (by assumption))).trans (hput_eq _ _ _) | exact (hput_ne _ (by first | assumption | exact Ne.symm (by assumption))).trans ((hput_ne _ (by first | assumption | exact Ne.symm (by assumption))).trans (by assumption)) | exact (hput_ne _ (by first | assumption | exact Ne.symm (by assumption))).trans ((hput_ne _ (by first | assumption | exact Ne.symm (by assumption))).trans (hput_eq _ _ _))) rfl (by omega) (by omega) ?_
    refine J.topi (x' := nI n) (hn) ?_
    refine j_ishl E dX1_noteStitch_32 ?_
    refine j_ior E dX1_noteStitch_33 ?_
    refine J.topi (x' := bS (fun i => S i ∨ (i = n ∧ z))) (hx) ?_
    refine j_iastore E s dX1_noteStitch_34 (by first | with_reducible assumption | exact hput_eq _ _ _ | exact (hput_ne _ (by first | assumption | exact Ne.symm (by assumption))).trans (by assumption) | exact (hput_ne _ (by first | assumption | exact Ne.symm (by assumption))).trans (hput_eq _ _ _) | exact (hput_ne _ (by first | assumption | exact Ne.symm (by assumption))).trans ((hput_ne _ (by first | assumption | exact Ne.symm (by assumption))).trans (by assumption)) | exact (hput_ne _ (by first | assumption | exact Ne.symm (by assumption))).trans ((hput_ne _ (by first | assumption | exact Ne.symm (by assumption))).trans (hput_eq _ _ _))) rfl (by omega) (by omega) ?_
    refine j_aload_n E dX1_noteStitch_35 rfl ?_
    refine j_getfield (ref := "ColourParts$Colouring") (C := RX1) (T := TX1) (N := 6) (ci := 2) E 1 dX1_noteStitch_36 iw_X1_noteStitch_X1 rfl (by decide) (by decide +kernel) rfl (by first | with_reducible assumption | exact hput_eq _ _ _ | exact (hput_ne _ (by first | assumption | exact Ne.symm (by assumption))).trans (by assumption) | exact (hput_ne _ (by first | assumption | exact Ne.symm (by assumption))).trans (hput_eq _ _ _) | exact (hput_ne _ (by first | assumption | exact Ne.symm (by assumption))).trans ((hput_ne _ (by first | assumption | exact Ne.symm (by assumption))).trans (by assumption)) | exact (hput_ne _ (by first | assumption | exact Ne.symm (by assumption))).trans ((hput_ne _ (by first | assumption | exact Ne.symm (by assumption))).trans (hput_eq _ _ _))) rfl ?_
    refine j_iload_n E dX1_noteStitch_39 rfl ?_
    refine j_dup2 E dX1_noteStitch_40 rfl rfl ?_
    refine j_iaload E s dX1_noteStitch_41 (by first | with_reducible assumption | exact hput_eq _ _ _ | exact (hput_ne _ (by first | assumption | exact Ne.symm (by assumption))).trans (by assumption) | exact (hput_ne _ (by first | assumption | exact Ne.symm (by assumption))).trans (hput_eq _ _ _) | exact (hput_ne _ (by first | assumption | exact Ne.symm (by assumption))).trans ((hput_ne _ (by first | assumption | exact Ne.symm (by assumption))).trans (by assumption)) | exact (hput_ne _ (by first | assumption | exact Ne.symm (by assumption))).trans ((hput_ne _ (by first | assumption | exact Ne.symm (by assumption))).trans (hput_eq _ _ _))) rfl (by omega) (by omega) ?_
    refine J.topi (x' := nI n) (hn) ?_
    refine j_iconst (x := nI 1) E dX1_noteStitch_42 (by decide) ?_
    refine j_iadd E dX1_noteStitch_43 ?_
    refine J.topi (x' := nI (n + 1)) (nI_1 n) ?_
    refine j_iastore E s dX1_noteStitch_44 (by first | with_reducible assumption | exact hput_eq _ _ _ | exact (hput_ne _ (by first | assumption | exact Ne.symm (by assumption))).trans (by assumption) | exact (hput_ne _ (by first | assumption | exact Ne.symm (by assumption))).trans (hput_eq _ _ _) | exact (hput_ne _ (by first | assumption | exact Ne.symm (by assumption))).trans ((hput_ne _ (by first | assumption | exact Ne.symm (by assumption))).trans (by assumption)) | exact (hput_ne _ (by first | assumption | exact Ne.symm (by assumption))).trans ((hput_ne _ (by first | assumption | exact Ne.symm (by assumption))).trans (hput_eq _ _ _))) rfl (by omega) (by omega) ?_
    rw [← hQ]
    exact j_vret E dX1_noteStitch_45 rfl (by omega) (by omega) ⟨rfl, rfl⟩
  refine j_iload_n E dX1_noteStitch_0 rfl ?_
  refine j_if_lt E (tgt := 45) dX1_noteStitch_1 (by decide) (fun c1 => ?_) (fun c1 => ?_)
  · exact absurd c1 (nI_pos (by omega))
  ·
    refine j_iload_n E dX1_noteStitch_4 rfl ?_
    refine j_bipush (x := nI 10) E dX1_noteStitch_5 (by decide) ?_
    refine j_icmp_ge E (tgt := 45) dX1_noteStitch_7 (by decide) (fun c2 => ?_) (fun c2 => ?_)
    · exact absurd c2 (nI_ge hs (by decide))
    ·
      refine j_aload_n E dX1_noteStitch_10 rfl ?_
      refine j_getfield (ref := "ColourParts$Colouring") (C := RX1) (T := TX1) (N := 6) (ci := 2) E 2 dX1_noteStitch_11 iw_X1_noteStitch_X1 rfl (by decide) (by decide +kernel) rfl (by first | with_reducible assumption | exact hput_eq _ _ _ | exact (hput_ne _ (by first | assumption | exact Ne.symm (by assumption))).trans (by assumption) | exact (hput_ne _ (by first | assumption | exact Ne.symm (by assumption))).trans (hput_eq _ _ _) | exact (hput_ne _ (by first | assumption | exact Ne.symm (by assumption))).trans ((hput_ne _ (by first | assumption | exact Ne.symm (by assumption))).trans (by assumption)) | exact (hput_ne _ (by first | assumption | exact Ne.symm (by assumption))).trans ((hput_ne _ (by first | assumption | exact Ne.symm (by assumption))).trans (hput_eq _ _ _))) rfl ?_
      refine j_iload_n E dX1_noteStitch_14 rfl ?_
      refine j_dup2 E dX1_noteStitch_15 rfl rfl ?_
      refine j_iaload E s dX1_noteStitch_16 (by first | with_reducible assumption | exact hput_eq _ _ _ | exact (hput_ne _ (by first | assumption | exact Ne.symm (by assumption))).trans (by assumption) | exact (hput_ne _ (by first | assumption | exact Ne.symm (by assumption))).trans (hput_eq _ _ _) | exact (hput_ne _ (by first | assumption | exact Ne.symm (by assumption))).trans ((hput_ne _ (by first | assumption | exact Ne.symm (by assumption))).trans (by assumption)) | exact (hput_ne _ (by first | assumption | exact Ne.symm (by assumption))).trans ((hput_ne _ (by first | assumption | exact Ne.symm (by assumption))).trans (hput_eq _ _ _))) rfl (by omega) (by omega) ?_
      refine J.topi (x' := bS S) (hS) ?_
      refine j_iload_n E dX1_noteStitch_17 rfl ?_
      refine j_if_eq E (tgt := 25) dX1_noteStitch_18 (by decide) (fun c3 => ?_) (fun c3 => ?_)
      · have nz := bI_z.mp c3
        refine j_iconst (x := nI 0) E dX1_noteStitch_25 (by decide) ?_
        refine J.sub [(0, .ref ko), (1, .int (nI s))] ⟨rfl, rfl, trivial⟩ ?_
        refine fin (nI 0) ?_
        rw [sh0 n hn12, show nI 0 = bS (fun _ => False) from bS_0.symm, bS_or]
        exact bS_congr (fun i _ => ⟨fun w => w.elim Or.inl (fun w => w.elim), fun w => w.elim Or.inl (fun w => absurd w.2 nz)⟩)
      · have yz := bI_n.mp c3
        refine j_iconst (x := nI 1) E dX1_noteStitch_21 (by decide) ?_
        refine j_goto E (tgt := 26) dX1_noteStitch_22 (by decide) ?_
        refine J.sub [(0, .ref ko), (1, .int (nI s))] ⟨rfl, rfl, trivial⟩ ?_
        refine fin (nI 1) ?_
        rw [bS_add S hn12]
        exact bS_congr (fun i _ => ⟨fun w => w.imp id (fun w => ⟨w, yz⟩), fun w => w.imp id And.left⟩)
end C34
