/-! nearness in the reference -/
theorem sq_bnd {z : Int} (h0 : 0 ≤ z) (h : z ≤ 4000000) : 0 ≤ z * z ∧ z * z ≤ 16000000000000 := ⟨Int.mul_nonneg h0 h0, by have := Int.mul_le_mul h h h0 (by omega); omega⟩
theorem gap_bnd {f t u w : Int} (h1 : -1000000 ≤ f ∧ f ≤ 1000000) (h2 : -1000000 ≤ t ∧ t ≤ 1000000) (h3 : -1000000 ≤ u ∧ u ≤ 1000000) (h4 : -1000000 ≤ w ∧ w ≤ 1000000) : 0 ≤ gap f t u w ∧ gap f t u w ≤ 4000000 := by unfold gap; omega
def gK (G G1 : Nat → Nat → Int64) : Prop := ∀ k, k ≠ 14 → k ≠ 15 → G1 k = G k
theorem gK.rf {G : Nat → Nat → Int64} : gK G G := fun _ _ _ => rfl
theorem gK.up {G G1 : Nat → Nat → Int64} (h : gK G G1) {k : Nat} (hk : k = 14 ∨ k = 15) (f : Nat → Int64) : gK G (uA G1 k f) := fun j h1 h2 => (uA_ne _ _ (by omega)).trans (h j h1 h2)
theorem gK.tr {G G1 G2 : Nat → Nat → Int64} (h : gK G G1) (h2 : gK G1 G2) : gK G G2 := fun j a b => (h2 j a b).trans (h j a b)
theorem MA.gk {ss : List SH} {s : Nat → Int32} {I : Nat → Nat → Int32} {G G1 : Nat → Nat → Int64} (A : MA ss s I G) (h : gK G G1) : MA ss s I G1 := A.keep rfl ⟨rfl, rfl, rfl, rfl⟩ ⟨h 3 (by decide) (by decide), h 4 (by decide) (by decide), h 7 (by decide) (by decide)⟩
/-- the pairs of boxes that were looked at -/
def nPU (d : Int) (a : SH) (k : Nat) (b : SH) (l : Nat) (i j : Nat) : Prop := ∃ i2 j2, i2 < nb a ∧ j2 < nb b ∧ (i2 < i ∨ (i2 = i ∧ j2 < j)) ∧ nearQ d a k i2 b l j2
theorem nPU_s {d : Int} {a : SH} {k : Nat} {b : SH} {l i j : Nat} (hi : i < nb a) (hj : j < nb b) : nPU d a k b l i (j + 1) ↔ nPU d a k b l i j ∨ nearQ d a k i b l j := by
  constructor
  · rintro ⟨i2, j2, h1, h2, h3, h4⟩
    by_cases e : i2 = i ∧ j2 = j
    · exact Or.inr (e.1 ▸ e.2 ▸ h4)
    · exact Or.inl ⟨i2, j2, h1, h2, by omega, h4⟩
  · rintro (⟨i2, j2, h1, h2, h3, h4⟩ | h4)
    · exact ⟨i2, j2, h1, h2, by omega, h4⟩
    · exact ⟨i, j, hi, hj, by omega, h4⟩
theorem nPU_n {d : Int} {a : SH} {k : Nat} {b : SH} {l i : Nat} : nPU d a k b l i (nb b) ↔ nPU d a k b l (i + 1) 0 := by
  constructor <;> rintro ⟨i2, j2, h1, h2, h3, h4⟩ <;> exact ⟨i2, j2, h1, h2, by omega, h4⟩
theorem nPU_0 {d : Int} {a : SH} {k : Nat} {b : SH} {l : Nat} : ¬ nPU d a k b l 0 0 := fun ⟨i2, j2, h1, h2, h3, h4⟩ => by omega
theorem nPU_e {d : Int} {a : SH} {k : Nat} {b : SH} {l : Nat} : nPU d a k b l (nb a) 0 ↔ nearP d a k b l := by
  constructor
  · rintro ⟨i2, j2, h1, h2, h3, h4⟩; exact ⟨i2, j2, h1, h2, h4⟩
  · rintro ⟨i2, j2, h1, h2, h4⟩; exact ⟨i2, j2, h1, h2, by omega, h4⟩
/-- .. of pieces -/
def nSU (d : Int) (a b : SH) (i j : Nat) : Prop := ∃ k l, k ≤ nk a ∧ l ≤ nk b ∧ (k < i ∨ (k = i ∧ l < j)) ∧ nearP d a k b l
theorem nSU_s {d : Int} {a b : SH} {i j : Nat} (hi : i ≤ nk a) (hj : j ≤ nk b) : nSU d a b i (j + 1) ↔ nSU d a b i j ∨ nearP d a i b j := by
  constructor
  · rintro ⟨i2, j2, h1, h2, h3, h4⟩
    by_cases e : i2 = i ∧ j2 = j
    · exact Or.inr (e.1 ▸ e.2 ▸ h4)
    · exact Or.inl ⟨i2, j2, h1, h2, by omega, h4⟩
  · rintro (⟨i2, j2, h1, h2, h3, h4⟩ | h4)
    · exact ⟨i2, j2, h1, h2, by omega, h4⟩
    · exact ⟨i, j, hi, hj, by omega, h4⟩
theorem nSU_n {d : Int} {a b : SH} {i : Nat} : nSU d a b i (nk b + 1) ↔ nSU d a b (i + 1) 0 := by
  constructor <;> rintro ⟨i2, j2, h1, h2, h3, h4⟩ <;> exact ⟨i2, j2, h1, h2, by omega, h4⟩
theorem nSU_0 {d : Int} {a b : SH} : ¬ nSU d a b 0 0 := fun ⟨i2, j2, h1, h2, h3, h4⟩ => by omega
theorem nSU_e {d : Int} {a b : SH} : nSU d a b (nk a + 1) 0 ↔ nearS d a b := by
  constructor
  · rintro ⟨i2, j2, h1, h2, h3, h4⟩; exact ⟨i2, j2, h1, h2, h4⟩
  · rintro ⟨i2, j2, h1, h2, h4⟩; exact ⟨i2, j2, h1, h2, by omega, h4⟩
section M3
variable {l : Launch} {B E0 : Nat} {D : va_G} {h0 h : HM} {m : Nat} {a : Nat → Nat} {d : Int} {s : Nat → Int32} {I : Nat → Nat → Int32} {G : Nat → Nat → Int64} {ss : List SH}
theorem iw_X7_isNearBox_X7 : ∀ w ∈ u_ws RX7 TX7 27, w ∈ wsX7_isNearBox := by decide +kernel
theorem m_isNearBox (v : Nat) (hM : MR h0 h m a (lZ d) s I G) (hd : 1 ≤ d ∧ d ≤ 65536) {x0 y0 x1 y1 u0 v0 u1 v1 : Int} (h1 : isB (G 14) x0 y0 x1 y1) (h2 : isB (G 15) u0 v0 u1 v1) (bx : (-1000000 ≤ x0 ∧ x0 ≤ 1000000) ∧ (-1000000 ≤ x1 ∧ x1 ≤ 1000000) ∧ (-1000000 ≤ y0 ∧ y0 ≤ 1000000) ∧ (-1000000 ≤ y1 ∧ y1 ≤ 1000000)) (bu : (-1000000 ≤ u0 ∧ u0 ≤ 1000000) ∧ (-1000000 ≤ u1 ∧ u1 ≤ 1000000) ∧ (-1000000 ≤ v0 ∧ v0 ≤ 1000000) ∧ (-1000000 ≤ v1 ∧ v1 ≤ 1000000)) : CM l B E0 D yX7_isNearBox wsX7_isNearBox (v + 2) 0 0 [.ref m] h (fun r h1 => r = some (.int (bI (nearB d x0 y0 x1 y1 u0 v0 u1 v1))) ∧ h1 = h) := by
  obtain ⟨e0, e1, e2, e3⟩ := h1
  obtain ⟨f0, f1, f2, f3⟩ := h2
  obtain ⟨b0, b1, b2, b3⟩ := bx
  obtain ⟨d0, d1, d2, d3⟩ := bu
  have g1 := gap_bnd b0 b1 d0 d1
  have g2 := gap_bnd b2 b3 d2 d3
  have q1 := sq_bnd g1.1 g1.2
  have q2 := sq_bnd g2.1 g2.2
  have q3 := sq_bnd (z := d) (by omega) (by omega)
  refine CM.of (cc := cX7_isNearBox) (maxL := 5) (ret := (some .boolean)) (by decide) rfl (Nat.le_of_ble_eq_true rfl) (fun X E hin => ?_)
  show J X B D 5 _ h 0 0 0 [(0, .ref m)] []
  refine j_lconst (x := lZ 0) E dX7_isNearBox_0 (by decide) ?_
  refine j_aload_n E dX7_isNearBox_1 rfl ?_
  refine j_getfield (ref := "ColourPartsModel") (C := RX7) (T := TX7) (N := 27) (ci := 8) E 14 dX7_isNearBox_2 iw_X7_isNearBox_X7 rfl (by decide) (by decide +kernel) rfl hM.obj rfl ?_
  refine j_iconst (x := nI 0) E dX7_isNearBox_5 (by decide) ?_
  refine j_laload E 0 dX7_isNearBox_6 (hM.gJ 14 4 (by decide)) rfl (by omega) (by omega) ?_
  refine J.topl (x' := lZ x0) (e0) ?_
  refine j_aload_n E dX7_isNearBox_7 rfl ?_
  refine j_getfield (ref := "ColourPartsModel") (C := RX7) (T := TX7) (N := 27) (ci := 8) E 15 dX7_isNearBox_8 iw_X7_isNearBox_X7 rfl (by decide) (by decide +kernel) rfl hM.obj rfl ?_
  refine j_iconst (x := nI 0) E dX7_isNearBox_11 (by decide) ?_
  refine j_laload E 0 dX7_isNearBox_12 (hM.gJ 15 4 (by decide)) rfl (by omega) (by omega) ?_
  refine J.topl (x' := lZ u0) (f0) ?_
  refine j_callS (np := 2) E (m_high v (lOK_s b0) (lOK_s d0)) gX7_isNearBox_X7_high rfl ⟨by decide, by decide, by decide +kernel⟩ dX7_isNearBox_13 (by omega) (by decide) rfl rfl (Nat.le_of_ble_eq_true rfl) (by omega) (by omega) (fun r9 h9 p9 => J.pure p9 ?_)
  refine j_aload_n E dX7_isNearBox_16 rfl ?_
  refine j_getfield (ref := "ColourPartsModel") (C := RX7) (T := TX7) (N := 27) (ci := 8) E 14 dX7_isNearBox_17 iw_X7_isNearBox_X7 rfl (by decide) (by decide +kernel) rfl hM.obj rfl ?_
  refine j_iconst (x := nI 2) E dX7_isNearBox_20 (by decide) ?_
  refine j_laload E 2 dX7_isNearBox_21 (hM.gJ 14 4 (by decide)) rfl (by omega) (by omega) ?_
  refine J.topl (x' := lZ x1) (e2) ?_
  refine j_aload_n E dX7_isNearBox_22 rfl ?_
  refine j_getfield (ref := "ColourPartsModel") (C := RX7) (T := TX7) (N := 27) (ci := 8) E 15 dX7_isNearBox_23 iw_X7_isNearBox_X7 rfl (by decide) (by decide +kernel) rfl hM.obj rfl ?_
  refine j_iconst (x := nI 2) E dX7_isNearBox_26 (by decide) ?_
  refine j_laload E 2 dX7_isNearBox_27 (hM.gJ 15 4 (by decide)) rfl (by omega) (by omega) ?_
  refine J.topl (x' := lZ u1) (f2) ?_
  refine j_callS (np := 2) E (m_low v (lOK_s b1) (lOK_s d1)) gX7_isNearBox_X7_low rfl ⟨by decide, by decide, by decide +kernel⟩ dX7_isNearBox_28 (by omega) (by decide) rfl rfl (Nat.le_of_ble_eq_true rfl) (by omega) (by omega) (fun r9 h9 p9 => J.pure p9 ?_)
  refine j_lsub E dX7_isNearBox_31 ?_
  refine J.topl (x' := lZ (max x0 u0 - min x1 u1)) (lZ_sub _ _) ?_
  refine j_callS (np := 2) E (m_high v (x := 0) ⟨by omega, by omega⟩ ⟨by omega, by omega⟩) gX7_isNearBox_X7_high rfl ⟨by decide, by decide, by decide +kernel⟩ dX7_isNearBox_32 (by omega) (by decide) rfl rfl (Nat.le_of_ble_eq_true rfl) (by omega) (by omega) (fun r9 h9 p9 => J.pure p9 ?_)
  refine j_lstore_n E dX7_isNearBox_35 (by decide) ?_
  refine j_lconst (x := lZ 0) E dX7_isNearBox_36 (by decide) ?_
  refine j_aload_n E dX7_isNearBox_37 rfl ?_
  refine j_getfield (ref := "ColourPartsModel") (C := RX7) (T := TX7) (N := 27) (ci := 8) E 14 dX7_isNearBox_38 iw_X7_isNearBox_X7 rfl (by decide) (by decide +kernel) rfl hM.obj rfl ?_
  refine j_iconst (x := nI 1) E dX7_isNearBox_41 (by decide) ?_
  refine j_laload E 1 dX7_isNearBox_42 (hM.gJ 14 4 (by decide)) rfl (by omega) (by omega) ?_
  refine J.topl (x' := lZ y0) (e1) ?_
  refine j_aload_n E dX7_isNearBox_43 rfl ?_
  refine j_getfield (ref := "ColourPartsModel") (C := RX7) (T := TX7) (N := 27) (ci := 8) E 15 dX7_isNearBox_44 iw_X7_isNearBox_X7 rfl (by decide) (by decide +kernel) rfl hM.obj rfl ?_
  refine j_iconst (x := nI 1) E dX7_isNearBox_47 (by decide) ?_
  refine j_laload E 1 dX7_isNearBox_48 (hM.gJ 15 4 (by decide)) rfl (by omega) (by omega) ?_
  refine J.topl (x' := lZ v0) (f1) ?_
  refine j_callS (np := 2) E (m_high v (lOK_s b2) (lOK_s d2)) gX7_isNearBox_X7_high rfl ⟨by decide, by decide, by decide +kernel⟩ dX7_isNearBox_49 (by omega) (by decide) rfl rfl (Nat.le_of_ble_eq_true rfl) (by omega) (by omega) (fun r9 h9 p9 => J.pure p9 ?_)
  refine j_aload_n E dX7_isNearBox_52 rfl ?_
  refine j_getfield (ref := "ColourPartsModel") (C := RX7) (T := TX7) (N := 27) (ci := 8) E 14 dX7_isNearBox_53 iw_X7_isNearBox_X7 rfl (by decide) (by decide +kernel) rfl hM.obj rfl ?_
  refine j_iconst (x := nI 3) E dX7_isNearBox_56 (by decide) ?_
  refine j_laload E 3 dX7_isNearBox_57 (hM.gJ 14 4 (by decide)) rfl (by omega) (by omega) ?_
  refine J.topl (x' := lZ y1) (e3) ?_
  refine j_aload_n E dX7_isNearBox_58 rfl ?_
  refine j_getfield (ref := "ColourPartsModel") (C := RX7) (T := TX7) (N := 27) (ci := 8) E 15 dX7_isNearBox_59 iw_X7_isNearBox_X7 rfl (by decide) (by decide +kernel) rfl hM.obj rfl ?_
  refine j_iconst (x := nI 3) E dX7_isNearBox_62 (by decide) ?_
  refine j_laload E 3 dX7_isNearBox_63 (hM.gJ 15 4 (by decide)) rfl (by omega) (by omega) ?_
  refine J.topl (x' := lZ v1) (f3) ?_
  refine j_callS (np := 2) E (m_low v (lOK_s b3) (lOK_s d3)) gX7_isNearBox_X7_low rfl ⟨by decide, by decide, by decide +kernel⟩ dX7_isNearBox_64 (by omega) (by decide) rfl rfl (Nat.le_of_ble_eq_true rfl) (by omega) (by omega) (fun r9 h9 p9 => J.pure p9 ?_)
  refine j_lsub E dX7_isNearBox_67 ?_
  refine J.topl (x' := lZ (max y0 v0 - min y1 v1)) (lZ_sub _ _) ?_
  refine j_callS (np := 2) E (m_high v (x := 0) ⟨by omega, by omega⟩ ⟨by omega, by omega⟩) gX7_isNearBox_X7_high rfl ⟨by decide, by decide, by decide +kernel⟩ dX7_isNearBox_68 (by omega) (by decide) rfl rfl (Nat.le_of_ble_eq_true rfl) (by omega) (by omega) (fun r9 h9 p9 => J.pure p9 ?_)
  refine j_lstore_n E dX7_isNearBox_71 (by decide) ?_
  refine j_lload_n E dX7_isNearBox_72 rfl ?_
  refine j_lload_n E dX7_isNearBox_73 rfl ?_
  refine j_lmul E dX7_isNearBox_74 ?_
  refine J.topl (x' := lZ (gap x0 x1 u0 u1 * gap x0 x1 u0 u1)) (lZ_mul _ _) ?_
  refine j_lload_n E dX7_isNearBox_75 rfl ?_
  refine j_lload_n E dX7_isNearBox_76 rfl ?_
  refine j_lmul E dX7_isNearBox_77 ?_
  refine J.topl (x' := lZ (gap y0 y1 v0 v1 * gap y0 y1 v0 v1)) (lZ_mul _ _) ?_
  refine j_ladd E dX7_isNearBox_78 ?_
  refine J.topl (x' := lZ (gap x0 x1 u0 u1 * gap x0 x1 u0 u1 + gap y0 y1 v0 v1 * gap y0 y1 v0 v1)) (lZ_add _ _) ?_
  refine j_aload_n E dX7_isNearBox_79 rfl ?_
  refine j_getfield (ref := "ColourPartsModel") (C := RX7) (T := TX7) (N := 27) (ci := 8) E 1 dX7_isNearBox_80 iw_X7_isNearBox_X7 rfl (by decide) (by decide +kernel) rfl hM.obj rfl ?_
  refine j_aload_n E dX7_isNearBox_83 rfl ?_
  refine j_getfield (ref := "ColourPartsModel") (C := RX7) (T := TX7) (N := 27) (ci := 8) E 1 dX7_isNearBox_84 iw_X7_isNearBox_X7 rfl (by decide) (by decide +kernel) rfl hM.obj rfl ?_
  refine j_lmul E dX7_isNearBox_87 ?_
  refine J.topl (x' := lZ (d * d)) (lZ_mul _ _) ?_
  refine j_lcmp E dX7_isNearBox_88 ?_
  refine j_if_ge E (tgt := 96) dX7_isNearBox_89 (by decide) (fun c => ?_) (fun c => ?_)
  · rw [cmp_ge, lZ_le ⟨by omega, by omega⟩ ⟨by omega, by omega⟩] at c
    refine j_iconst (x := nI 0) E dX7_isNearBox_96 (by decide) ?_
    refine J.topi (x' := bI (nearB d x0 y0 x1 y1 u0 v0 u1 v1)) ((bI_f (fun z => absurd z (Int.not_lt.mpr c))).symm) ?_
    exact j_iret E dX7_isNearBox_97 rfl (nb_bI _) (by omega) (by omega) ⟨rfl, rfl⟩
  · rw [cmp_ge, lZ_le ⟨by omega, by omega⟩ ⟨by omega, by omega⟩] at c
    refine j_iconst (x := nI 1) E dX7_isNearBox_92 (by decide) ?_
    refine J.topi (x' := bI (nearB d x0 y0 x1 y1 u0 v0 u1 v1)) ((bI_t (Int.not_le.mp c)).symm) ?_
    refine j_goto E (tgt := 97) dX7_isNearBox_93 (by decide) ?_
    exact j_iret E dX7_isNearBox_97 rfl (nb_bI _) (by omega) (by omega) ⟨rfl, rfl⟩
theorem m_isNearPiece (v : Nat) (hM : MR h0 h m a (lZ d) s I G) (A : MA ss s I G) (hw : wfSS ss) (hd : 1 ≤ d ∧ d ≤ 65536) {p k q i : Nat} (hp : p < ss.length) (hk : k ≤ nk (gS ss p)) (hq : q < ss.length) (hi : i ≤ nk (gS ss q)) : CM l B E0 D yX7_isNearPiece wsX7_isNearPiece (v + 3) 0 0 [.ref m, .int (nI p), .int (nI k), .int (nI q), .int (nI i)] h (fun r h1 => r = some (.int (bI (nearP d (gS ss p) k (gS ss q) i))) ∧ ∃ G1, MR h0 h1 m a (lZ d) s I G1 ∧ gK G G1) := by
  have hl := hw.1
  have wp := hw.2.2 p hp
  have wq := hw.2.2 q hq
  have bp : nb (gS ss p) ≤ 4 := by have := wp.1; unfold nb; split <;> omega
  have bq : nb (gS ss q) ≤ 4 := by have := wq.1; unfold nb; split <;> omega
  refine CM.of (cc := cX7_isNearPiece) (maxL := 8) (ret := (some .boolean)) (by decide) rfl (Nat.le_of_ble_eq_true rfl) (fun X E hin => ?_)
  show J X B D 8 _ h 0 0 0 [(0, .ref m), (1, .int (nI p)), (2, .int (nI k)), (3, .int (nI q)), (4, .int (nI i))] []
  generalize hQ : jQ X B D _ _ _ = Q
  refine j_iconst (x := nI 0) E dX7_isNearPiece_0 (by decide) ?_
  refine j_istore E dX7_isNearPiece_1 (by decide) ?_
  refine j_iconst (x := nI 0) E dX7_isNearPiece_3 (by decide) ?_
  refine j_istore E dX7_isNearPiece_4 (by decide) ?_
  have outer : ∀ (j x : Nat) (h : HM) (G1 : Nat → Nat → Int64), x + j = nb (gS ss p) → MR h0 h m a (lZ d) s I G1 → gK G G1 → J X B D 8 Q h 0 0 6 [(6, .int (nI x)), (5, .int (bI (nPU d (gS ss p) k (gS ss q) i x 0))), (4, .int (nI i)), (3, .int (nI q)), (2, .int (nI k)), (1, .int (nI p)), (0, .ref m)] [] := by
    intro j
    induction j with
    | zero =>
      intro x h G1 hx hM hG
      refine j_iload E dX7_isNearPiece_6 rfl ?_
      refine j_aload_n E dX7_isNearPiece_8 rfl ?_
      refine j_iload_n E dX7_isNearPiece_9 rfl ?_
      refine j_callV (np := 1) (C := RX7) (T := TX7) (N := 27) (ci := 8) E (m_boxes v hM (A.gk hG) hw hp) gX7_isNearPiece_X7_boxes rfl ⟨rfl, by decide, by decide, by decide +kernel⟩ dX7_isNearPiece_10 (by omega) (by decide) rfl hM.obj rfl rfl (Nat.le_of_ble_eq_true rfl) (by omega) (by omega) (fun r9 h9 p9 => J.pure p9 ?_)
      refine j_icmp_ge E (tgt := 79) dX7_isNearPiece_13 (by decide) (fun c => ?_) (fun c => ?_)
      · rw [show x = nb (gS ss p) by omega, bI_c nPU_e]
        refine j_iload E dX7_isNearPiece_79 rfl ?_
        rw [← hQ]
        exact j_iret E dX7_isNearPiece_81 rfl (nb_bI _) (by omega) (by omega) ⟨rfl, G1, hM, hG⟩
      · exact absurd (nI_le (show nb (gS ss p) ≤ x by omega) (by omega)) c
    | succ j ih =>
      intro x h G1 hx hM hG
      have hxl : x < nb (gS ss p) := by omega
      refine j_iload E dX7_isNearPiece_6 rfl ?_
      refine j_aload_n E dX7_isNearPiece_8 rfl ?_
      refine j_iload_n E dX7_isNearPiece_9 rfl ?_
      refine j_callV (np := 1) (C := RX7) (T := TX7) (N := 27) (ci := 8) E (m_boxes v hM (A.gk hG) hw hp) gX7_isNearPiece_X7_boxes rfl ⟨rfl, by decide, by decide, by decide +kernel⟩ dX7_isNearPiece_10 (by omega) (by decide) rfl hM.obj rfl rfl (Nat.le_of_ble_eq_true rfl) (by omega) (by omega) (fun r9 h9 p9 => J.pure p9 ?_)
      refine j_icmp_ge E (tgt := 79) dX7_isNearPiece_13 (by decide) (fun c => ?_) (fun c => ?_)
      · exact absurd c (nI_ge hxl (by omega))
      ·
        refine j_iconst (x := nI 0) E dX7_isNearPiece_16 (by decide) ?_
        refine j_istore E dX7_isNearPiece_17 (by decide) ?_
        have inner : ∀ (j2 y : Nat) (h : HM) (G1 : Nat → Nat → Int64), y + j2 = nb (gS ss q) → MR h0 h m a (lZ d) s I G1 → gK G G1 → J X B D 8 Q h 0 0 19 [(7, .int (nI y)), (6, .int (nI x)), (5, .int (bI (nPU d (gS ss p) k (gS ss q) i x y))), (4, .int (nI i)), (3, .int (nI q)), (2, .int (nI k)), (1, .int (nI p)), (0, .ref m)] [] := by
          intro j2
          induction j2 with
          | zero =>
            intro y h G1 hy hM hG
            refine j_iload E dX7_isNearPiece_19 rfl ?_
            refine j_aload_n E dX7_isNearPiece_21 rfl ?_
            refine j_iload_n E dX7_isNearPiece_22 rfl ?_
            refine j_callV (np := 1) (C := RX7) (T := TX7) (N := 27) (ci := 8) E (m_boxes v hM (A.gk hG) hw hq) gX7_isNearPiece_X7_boxes rfl ⟨rfl, by decide, by decide, by decide +kernel⟩ dX7_isNearPiece_23 (by omega) (by decide) rfl hM.obj rfl rfl (Nat.le_of_ble_eq_true rfl) (by omega) (by omega) (fun r9 h9 p9 => J.pure p9 ?_)
            refine j_icmp_ge E (tgt := 73) dX7_isNearPiece_26 (by decide) (fun c2 => ?_) (fun c2 => ?_)
            · rw [show y = nb (gS ss q) by omega, bI_c nPU_n]
              refine j_iinc E dX7_isNearPiece_73 rfl (nI_1 x) (by decide) ?_
              refine j_goto E (tgt := 6) dX7_isNearPiece_76 (by decide) ?_
              refine J.wide (k' := 0) (n' := 0) (by omega) (by omega) ?_
              refine J.sub [(6, .int (nI (x + 1))), (5, .int (bI (nPU d (gS ss p) k (gS ss q) i (x + 1) 0))), (4, .int (nI i)), (3, .int (nI q)), (2, .int (nI k)), (1, .int (nI p)), (0, .ref m)] ⟨rfl, rfl, rfl, rfl, rfl, rfl, rfl, trivial⟩ ?_
              exact ih (x + 1) h G1 (by omega) hM hG
            · exact absurd (nI_le (show nb (gS ss q) ≤ y by omega) (by omega)) c2
          | succ j2 ih2 =>
            intro y h G1 hy hM hG
            have hyl : y < nb (gS ss q) := by omega
            refine j_iload E dX7_isNearPiece_19 rfl ?_
            refine j_aload_n E dX7_isNearPiece_21 rfl ?_
            refine j_iload_n E dX7_isNearPiece_22 rfl ?_
            refine j_callV (np := 1) (C := RX7) (T := TX7) (N := 27) (ci := 8) E (m_boxes v hM (A.gk hG) hw hq) gX7_isNearPiece_X7_boxes rfl ⟨rfl, by decide, by decide, by decide +kernel⟩ dX7_isNearPiece_23 (by omega) (by decide) rfl hM.obj rfl rfl (Nat.le_of_ble_eq_true rfl) (by omega) (by omega) (fun r9 h9 p9 => J.pure p9 ?_)
            refine j_icmp_ge E (tgt := 73) dX7_isNearPiece_26 (by decide) (fun c2 => ?_) (fun c2 => ?_)
            · exact absurd c2 (nI_ge hyl (by omega))
            ·
              refine j_aload_n E dX7_isNearPiece_29 rfl ?_
              refine j_iload_n E dX7_isNearPiece_30 rfl ?_
              refine j_iload_n E dX7_isNearPiece_31 rfl ?_
              refine j_iload E dX7_isNearPiece_32 rfl ?_
              refine j_iconst (x := nI 1) E dX7_isNearPiece_34 (by decide) ?_
              refine j_callV (np := 4) (C := RX7) (T := TX7) (N := 27) (ci := 8) E (m_load v hM (A.gk hG) hw hp hk hxl true) gX7_isNearPiece_X7_load rfl ⟨rfl, by decide, by decide, by decide +kernel⟩ dX7_isNearPiece_35 (by omega) (by decide) rfl hM.obj rfl rfl (Nat.le_of_ble_eq_true rfl) (by omega) (by omega) (fun r h1 p => ?_)
              obtain ⟨rfl, f, hM, hf⟩ := p
              have hG := hG.up (Or.inl rfl) f
              refine j_aload_n E dX7_isNearPiece_38 rfl ?_
              refine j_iload_n E dX7_isNearPiece_39 rfl ?_
              refine j_iload E dX7_isNearPiece_40 rfl ?_
              refine j_iload E dX7_isNearPiece_42 rfl ?_
              refine j_iconst (x := nI 0) E dX7_isNearPiece_44 (by decide) ?_
              refine j_callV (np := 4) (C := RX7) (T := TX7) (N := 27) (ci := 8) E (m_load v hM (A.gk hG) hw hq hi hyl false) gX7_isNearPiece_X7_load rfl ⟨rfl, by decide, by decide, by decide +kernel⟩ dX7_isNearPiece_45 (by omega) (by decide) rfl hM.obj rfl rfl (Nat.le_of_ble_eq_true rfl) (by omega) (by omega) (fun r h1 p => ?_)
              obtain ⟨rfl, f2, hM, hf2⟩ := p
              have hG := hG.up (Or.inr rfl) f2
              have tail : J X B D 8 Q h1 0 0 65 [(7, .int (nI y)), (6, .int (nI x)), (5, .int (bI (nPU d (gS ss p) k (gS ss q) i x y))), (4, .int (nI i)), (3, .int (nI q)), (2, .int (nI k)), (1, .int (nI p)), (0, .ref m)] [.int (bI (nPU d (gS ss p) k (gS ss q) i x (y + 1)))] := by
                refine j_istore E dX7_isNearPiece_65 (by decide) ?_
                refine j_iinc E dX7_isNearPiece_67 rfl (nI_1 y) (by decide) ?_
                refine j_goto E (tgt := 19) dX7_isNearPiece_70 (by decide) ?_
                refine J.sub [(7, .int (nI (y + 1))), (6, .int (nI x)), (5, .int (bI (nPU d (gS ss p) k (gS ss q) i x (y + 1)))), (4, .int (nI i)), (3, .int (nI q)), (2, .int (nI k)), (1, .int (nI p)), (0, .ref m)] ⟨rfl, rfl, rfl, rfl, rfl, rfl, rfl, rfl, trivial⟩ ?_
                exact ih2 (y + 1) _ _ (by omega) hM hG
              refine J.wide (k' := 0) (n' := 0) (by omega) (by omega) ?_
              refine j_iload E dX7_isNearPiece_48 rfl ?_
              refine j_if_ne E (tgt := 60) dX7_isNearPiece_50 (by decide) (fun c3 => ?_) (fun c3 => ?_)
              ·
                refine j_iconst (x := nI 1) E dX7_isNearPiece_60 (by decide) ?_
                refine J.topi (x' := bI (nPU d (gS ss p) k (gS ss q) i x (y + 1))) ((bI_t ((nPU_s hxl hyl).mpr (Or.inl (bI_n.mp c3)))).symm) ?_
                refine j_goto E (tgt := 65) dX7_isNearPiece_61 (by decide) ?_
                exact tail
              ·
                refine j_aload_n E dX7_isNearPiece_53 rfl ?_
                refine j_callV (np := 0) (C := RX7) (T := TX7) (N := 27) (ci := 8) E (m_isNearBox v hM hd (hf) hf2 (px_bnd wp hk hxl) (px_bnd wq hi hyl)) gX7_isNearPiece_X7_isNearBox rfl ⟨rfl, by decide, by decide, by decide +kernel⟩ dX7_isNearPiece_54 (by omega) (by decide) rfl hM.obj rfl rfl (Nat.le_of_ble_eq_true rfl) (by omega) (by omega) (fun r9 h9 p9 => J.pure p9 ?_)
                refine J.wide (k' := 0) (n' := 0) (by omega) (by omega) ?_
                refine j_if_eq E (tgt := 64) dX7_isNearPiece_57 (by decide) (fun c4 => ?_) (fun c4 => ?_)
                ·
                  refine j_iconst (x := nI 0) E dX7_isNearPiece_64 (by decide) ?_
                  refine J.topi (x' := bI (nPU d (gS ss p) k (gS ss q) i x (y + 1))) ((bI_f (fun z => ((nPU_s hxl hyl).mp z).elim (bI_z.mp c3) (bI_z.mp c4))).symm) ?_
                  exact tail
                ·
                  refine j_iconst (x := nI 1) E dX7_isNearPiece_60 (by decide) ?_
                  refine J.topi (x' := bI (nPU d (gS ss p) k (gS ss q) i x (y + 1))) ((bI_t ((nPU_s hxl hyl).mpr (Or.inr (bI_n.mp c4)))).symm) ?_
                  refine j_goto E (tgt := 65) dX7_isNearPiece_61 (by decide) ?_
                  exact tail
        refine J.wide (k' := 0) (n' := 0) (by omega) (by omega) ?_
        refine J.sub [(7, .int (nI 0)), (6, .int (nI x)), (5, .int (bI (nPU d (gS ss p) k (gS ss q) i x 0))), (4, .int (nI i)), (3, .int (nI q)), (2, .int (nI k)), (1, .int (nI p)), (0, .ref m)] ⟨rfl, rfl, rfl, rfl, rfl, rfl, rfl, rfl, trivial⟩ ?_
        exact inner (nb (gS ss q)) 0 h G1 (by omega) hM hG
  refine J.sub [(6, .int (nI 0)), (5, .int (bI (nPU d (gS ss p) k (gS ss q) i 0 0))), (4, .int (nI i)), (3, .int (nI q)), (2, .int (nI k)), (1, .int (nI p)), (0, .ref m)] ⟨rfl, by rw [bI_f nPU_0]; rfl, rfl, rfl, rfl, rfl, rfl, trivial⟩ ?_
  exact outer (nb (gS ss p)) 0 h G (by omega) hM gK.rf
theorem iw_X7_isNear_X7 : ∀ w ∈ u_ws RX7 TX7 27, w ∈ wsX7_isNear := by decide +kernel
theorem m_isNear (v : Nat) (hM : MR h0 h m a (lZ d) s I G) (A : MA ss s I G) (hw : wfSS ss) (hd : 1 ≤ d ∧ d ≤ 65536) {p q : Nat} (hp : p < ss.length) (hq : q < ss.length) : CM l B E0 D yX7_isNear wsX7_isNear (v + 4) 0 0 [.ref m, .int (nI p), .int (nI q)] h (fun r h1 => r = some (.int (bI (nearS d (gS ss p) (gS ss q)))) ∧ ∃ G1, MR h0 h1 m a (lZ d) s I G1 ∧ gK G G1) := by
  have hl := hw.1
  have wp := hw.2.2 p hp
  have wq := hw.2.2 q hq
  have bp := wp.2.1
  have bq := wq.2.1
  obtain ⟨-, a8p, -⟩ := A.2 p hp
  obtain ⟨-, a8q, -⟩ := A.2 q hq
  refine CM.of (cc := cX7_isNear) (maxL := 6) (ret := (some .boolean)) (by decide) rfl (Nat.le_of_ble_eq_true rfl) (fun X E hin => ?_)
  show J X B D 6 _ h 0 0 0 [(0, .ref m), (1, .int (nI p)), (2, .int (nI q))] []
  generalize hQ : jQ X B D _ _ _ = Q
  refine j_iconst (x := nI 0) E dX7_isNear_0 (by decide) ?_
  refine j_istore_n E dX7_isNear_1 (by decide) ?_
  refine j_iconst (x := nI 0) E dX7_isNear_2 (by decide) ?_
  refine j_istore E dX7_isNear_3 (by decide) ?_
  have outer : ∀ (j x : Nat) (h : HM) (G1 : Nat → Nat → Int64), x + j = nk (gS ss p) + 1 → MR h0 h m a (lZ d) s I G1 → gK G G1 → J X B D 6 Q h 0 0 5 [(4, .int (nI x)), (3, .int (bI (nSU d (gS ss p) (gS ss q) x 0))), (2, .int (nI q)), (1, .int (nI p)), (0, .ref m)] [] := by
    intro j
    induction j with
    | zero =>
      intro x h G1 hx hM hG
      refine j_iload E dX7_isNear_5 rfl ?_
      refine j_aload_n E dX7_isNear_7 rfl ?_
      refine j_getfield (ref := "ColourPartsModel") (C := RX7) (T := TX7) (N := 27) (ci := 8) E 8 dX7_isNear_8 iw_X7_isNear_X7 rfl (by decide) (by decide +kernel) rfl hM.obj rfl ?_
      refine j_iload_n E dX7_isNear_11 rfl ?_
      refine j_iaload E p dX7_isNear_12 (hM.gI 8 10 (by decide)) rfl (by omega) (by omega) ?_
      refine J.topi (x' := nI (nk (gS ss p))) (a8p) ?_
      refine j_icmp_gt E (tgt := 65) dX7_isNear_13 (by decide) (fun c => ?_) (fun c => ?_)
      · rw [show x = nk (gS ss p) + 1 by omega, bI_c nSU_e]
        refine j_iload_n E dX7_isNear_65 rfl ?_
        rw [← hQ]
        exact j_iret E dX7_isNear_66 rfl (nb_bI _) (by omega) (by omega) ⟨rfl, G1, hM, hG⟩
      · exact absurd (nI_lt (show nk (gS ss p) < x by omega) (by omega)) c
    | succ j ih =>
      intro x h G1 hx hM hG
      have hxl : x ≤ nk (gS ss p) := by omega
      refine j_iload E dX7_isNear_5 rfl ?_
      refine j_aload_n E dX7_isNear_7 rfl ?_
      refine j_getfield (ref := "ColourPartsModel") (C := RX7) (T := TX7) (N := 27) (ci := 8) E 8 dX7_isNear_8 iw_X7_isNear_X7 rfl (by decide) (by decide +kernel) rfl hM.obj rfl ?_
      refine j_iload_n E dX7_isNear_11 rfl ?_
      refine j_iaload E p dX7_isNear_12 (hM.gI 8 10 (by decide)) rfl (by omega) (by omega) ?_
      refine J.topi (x' := nI (nk (gS ss p))) (a8p) ?_
      refine j_icmp_gt E (tgt := 65) dX7_isNear_13 (by decide) (fun c => ?_) (fun c => ?_)
      · exact absurd c (nI_nlt hxl (by omega))
      ·
        refine j_iconst (x := nI 0) E dX7_isNear_16 (by decide) ?_
        refine j_istore E dX7_isNear_17 (by decide) ?_
        have inner : ∀ (j2 y : Nat) (h : HM) (G1 : Nat → Nat → Int64), y + j2 = nk (gS ss q) + 1 → MR h0 h m a (lZ d) s I G1 → gK G G1 → J X B D 6 Q h 0 0 19 [(5, .int (nI y)), (4, .int (nI x)), (3, .int (bI (nSU d (gS ss p) (gS ss q) x y))), (2, .int (nI q)), (1, .int (nI p)), (0, .ref m)] [] := by
          intro j2
          induction j2 with
          | zero =>
            intro y h G1 hy hM hG
            refine j_iload E dX7_isNear_19 rfl ?_
            refine j_aload_n E dX7_isNear_21 rfl ?_
            refine j_getfield (ref := "ColourPartsModel") (C := RX7) (T := TX7) (N := 27) (ci := 8) E 8 dX7_isNear_22 iw_X7_isNear_X7 rfl (by decide) (by decide +kernel) rfl hM.obj rfl ?_
            refine j_iload_n E dX7_isNear_25 rfl ?_
            refine j_iaload E q dX7_isNear_26 (hM.gI 8 10 (by decide)) rfl (by omega) (by omega) ?_
            refine J.topi (x' := nI (nk (gS ss q))) (a8q) ?_
            refine j_icmp_gt E (tgt := 59) dX7_isNear_27 (by decide) (fun c2 => ?_) (fun c2 => ?_)
            · rw [show y = nk (gS ss q) + 1 by omega, bI_c nSU_n]
              refine j_iinc E dX7_isNear_59 rfl (nI_1 x) (by decide) ?_
              refine j_goto E (tgt := 5) dX7_isNear_62 (by decide) ?_
              refine J.sub [(4, .int (nI (x + 1))), (3, .int (bI (nSU d (gS ss p) (gS ss q) (x + 1) 0))), (2, .int (nI q)), (1, .int (nI p)), (0, .ref m)] ⟨rfl, rfl, rfl, rfl, rfl, trivial⟩ ?_
              exact ih (x + 1) h G1 (by omega) hM hG
            · exact absurd (nI_lt (show nk (gS ss q) < y by omega) (by omega)) c2
          | succ j2 ih2 =>
            intro y h G1 hy hM hG
            have hyl : y ≤ nk (gS ss q) := by omega
            refine j_iload E dX7_isNear_19 rfl ?_
            refine j_aload_n E dX7_isNear_21 rfl ?_
            refine j_getfield (ref := "ColourPartsModel") (C := RX7) (T := TX7) (N := 27) (ci := 8) E 8 dX7_isNear_22 iw_X7_isNear_X7 rfl (by decide) (by decide +kernel) rfl hM.obj rfl ?_
            refine j_iload_n E dX7_isNear_25 rfl ?_
            refine j_iaload E q dX7_isNear_26 (hM.gI 8 10 (by decide)) rfl (by omega) (by omega) ?_
            refine J.topi (x' := nI (nk (gS ss q))) (a8q) ?_
            refine j_icmp_gt E (tgt := 59) dX7_isNear_27 (by decide) (fun c2 => ?_) (fun c2 => ?_)
            · exact absurd c2 (nI_nlt hyl (by omega))
            · have tail : ∀ (h : HM) (G1 : Nat → Nat → Int64), MR h0 h m a (lZ d) s I G1 → gK G G1 → J X B D 6 Q h 0 0 52 [(5, .int (nI y)), (4, .int (nI x)), (3, .int (bI (nSU d (gS ss p) (gS ss q) x y))), (2, .int (nI q)), (1, .int (nI p)), (0, .ref m)] [.int (bI (nSU d (gS ss p) (gS ss q) x (y + 1)))] := by
                intro h G1 hM hG
                refine j_istore_n E dX7_isNear_52 (by decide) ?_
                refine j_iinc E dX7_isNear_53 rfl (nI_1 y) (by decide) ?_
                refine j_goto E (tgt := 19) dX7_isNear_56 (by decide) ?_
                refine J.sub [(5, .int (nI (y + 1))), (4, .int (nI x)), (3, .int (bI (nSU d (gS ss p) (gS ss q) x (y + 1)))), (2, .int (nI q)), (1, .int (nI p)), (0, .ref m)] ⟨rfl, rfl, rfl, rfl, rfl, rfl, trivial⟩ ?_
                exact ih2 (y + 1) _ _ (by omega) hM hG
              refine j_iload_n E dX7_isNear_30 rfl ?_
              refine j_if_ne E (tgt := 47) dX7_isNear_31 (by decide) (fun c3 => ?_) (fun c3 => ?_)
              ·
                refine j_iconst (x := nI 1) E dX7_isNear_47 (by decide) ?_
                refine J.topi (x' := bI (nSU d (gS ss p) (gS ss q) x (y + 1))) ((bI_t ((nSU_s hxl hyl).mpr (Or.inl (bI_n.mp c3)))).symm) ?_
                refine j_goto E (tgt := 52) dX7_isNear_48 (by decide) ?_
                exact tail _ _ hM hG
              ·
                refine j_aload_n E dX7_isNear_34 rfl ?_
                refine j_iload_n E dX7_isNear_35 rfl ?_
                refine j_iload E dX7_isNear_36 rfl ?_
                refine j_iload_n E dX7_isNear_38 rfl ?_
                refine j_iload E dX7_isNear_39 rfl ?_
                refine j_callV (np := 4) (C := RX7) (T := TX7) (N := 27) (ci := 8) E (m_isNearPiece v hM (A.gk hG) hw hd hp hxl hq hyl) gX7_isNear_X7_isNearPiece rfl ⟨rfl, by decide, by decide, by decide +kernel⟩ dX7_isNear_41 (by omega) (by decide) rfl hM.obj rfl rfl (Nat.le_of_ble_eq_true rfl) (by omega) (by omega) (fun r h1 p => ?_)
                obtain ⟨rfl, G2, hM, hG2⟩ := p
                refine J.wide (k' := 0) (n' := 0) (by omega) (by omega) ?_
                refine j_if_eq E (tgt := 51) dX7_isNear_44 (by decide) (fun c4 => ?_) (fun c4 => ?_)
                ·
                  refine j_iconst (x := nI 0) E dX7_isNear_51 (by decide) ?_
                  refine J.topi (x' := bI (nSU d (gS ss p) (gS ss q) x (y + 1))) ((bI_f (fun z => ((nSU_s hxl hyl).mp z).elim (bI_z.mp c3) (bI_z.mp c4))).symm) ?_
                  exact tail _ _ hM (hG.tr hG2)
                ·
                  refine j_iconst (x := nI 1) E dX7_isNear_47 (by decide) ?_
                  refine J.topi (x' := bI (nSU d (gS ss p) (gS ss q) x (y + 1))) ((bI_t ((nSU_s hxl hyl).mpr (Or.inr (bI_n.mp c4)))).symm) ?_
                  refine j_goto E (tgt := 52) dX7_isNear_48 (by decide) ?_
                  exact tail _ _ hM (hG.tr hG2)
        refine J.sub [(5, .int (nI 0)), (4, .int (nI x)), (3, .int (bI (nSU d (gS ss p) (gS ss q) x 0))), (2, .int (nI q)), (1, .int (nI p)), (0, .ref m)] ⟨rfl, rfl, rfl, rfl, rfl, rfl, trivial⟩ ?_
        exact inner (nk (gS ss q) + 1) 0 h G1 (by omega) hM hG
  refine J.sub [(4, .int (nI 0)), (3, .int (bI (nSU d (gS ss p) (gS ss q) 0 0))), (2, .int (nI q)), (1, .int (nI p)), (0, .ref m)] ⟨rfl, by rw [bI_f nSU_0]; rfl, rfl, rfl, rfl, trivial⟩ ?_
  exact outer (nk (gS ss p) + 1) 0 h G (by omega) hM gK.rf
end M3
