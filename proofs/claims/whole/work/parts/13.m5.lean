/-! stitches in the reference -/
def hasC (a : SH) (w : Int) (at_ : Int64) : Prop := ∃ k, k < nk a ∧ sd a = w ∧ lZ (ct a k) = at_
def hasU (a : SH) (w : Int) (at_ : Int64) (n : Nat) : Prop := ∃ k, k < n ∧ sd a = w ∧ lZ (ct a k) = at_
theorem hasU_s {a : SH} {w : Int} {x : Int64} {n : Nat} : hasU a w x (n + 1) ↔ hasU a w x n ∨ (sd a = w ∧ lZ (ct a n) = x) := by
  constructor
  · rintro ⟨k, h1, h2⟩
    by_cases e : k = n
    · exact Or.inr (e ▸ h2)
    · exact Or.inl ⟨k, by omega, h2⟩
  · rintro (⟨k, h1, h2⟩ | h2)
    · exact ⟨k, by omega, h2⟩
    · exact ⟨n, by omega, h2⟩
def withC (a : SH) (w : Int) (x : Int64) : Prop := lZ (axl a w) < x ∧ x < lZ (axh a w)
noncomputable def cdSt (ss : List SH) (a : SH) (w : Int) (x : Int64) : Int32 := cI (¬ nc a = 2 ∨ (¬ hasC a w x ∧ (nk a = 3 ∨ tS ss ss.length = 12))) 2 (cI (¬ withC a w x ∨ (0 < nk a ∧ ¬ sd a = w)) 3 0)
noncomputable def cdStitch (ss : List SH) (z : Int32) (x : Int64) (w : Int) : Int32 := cI (¬ isx z ss.length) 1 (cI (opS ss) 2 (cdSt ss (gS ss z.toNatClampNeg) w x))
def insC (l : List Int) (z : Int) : List Int := l.filter (fun x => decide (x < z)) ++ z :: l.filter (fun x => !decide (x < z))
theorem insC_split {l : List Int} {z : Int} {k : Nat} (h1 : ∀ i, i < k → l.getD i 0 < z) (h2 : ∀ i, k ≤ i → i < l.length → z < l.getD i 0) (hk : k ≤ l.length) : insC l z = l.take k ++ z :: l.drop k := by
  have hg : ∀ i (hi : i < l.length), l.getD i 0 = l[i] := fun i hi => by rw [List.getD_eq_getElem?_getD, List.getElem?_eq_getElem hi]; rfl
  have ht : ∀ x ∈ l.take k, x < z := by
    intro x hx
    obtain ⟨i, hi, e⟩ := List.mem_iff_getElem.mp hx
    rw [List.length_take] at hi
    rw [List.getElem_take] at e
    rw [← e, ← hg i (by omega)]
    exact h1 i (by omega)
  have hd : ∀ x ∈ l.drop k, ¬ x < z := by
    intro x hx
    obtain ⟨i, hi, e⟩ := List.mem_iff_getElem.mp hx
    rw [List.length_drop] at hi
    rw [List.getElem_drop] at e
    rw [← e, ← hg (k + i) (by omega)]
    have := h2 (k + i) (by omega) (by omega)
    omega
  have e1 : l.filter (fun x => decide (x < z)) = l.take k := by
    conv => lhs; rw [← List.take_append_drop k l]
    rw [List.filter_append, List.filter_eq_self.mpr (fun x hx => decide_eq_true (ht x hx)), List.filter_eq_nil_iff.mpr (fun x hx => by rw [decide_eq_true_eq]; exact hd x hx), List.append_nil]
  have e2 : l.filter (fun x => !decide (x < z)) = l.drop k := by
    conv => lhs; rw [← List.take_append_drop k l]
    rw [List.filter_append, List.filter_eq_nil_iff.mpr (fun x hx => by rw [decide_eq_true (ht x hx)]; decide), List.filter_eq_self.mpr (fun x hx => by rw [decide_eq_false (hd x hx)]; rfl), List.nil_append]
  unfold insC
  rw [e1, e2]
theorem insC_get {l : List Int} {z : Int} {k : Nat} (h1 : ∀ i, i < k → l.getD i 0 < z) (h2 : ∀ i, k ≤ i → i < l.length → z < l.getD i 0) (hk : k ≤ l.length) : (insC l z).length = l.length + 1 ∧ (∀ i, i < k → (insC l z).getD i 0 = l.getD i 0) ∧ (insC l z).getD k 0 = z ∧ ∀ i, k ≤ i → (insC l z).getD (i + 1) 0 = l.getD i 0 := by
  rw [insC_split h1 h2 hk]
  have hl : (l.take k).length = k := by rw [List.length_take]; omega
  refine ⟨by rw [List.length_append, hl, List.length_cons, List.length_drop]; omega, fun i hi => ?_, ?_, fun i hi => ?_⟩
  · rw [List.getD_eq_getElem?_getD, List.getD_eq_getElem?_getD, List.getElem?_append_left (by omega), List.getElem?_take, if_pos hi]
  · rw [List.getD_eq_getElem?_getD, List.getElem?_append_right (by omega), hl, Nat.sub_self]; rfl
  · rw [List.getD_eq_getElem?_getD, List.getD_eq_getElem?_getD, List.getElem?_append_right (by omega), hl, show i + 1 - k = (i - k) + 1 by omega, List.getElem?_cons_succ, List.getElem?_drop, show k + (i - k) = i by omega]
def insS (ss : List SH) (j : Nat) (z w : Int) : List SH := ss.set j ((gS ss j).1, insC (gS ss j).2.1 z, w, (gS ss j).2.2.2)
theorem nc_app {a : SH} {p : Int × Int} : nc (a.1 ++ [p], a.2) = nc a + 1 := by unfold nc; rw [List.length_append]; rfl
theorem cx_last {a : SH} {x y : Int} : cx (a.1 ++ [(x, y)], a.2) (nc a) = x := by unfold cx nc; rw [List.getD_eq_getElem?_getD, List.getElem?_append_right (Nat.le_refl _), Nat.sub_self]; rfl
theorem cy_last {a : SH} {x y : Int} : cy (a.1 ++ [(x, y)], a.2) (nc a) = y := by unfold cy nc; rw [List.getD_eq_getElem?_getD, List.getElem?_append_right (Nat.le_refl _), Nat.sub_self]; rfl
theorem cx_init {a : SH} {p : Int × Int} {k : Nat} (hk : k < nc a) : cx (a.1 ++ [p], a.2) k = cx a k := by unfold cx; rw [List.getD_eq_getElem?_getD, List.getD_eq_getElem?_getD, List.getElem?_append_left hk]
theorem cy_init {a : SH} {p : Int × Int} {k : Nat} (hk : k < nc a) : cy (a.1 ++ [p], a.2) k = cy a k := by unfold cy; rw [List.getD_eq_getElem?_getD, List.getD_eq_getElem?_getD, List.getElem?_append_left hk]
theorem cI3 {p1 p2 p3 : Prop} : cI p1 (1 : Int32) (cI p2 2 (cI p3 3 0)) = 0 ∨ cI p1 (1 : Int32) (cI p2 2 (cI p3 3 0)) = 1 ∨ cI p1 (1 : Int32) (cI p2 2 (cI p3 3 0)) = 2 ∨ cI p1 (1 : Int32) (cI p2 2 (cI p3 3 0)) = 3 := by
  by_cases h1 : p1
  · rw [cI_t h1]; exact Or.inr (Or.inl rfl)
  · rw [cI_f h1]
    by_cases h2 : p2
    · rw [cI_t h2]; exact Or.inr (Or.inr (Or.inl rfl))
    · rw [cI_f h2]
      by_cases h3 : p3
      · rw [cI_t h3]; exact Or.inr (Or.inr (Or.inr rfl))
      · rw [cI_f h3]; exact Or.inl rfl
section M5
variable {l : Launch} {B E0 : Nat} {D : va_G} {h0 h : HM} {m : Nat} {a : Nat → Nat} {d : Int} {s : Nat → Int32} {I : Nat → Nat → Int32} {G : Nat → Nat → Int64} {ss : List SH}
theorem iw_X7_corner_X7 : ∀ w ∈ u_ws RX7 TX7 27, w ∈ wsX7_corner := by decide +kernel
theorem m_corner (v : Nat) (hM : MR h0 h m a (lZ d) s I G) (A : MA ss s I G) (hw : wfSS ss) (z : Int32) (x y : Int64) : CM l B E0 D yX7_corner wsX7_corner (v + 2) 0 0 [.ref m, .int z, .long x, .long y] h (fun r h1 => (∃ y : Int32, r = some (.int y)) ∧ (∃ s1 I1 G1, MR h0 h1 m a (lZ d) s1 I1 G1 ∧ s1 0 = cdCorner ss z x y ∧ (∀ k, k ≠ 0 → s1 k = s k) ∧ (∀ k, k ≠ 5 → I1 k = I k) ∧ (∀ k, k ≠ 3 → k ≠ 4 → G1 k = G k) ∧ (¬ cdCorner ss z x y = 0 → MA ss s1 I1 G1) ∧ (cdCorner ss z x y = 0 → ∀ j, j < ss.length → z = nI j → r = some (.int (bI ((nc (gS ss j) + 1) % 2 = 0))) ∧ MA (addK ss j x.toInt y.toInt) s1 I1 G1))) := by
  have hl := hw.1
  refine CM.of (cc := cX7_corner) (maxL := 6) (ret := (some .boolean)) (by decide) rfl (Nat.le_of_ble_eq_true rfl) (fun X E hin => ?_)
  show J X B D 6 _ h 0 0 0 [(0, .ref m), (1, .int z), (2, .long x), (4, .long y)] []
  generalize hQ : jQ X B D _ _ _ = Q
  have tail : ∀ q, q = cdCorner ss z x y → J X B D 6 Q h 0 0 76 [(0, .ref m), (1, .int z), (2, .long x), (4, .long y)] [.int q, .ref m] := by
    intro q hc
    have A1 : MA ss (uA s 0 q) I G := A.keep rfl ⟨rfl, rfl, rfl, rfl⟩ ⟨rfl, rfl, rfl⟩
    refine j_putfield (ref := "ColourPartsModel") (C := RX7) (T := TX7) (N := 27) (ci := 8) E 0 dX7_corner_76 iw_X7_corner_X7 tyX7 tyX7_ok nmX7 rfl (by decide) (by decide +kernel) rfl rfl rfl rfl hM.obj (Nat.le_of_ble_eq_true rfl) ?_
    refine MR.gen (hM.pS 0 _ (by decide) rfl) (fun h hM => ?_)
    refine j_aload_n E dX7_corner_79 rfl ?_
    refine j_getfield (ref := "ColourPartsModel") (C := RX7) (T := TX7) (N := 27) (ci := 8) E 0 dX7_corner_80 iw_X7_corner_X7 rfl (by decide) (by decide +kernel) rfl hM.obj rfl ?_
    refine J.topi (x' := q) (uA_eq _ _ _) ?_
    by_cases h9 : cdCorner ss z x y = 0
    · have hx : isx z ss.length := Classical.byContradiction fun w => by rw [cdCorner, cI_t w] at h9; exact absurd h9 (by decide)
      obtain ⟨j, hj, rfl⟩ := hx
      have hjj : ∀ i, i < ss.length → nI j = nI i → i = j := fun i hi e => ((nI_eq (by omega) (by omega)).mp e).symm
      have ej : (nI j).toNatClampNeg = j := nI_clamp (by omega)
      have hk8 : ¬ (nc (gS ss j) = 8 ∨ 0 < nk (gS ss j)) := fun w => by
        rw [cdCorner, cI_f (fun u => u ⟨j, hj, rfl⟩), ej, cI_t w] at h9
        exact absurd h9 (by decide)
      obtain ⟨a5, a8, a6, a9, aX, aK⟩ := A.2 j hj
      have w1 := (hw.2.2 j hj).1
      have n8 : nc (gS ss j) < 8 := by omega
      refine j_if_le E (tgt := 88) dX7_corner_83 (by decide) (fun c2 => ?_) (fun c2 => ?_)
      ·
        refine j_aload_n E dX7_corner_88 rfl ?_
        refine j_getfield (ref := "ColourPartsModel") (C := RX7) (T := TX7) (N := 27) (ci := 8) E 3 dX7_corner_89 iw_X7_corner_X7 rfl (by decide) (by decide +kernel) rfl hM.obj rfl ?_
        refine j_bipush (x := nI 8) E dX7_corner_92 (by decide) ?_
        refine j_iload_n E dX7_corner_94 rfl ?_
        refine j_imul E dX7_corner_95 ?_
        refine J.topi (x' := nI (8 * j)) (pk_mul _ _) ?_
        refine j_aload_n E dX7_corner_96 rfl ?_
        refine j_getfield (ref := "ColourPartsModel") (C := RX7) (T := TX7) (N := 27) (ci := 8) E 5 dX7_corner_97 iw_X7_corner_X7 rfl (by decide) (by decide +kernel) rfl hM.obj rfl ?_
        refine j_iload_n E dX7_corner_100 rfl ?_
        refine j_iaload E j dX7_corner_101 (hM.gI 5 10 (by decide)) rfl (by omega) (by omega) ?_
        refine J.topi (x' := nI (nc (gS ss j))) (a5) ?_
        refine j_iadd E dX7_corner_102 ?_
        refine J.topi (x' := nI (8 * j + nc (gS ss j))) (nI_add _ _) ?_
        refine j_lload_n E dX7_corner_103 rfl ?_
        refine j_lastore E (8 * j + nc (gS ss j)) dX7_corner_104 (hM.gJ 3 80 (by decide)) rfl (by omega) (by omega) ?_
        refine MR.gen (hM.pJ 3 80 _ (by decide)) (fun h hM => ?_)
        refine j_aload_n E dX7_corner_105 rfl ?_
        refine j_getfield (ref := "ColourPartsModel") (C := RX7) (T := TX7) (N := 27) (ci := 8) E 4 dX7_corner_106 iw_X7_corner_X7 rfl (by decide) (by decide +kernel) rfl hM.obj rfl ?_
        refine j_bipush (x := nI 8) E dX7_corner_109 (by decide) ?_
        refine j_iload_n E dX7_corner_111 rfl ?_
        refine j_imul E dX7_corner_112 ?_
        refine J.topi (x' := nI (8 * j)) (pk_mul _ _) ?_
        refine j_aload_n E dX7_corner_113 rfl ?_
        refine j_getfield (ref := "ColourPartsModel") (C := RX7) (T := TX7) (N := 27) (ci := 8) E 5 dX7_corner_114 iw_X7_corner_X7 rfl (by decide) (by decide +kernel) rfl hM.obj rfl ?_
        refine j_iload_n E dX7_corner_117 rfl ?_
        refine j_iaload E j dX7_corner_118 (hM.gI 5 10 (by decide)) rfl (by omega) (by omega) ?_
        refine J.topi (x' := nI (nc (gS ss j))) (a5) ?_
        refine j_iadd E dX7_corner_119 ?_
        refine J.topi (x' := nI (8 * j + nc (gS ss j))) (nI_add _ _) ?_
        refine j_lload E dX7_corner_120 rfl ?_
        refine j_lastore E (8 * j + nc (gS ss j)) dX7_corner_122 (hM.gJ 4 80 (by decide)) rfl (by omega) (by omega) ?_
        refine MR.gen (hM.pJ 4 80 _ (by decide)) (fun h hM => ?_)
        refine j_aload_n E dX7_corner_123 rfl ?_
        refine j_getfield (ref := "ColourPartsModel") (C := RX7) (T := TX7) (N := 27) (ci := 8) E 5 dX7_corner_124 iw_X7_corner_X7 rfl (by decide) (by decide +kernel) rfl hM.obj rfl ?_
        refine j_iload_n E dX7_corner_127 rfl ?_
        refine j_dup2 E dX7_corner_128 rfl rfl ?_
        refine j_iaload E j dX7_corner_129 (hM.gI 5 10 (by decide)) rfl (by omega) (by omega) ?_
        refine J.topi (x' := nI (nc (gS ss j))) (a5) ?_
        refine j_iconst (x := nI 1) E dX7_corner_130 (by decide) ?_
        refine j_iadd E dX7_corner_131 ?_
        refine J.topi (x' := nI (nc (gS ss j) + 1)) (nI_1 _) ?_
        refine j_iastore E j dX7_corner_132 (hM.gI 5 10 (by decide)) rfl (by omega) (by omega) ?_
        refine MR.gen (hM.pI 5 10 _ (by decide)) (fun h hM => ?_)
        refine j_aload_n E dX7_corner_133 rfl ?_
        refine j_getfield (ref := "ColourPartsModel") (C := RX7) (T := TX7) (N := 27) (ci := 8) E 5 dX7_corner_134 iw_X7_corner_X7 rfl (by decide) (by decide +kernel) rfl hM.obj rfl ?_
        refine j_iload_n E dX7_corner_137 rfl ?_
        refine j_iaload E j dX7_corner_138 (hM.gI 5 10 (by decide)) rfl (by omega) (by omega) ?_
        refine J.topi (x' := nI (nc (gS ss j) + 1)) ((congrFun (uA_eq _ _ _) j).trans upd_eq) ?_
        refine j_iconst (x := nI 2) E dX7_corner_139 (by decide) ?_
        refine j_irem E dX7_corner_140 (by decide) ?_
        refine J.topi (x' := nI ((nc (gS ss j) + 1) % 2)) (nI_mod2 _ (by omega)) ?_
        have fin : MA (addK ss j x.toInt y.toInt) (uA s 0 q) (uA I 5 (upd (I 5) j (nI (nc (gS ss j) + 1)))) (uA (uA G 3 (vp_updL (G 3) (8 * j + nc (gS ss j)) x)) 4 (vp_updL (uA G 3 (vp_updL (G 3) (8 * j + nc (gS ss j)) x) 4) (8 * j + nc (gS ss j)) y)) := by
          refine A.upd hw hj _ rfl (fun t ht htj => ⟨(congrFun (uA_eq _ _ _) t).trans (upd_ne htj), rfl, rfl, rfl, fun k hk => ⟨?_, ?_⟩, fun _ _ => rfl⟩) ⟨(congrFun (uA_eq _ _ _) j).trans (upd_eq.trans (by rw [nc_app])), a8, a6, a9, fun k hk => ?_, aK⟩
          · exact pk_uLn (by omega)
          · exact pk_uLn (by omega)
          · rw [nc_app] at hk
            by_cases e : k = nc (gS ss j)
            · rw [e]
              refine ⟨pk_uLs.trans ?_, pk_uLs.trans ?_⟩
              · rw [cx_last, lZ_of]
              · rw [cy_last, lZ_of]
            · have hk2 : k < nc (gS ss j) := by omega
              refine ⟨(pk_uLn (by omega)).trans ?_, (pk_uLn (by omega)).trans ?_⟩
              · rw [cx_init hk2]; exact (aX k hk2).1
              · rw [cy_init hk2]; exact (aX k hk2).2
        have post : ∀ r, r = some (Value.int (bI ((nc (gS ss j) + 1) % 2 = 0))) → ∃ s1 I1 G1, MR h0 h m a (lZ d) s1 I1 G1 ∧ s1 0 = cdCorner ss (nI j) x y ∧ (∀ k, k ≠ 0 → s1 k = s k) ∧ (∀ k, k ≠ 5 → I1 k = I k) ∧ (∀ k, k ≠ 3 → k ≠ 4 → G1 k = G k) ∧ (¬ cdCorner ss (nI j) x y = 0 → MA ss s1 I1 G1) ∧ (cdCorner ss (nI j) x y = 0 → ∀ i, i < ss.length → nI j = nI i → r = some (.int (bI ((nc (gS ss i) + 1) % 2 = 0))) ∧ MA (addK ss i x.toInt y.toInt) s1 I1 G1) := fun r hr => ⟨_, _, _, hM, (uA_eq _ _ _).trans hc, fun k h1 => uA_ne _ _ h1, fun k h1 => uA_ne _ _ h1, fun k h1 h2 => (uA_ne _ _ h2).trans (uA_ne _ _ h1), fun w => absurd h9 w, fun _ i hi e => by rw [hjj i hi e]; exact ⟨hr, fin⟩⟩
        refine j_if_ne E (tgt := 148) dX7_corner_141 (by decide) (fun c3 => ?_) (fun c3 => ?_)
        ·
          refine j_iconst (x := nI 0) E dX7_corner_148 (by decide) ?_
          rw [← hQ]
          exact j_iret E dX7_corner_149 rfl rfl (by omega) (by omega) ⟨⟨_, rfl⟩, post _ (by rw [bI_f (fun w => c3 (by rw [w]; rfl))]; rfl)⟩
        · have e0 := (nI_eq (by omega) (by decide)).mp c3
          refine j_iconst (x := nI 1) E dX7_corner_144 (by decide) ?_
          refine j_goto E (tgt := 149) dX7_corner_145 (by decide) ?_
          rw [← hQ]
          exact j_iret E dX7_corner_149 rfl rfl (by omega) (by omega) ⟨⟨_, rfl⟩, post _ (by rw [bI_t e0]; rfl)⟩
      · exact absurd (by rw [hc, h9]; decide) c2
    ·
      refine j_if_le E (tgt := 88) dX7_corner_83 (by decide) (fun c2 => ?_) (fun c2 => ?_)
      · rcases cI3 (p1 := ¬ isx z ss.length) (p2 := nc (gS ss z.toNatClampNeg) = 8 ∨ 0 < nk (gS ss z.toNatClampNeg)) (p3 := farL x ∨ farL y) with e | e | e | e
        · exact absurd e h9
        · exact absurd c2 (by rw [hc, show cdCorner ss z x y = 1 from e]; decide)
        · exact absurd c2 (by rw [hc, show cdCorner ss z x y = 2 from e]; decide)
        · exact absurd c2 (by rw [hc, show cdCorner ss z x y = 3 from e]; decide)
      ·
        refine j_iconst (x := nI 0) E dX7_corner_86 (by decide) ?_
        rw [← hQ]
        exact j_iret E dX7_corner_87 rfl rfl (by omega) (by omega) ⟨⟨_, rfl⟩, ⟨_, _, _, hM, (uA_eq _ _ _).trans hc, fun k h1 => uA_ne _ _ h1, fun k _ => rfl, fun k _ _ => rfl, fun _ => A1, fun w => absurd w h9⟩⟩
  refine j_aload_n E dX7_corner_0 rfl ?_
  refine j_aload_n E dX7_corner_1 rfl ?_
  refine j_iload_n E dX7_corner_2 rfl ?_
  refine j_callV (np := 1) (C := RX7) (T := TX7) (N := 27) (ci := 8) E (m_isShape v hM A (by omega) z) gX7_corner_X7_isShape rfl ⟨rfl, by decide, by decide, by decide +kernel⟩ dX7_corner_3 (by omega) (by decide) rfl hM.obj rfl rfl (Nat.le_of_ble_eq_true rfl) (by omega) (by omega) (fun r9 h9 p9 => J.pure p9 ?_)
  refine J.wide (k' := 0) (n' := 0) (by omega) (by omega) ?_
  refine j_if_ne E (tgt := 13) dX7_corner_6 (by decide) (fun c1 => ?_) (fun c1 => ?_)
  · obtain ⟨j, hj, rfl⟩ := bI_n.mp c1
    have hx : ¬ ¬ isx (nI j) ss.length := fun w => w ⟨j, hj, rfl⟩
    have ej : (nI j).toNatClampNeg = j := nI_clamp (by omega)
    obtain ⟨a5, a8, a6, a9, aX, aK⟩ := A.2 j hj
    have w1 := (hw.2.2 j hj).1
    have w2 := (hw.2.2 j hj).2.1
    refine j_aload_n E dX7_corner_13 rfl ?_
    refine j_getfield (ref := "ColourPartsModel") (C := RX7) (T := TX7) (N := 27) (ci := 8) E 5 dX7_corner_14 iw_X7_corner_X7 rfl (by decide) (by decide +kernel) rfl hM.obj rfl ?_
    refine j_iload_n E dX7_corner_17 rfl ?_
    refine j_iaload E j dX7_corner_18 (hM.gI 5 10 (by decide)) rfl (by omega) (by omega) ?_
    refine J.topi (x' := nI (nc (gS ss j))) (a5) ?_
    refine j_bipush (x := nI 8) E dX7_corner_19 (by decide) ?_
    refine j_icmp_eq E (tgt := 33) dX7_corner_21 (by decide) (fun c2 => ?_) (fun c2 => ?_)
    · have e := (nI_eq (by omega) (by decide)).mp c2
      refine j_iconst (x := nI 2) E dX7_corner_33 (by decide) ?_
      refine j_goto E (tgt := 76) dX7_corner_34 (by decide) ?_
      exact tail _ (by rw [cdCorner, cI_f hx, ej, cI_t (Or.inl e)]; rfl)
    ·
      refine j_aload_n E dX7_corner_24 rfl ?_
      refine j_getfield (ref := "ColourPartsModel") (C := RX7) (T := TX7) (N := 27) (ci := 8) E 8 dX7_corner_25 iw_X7_corner_X7 rfl (by decide) (by decide +kernel) rfl hM.obj rfl ?_
      refine j_iload_n E dX7_corner_28 rfl ?_
      refine j_iaload E j dX7_corner_29 (hM.gI 8 10 (by decide)) rfl (by omega) (by omega) ?_
      refine J.topi (x' := nI (nk (gS ss j))) (a8) ?_
      refine j_if_le E (tgt := 37) dX7_corner_30 (by decide) (fun c3 => ?_) (fun c3 => ?_)
      · have e8 : ¬ (nc (gS ss j) = 8 ∨ 0 < nk (gS ss j)) := fun w => w.elim (fun w => c2 (by rw [w])) (fun w => nI_nle w (by omega) c3)
        refine j_lload_n E dX7_corner_37 rfl ?_
        refine j_ldc2 E (x := lZ (-1000000)) dX7_corner_38 (show Cond.constantLong _ _ (-1000000) ∈ _ by decide +kernel) ?_
        refine j_lcmp E dX7_corner_41 ?_
        refine j_if_lt E (tgt := 71) dX7_corner_42 (by decide) (fun c4 => ?_) (fun c4 => ?_)
        ·
          refine j_iconst (x := nI 3) E dX7_corner_71 (by decide) ?_
          refine j_goto E (tgt := 76) dX7_corner_72 (by decide) ?_
          exact tail _ (by rw [cdCorner, cI_f hx, ej, cI_f e8, cI_t (show farL x ∨ farL y from Or.inl (Or.inl (cmp_lt.mp c4)))]; rfl)
        ·
          refine j_lload_n E dX7_corner_45 rfl ?_
          refine j_ldc2 E (x := lZ (1000000)) dX7_corner_46 (show Cond.constantLong _ _ (1000000) ∈ _ by decide +kernel) ?_
          refine j_lcmp E dX7_corner_49 ?_
          refine j_if_gt E (tgt := 71) dX7_corner_50 (by decide) (fun c5 => ?_) (fun c5 => ?_)
          ·
            refine j_iconst (x := nI 3) E dX7_corner_71 (by decide) ?_
            refine j_goto E (tgt := 76) dX7_corner_72 (by decide) ?_
            exact tail _ (by rw [cdCorner, cI_f hx, ej, cI_f e8, cI_t (show farL x ∨ farL y from Or.inl (Or.inr (cmp_gt.mp c5)))]; rfl)
          ·
            refine j_lload E dX7_corner_53 rfl ?_
            refine j_ldc2 E (x := lZ (-1000000)) dX7_corner_55 (show Cond.constantLong _ _ (-1000000) ∈ _ by decide +kernel) ?_
            refine j_lcmp E dX7_corner_58 ?_
            refine j_if_lt E (tgt := 71) dX7_corner_59 (by decide) (fun c6 => ?_) (fun c6 => ?_)
            ·
              refine j_iconst (x := nI 3) E dX7_corner_71 (by decide) ?_
              refine j_goto E (tgt := 76) dX7_corner_72 (by decide) ?_
              exact tail _ (by rw [cdCorner, cI_f hx, ej, cI_f e8, cI_t (show farL x ∨ farL y from Or.inr (Or.inl (cmp_lt.mp c6)))]; rfl)
            ·
              refine j_lload E dX7_corner_62 rfl ?_
              refine j_ldc2 E (x := lZ (1000000)) dX7_corner_64 (show Cond.constantLong _ _ (1000000) ∈ _ by decide +kernel) ?_
              refine j_lcmp E dX7_corner_67 ?_
              refine j_if_le E (tgt := 75) dX7_corner_68 (by decide) (fun c7 => ?_) (fun c7 => ?_)
              ·
                refine j_iconst (x := nI 0) E dX7_corner_75 (by decide) ?_
                exact tail _ (by rw [cdCorner, cI_f hx, ej, cI_f e8, cI_f (fun w : farL x ∨ farL y => w.elim (fun w => w.elim (fun w => c4 (cmp_lt.mpr w)) (fun w => c5 (cmp_gt.mpr w))) (fun w => w.elim (fun w => c6 (cmp_lt.mpr w)) (fun w => Int64.not_lt.mpr (cmp_le.mp c7) w)))]; rfl)
              ·
                refine j_iconst (x := nI 3) E dX7_corner_71 (by decide) ?_
                refine j_goto E (tgt := 76) dX7_corner_72 (by decide) ?_
                exact tail _ (by rw [cdCorner, cI_f hx, ej, cI_f e8, cI_t (show farL x ∨ farL y from Or.inr (Or.inr (Int64.not_le.mp (fun w => c7 (cmp_le.mpr w)))))]; rfl)
      · have e8 : nc (gS ss j) = 8 ∨ 0 < nk (gS ss j) := by
          rcases Nat.eq_zero_or_pos (nk (gS ss j)) with q | q
          · exact absurd (by rw [q]; decide) c3
          · exact Or.inr q
        refine j_iconst (x := nI 2) E dX7_corner_33 (by decide) ?_
        refine j_goto E (tgt := 76) dX7_corner_34 (by decide) ?_
        exact tail _ (by rw [cdCorner, cI_f hx, ej, cI_t e8]; rfl)
  ·
    refine j_iconst (x := nI 1) E dX7_corner_9 (by decide) ?_
    refine j_goto E (tgt := 76) dX7_corner_10 (by decide) ?_
    exact tail _ (by rw [cdCorner, cI_t (bI_z.mp c1)]; rfl)
theorem iw_X7_hasCut_X7 : ∀ w ∈ u_ws RX7 TX7 27, w ∈ wsX7_hasCut := by decide +kernel
theorem m_hasCut (v : Nat) (hM : MR h0 h m a (lZ d) s I G) (A : MA ss s I G) (hw : wfSS ss) {j : Nat} (hj : j < ss.length) (x : Int64) {w : Int} (hww : w = 0 ∨ w = 1) : CM l B E0 D yX7_hasCut wsX7_hasCut (v + 1) 0 0 [.ref m, .int (nI j), .long x, .int (iZ w)] h (fun r h1 => r = some (.int (bI (hasC (gS ss j) w x))) ∧ h1 = h) := by
  have hl := hw.1
  have wj := hw.2.2 j hj
  have hk3 := wj.2.1
  obtain ⟨a5, a8, a6, a9, aX, aK⟩ := A.2 j hj
  refine CM.of (cc := cX7_hasCut) (maxL := 7) (ret := (some .boolean)) (by decide) rfl (Nat.le_of_ble_eq_true rfl) (fun X E hin => ?_)
  show J X B D 7 _ h 0 0 0 [(0, .ref m), (1, .int (nI j)), (2, .long x), (4, .int (iZ w))] []
  generalize hQ : jQ X B D _ _ _ = Q
  refine j_iconst (x := nI 0) E dX7_hasCut_0 (by decide) ?_
  refine j_istore E dX7_hasCut_1 (by decide) ?_
  refine j_iconst (x := nI 0) E dX7_hasCut_3 (by decide) ?_
  refine j_istore E dX7_hasCut_4 (by decide) ?_
  have key : ∀ (t i : Nat), i + t = nk (gS ss j) → J X B D 7 Q h 0 0 6 [(6, .int (nI i)), (5, .int (bI (hasU (gS ss j) w x i))), (4, .int (iZ w)), (2, .long x), (1, .int (nI j)), (0, .ref m)] [] := by
    intro t
    induction t with
    | zero =>
      intro i hi
      refine j_iload E dX7_hasCut_6 rfl ?_
      refine j_aload_n E dX7_hasCut_8 rfl ?_
      refine j_getfield (ref := "ColourPartsModel") (C := RX7) (T := TX7) (N := 27) (ci := 8) E 8 dX7_hasCut_9 iw_X7_hasCut_X7 rfl (by decide) (by decide +kernel) rfl hM.obj rfl ?_
      refine j_iload_n E dX7_hasCut_12 rfl ?_
      refine j_iaload E j dX7_hasCut_13 (hM.gI 8 10 (by decide)) rfl (by omega) (by omega) ?_
      refine J.topi (x' := nI (nk (gS ss j))) (a8) ?_
      refine j_icmp_ge E (tgt := 62) dX7_hasCut_14 (by decide) (fun c => ?_) (fun c => ?_)
      · rw [show i = nk (gS ss j) by omega]
        refine j_iload E dX7_hasCut_62 rfl ?_
        rw [← hQ]
        exact j_iret E dX7_hasCut_64 rfl (nb_bI _) (by omega) (by omega) ⟨rfl, rfl⟩
      · exact absurd (nI_le (show nk (gS ss j) ≤ i by omega) (by omega)) c
    | succ t ih =>
      intro i hi
      have hik : i < nk (gS ss j) := by omega
      have tail : J X B D 7 Q h 0 0 54 [(6, .int (nI i)), (5, .int (bI (hasU (gS ss j) w x i))), (4, .int (iZ w)), (2, .long x), (1, .int (nI j)), (0, .ref m)] [.int (bI (hasU (gS ss j) w x (i + 1)))] := by
        refine j_istore E dX7_hasCut_54 (by decide) ?_
        refine j_iinc E dX7_hasCut_56 rfl (nI_1 i) (by decide) ?_
        refine j_goto E (tgt := 6) dX7_hasCut_59 (by decide) ?_
        refine J.sub [(6, .int (nI (i + 1))), (5, .int (bI (hasU (gS ss j) w x (i + 1)))), (4, .int (iZ w)), (2, .long x), (1, .int (nI j)), (0, .ref m)] ⟨rfl, rfl, rfl, rfl, rfl, rfl, trivial⟩ ?_
        exact ih (i + 1) (by omega)
      refine j_iload E dX7_hasCut_6 rfl ?_
      refine j_aload_n E dX7_hasCut_8 rfl ?_
      refine j_getfield (ref := "ColourPartsModel") (C := RX7) (T := TX7) (N := 27) (ci := 8) E 8 dX7_hasCut_9 iw_X7_hasCut_X7 rfl (by decide) (by decide +kernel) rfl hM.obj rfl ?_
      refine j_iload_n E dX7_hasCut_12 rfl ?_
      refine j_iaload E j dX7_hasCut_13 (hM.gI 8 10 (by decide)) rfl (by omega) (by omega) ?_
      refine J.topi (x' := nI (nk (gS ss j))) (a8) ?_
      refine j_icmp_ge E (tgt := 62) dX7_hasCut_14 (by decide) (fun c => ?_) (fun c => ?_)
      · exact absurd c (nI_ge hik (by omega))
      ·
        refine j_iload E dX7_hasCut_17 rfl ?_
        refine j_if_ne E (tgt := 49) dX7_hasCut_19 (by decide) (fun c1 => ?_) (fun c1 => ?_)
        ·
          refine j_iconst (x := nI 1) E dX7_hasCut_49 (by decide) ?_
          refine J.topi (x' := bI (hasU (gS ss j) w x (i + 1))) ((bI_t (hasU_s.mpr (Or.inl (bI_n.mp c1)))).symm) ?_
          refine j_goto E (tgt := 54) dX7_hasCut_50 (by decide) ?_
          exact tail
        ·
          refine j_aload_n E dX7_hasCut_22 rfl ?_
          refine j_getfield (ref := "ColourPartsModel") (C := RX7) (T := TX7) (N := 27) (ci := 8) E 9 dX7_hasCut_23 iw_X7_hasCut_X7 rfl (by decide) (by decide +kernel) rfl hM.obj rfl ?_
          refine j_iload_n E dX7_hasCut_26 rfl ?_
          refine j_zaload E j dX7_hasCut_27 (hM.gZ 9 10 (by decide)) rfl (by omega) (by omega) ?_
          refine J.topi (x' := iZ (sd (gS ss j))) (a9 (by omega)) ?_
          refine j_iload E dX7_hasCut_28 rfl ?_
          have esd : iZ (sd (gS ss j)) = iZ w ↔ sd (gS ss j) = w := iZ_eq (by have := wj.2.2.2.2.2.2.1; omega) (by omega)
          refine j_icmp_ne E (tgt := 53) dX7_hasCut_30 (by decide) (fun c2 => ?_) (fun c2 => ?_)
          ·
            refine j_iconst (x := nI 0) E dX7_hasCut_53 (by decide) ?_
            refine J.topi (x' := bI (hasU (gS ss j) w x (i + 1))) ((bI_f (fun z => (hasU_s.mp z).elim (bI_z.mp c1) (fun z => c2 (esd.mpr z.1)))).symm) ?_
            exact tail
          ·
            refine j_aload_n E dX7_hasCut_33 rfl ?_
            refine j_getfield (ref := "ColourPartsModel") (C := RX7) (T := TX7) (N := 27) (ci := 8) E 7 dX7_hasCut_34 iw_X7_hasCut_X7 rfl (by decide) (by decide +kernel) rfl hM.obj rfl ?_
            refine j_iconst (x := nI 3) E dX7_hasCut_37 (by decide) ?_
            refine j_iload_n E dX7_hasCut_38 rfl ?_
            refine j_imul E dX7_hasCut_39 ?_
            refine J.topi (x' := nI (3 * j)) (pk_mul _ _) ?_
            refine j_iload E dX7_hasCut_40 rfl ?_
            refine j_iadd E dX7_hasCut_42 ?_
            refine J.topi (x' := nI (3 * j + i)) (nI_add _ _) ?_
            refine j_laload E (3 * j + i) dX7_hasCut_43 (hM.gJ 7 30 (by decide)) rfl (by omega) (by omega) ?_
            refine J.topl (x' := lZ (ct (gS ss j) i)) (aK i hik) ?_
            refine j_lload_n E dX7_hasCut_44 rfl ?_
            refine j_lcmp E dX7_hasCut_45 ?_
            refine j_if_ne E (tgt := 53) dX7_hasCut_46 (by decide) (fun c3 => ?_) (fun c3 => ?_)
            ·
              refine j_iconst (x := nI 0) E dX7_hasCut_53 (by decide) ?_
              refine J.topi (x' := bI (hasU (gS ss j) w x (i + 1))) ((bI_f (fun z => (hasU_s.mp z).elim (bI_z.mp c1) (fun z => c3 (cmp_eq.mpr z.2)))).symm) ?_
              exact tail
            ·
              refine j_iconst (x := nI 1) E dX7_hasCut_49 (by decide) ?_
              refine J.topi (x' := bI (hasU (gS ss j) w x (i + 1))) ((bI_t (hasU_s.mpr (Or.inr ⟨esd.mp c2, cmp_eq.mp c3⟩))).symm) ?_
              refine j_goto E (tgt := 54) dX7_hasCut_50 (by decide) ?_
              exact tail
  refine J.sub [(6, .int (nI 0)), (5, .int (bI (hasU (gS ss j) w x 0))), (4, .int (iZ w)), (2, .long x), (1, .int (nI j)), (0, .ref m)] ⟨rfl, by rw [bI_f (fun ⟨k, hk, _⟩ => absurd hk (Nat.not_lt_zero k))]; rfl, rfl, rfl, rfl, rfl, trivial⟩ ?_
  exact key (nk (gS ss j)) 0 (by omega)
theorem iw_X7_isWithin_X7 : ∀ w ∈ u_ws RX7 TX7 27, w ∈ wsX7_isWithin := by decide +kernel
theorem m_isWithin (v : Nat) (hM : MR h0 h m a (lZ d) s I G) (A : MA ss s I G) (hw : wfSS ss) {j : Nat} (hj : j < ss.length) (h2 : nc (gS ss j) = 2) (x : Int64) {w : Int} (hww : w = 0 ∨ w = 1) : CM l B E0 D yX7_isWithin wsX7_isWithin (v + 2) 0 0 [.ref m, .int (nI j), .long x, .int (iZ w)] h (fun r h1 => r = some (.int (bI (withC (gS ss j) w x))) ∧ h1 = h) := by
  have hl := hw.1
  have wj := hw.2.2 j hj
  obtain ⟨a5, a8, a6, a9, aX, aK⟩ := A.2 j hj
  have b0 := wj.2.2.2.1 0 (by omega)
  have b1 := wj.2.2.2.1 1 (by omega)
  obtain ⟨X0, Y0⟩ := aX 0 (by omega)
  obtain ⟨X1, Y1⟩ := aX 1 (by omega)
  refine CM.of (cc := cX7_isWithin) (maxL := 9) (ret := (some .boolean)) (by decide) rfl (Nat.le_of_ble_eq_true rfl) (fun X E hin => ?_)
  show J X B D 9 _ h 0 0 0 [(0, .ref m), (1, .int (nI j)), (2, .long x), (4, .int (iZ w))] []
  generalize hQ : jQ X B D _ _ _ = Q
  have tail : ∀ u1 u2 : Int, lOK u1 → lOK u2 → min u1 u2 = axl (gS ss j) w → max u1 u2 = axh (gS ss j) w → J X B D 9 Q h 0 0 60 [(7, .long (lZ u2)), (5, .long (lZ u1)), (2, .long x), (0, .ref m)] [] := by
    intro u1 u2 o1 o2 m1 m2
    refine j_lload_n E dX7_isWithin_60 rfl ?_
    refine j_lload E dX7_isWithin_61 rfl ?_
    refine j_lload E dX7_isWithin_63 rfl ?_
    refine j_callS (np := 2) E (m_low v o1 o2) gX7_isWithin_X7_low rfl ⟨by decide, by decide, by decide +kernel⟩ dX7_isWithin_65 (by omega) (by decide) rfl rfl (Nat.le_of_ble_eq_true rfl) (by omega) (by omega) (fun r9 h9 p9 => J.pure p9 ?_)
    refine J.wide (k' := 0) (n' := 0) (by omega) (by omega) ?_
    refine j_lcmp E dX7_isWithin_68 ?_
    refine j_if_le E (tgt := 88) dX7_isWithin_69 (by decide) (fun c => ?_) (fun c => ?_)
    ·
      refine j_iconst (x := nI 0) E dX7_isWithin_88 (by decide) ?_
      refine J.topi (x' := bI (withC (gS ss j) w x)) ((bI_f (fun z => Int64.not_lt.mpr (cmp_le.mp c) (by rw [m1]; exact z.1))).symm) ?_
      rw [← hQ]
      exact j_iret E dX7_isWithin_89 rfl (nb_bI _) (by omega) (by omega) ⟨rfl, rfl⟩
    ·
      refine j_lload_n E dX7_isWithin_72 rfl ?_
      refine j_lload E dX7_isWithin_73 rfl ?_
      refine j_lload E dX7_isWithin_75 rfl ?_
      refine j_callS (np := 2) E (m_high v o1 o2) gX7_isWithin_X7_high rfl ⟨by decide, by decide, by decide +kernel⟩ dX7_isWithin_77 (by omega) (by decide) rfl rfl (Nat.le_of_ble_eq_true rfl) (by omega) (by omega) (fun r9 h9 p9 => J.pure p9 ?_)
      refine J.wide (k' := 0) (n' := 0) (by omega) (by omega) ?_
      refine j_lcmp E dX7_isWithin_80 ?_
      refine j_if_ge E (tgt := 88) dX7_isWithin_81 (by decide) (fun c2 => ?_) (fun c2 => ?_)
      ·
        refine j_iconst (x := nI 0) E dX7_isWithin_88 (by decide) ?_
        refine J.topi (x' := bI (withC (gS ss j) w x)) ((bI_f (fun z => Int64.not_lt.mpr (cmp_ge.mp c2) (by rw [m2]; exact z.2))).symm) ?_
        rw [← hQ]
        exact j_iret E dX7_isWithin_89 rfl (nb_bI _) (by omega) (by omega) ⟨rfl, rfl⟩
      ·
        refine j_iconst (x := nI 1) E dX7_isWithin_84 (by decide) ?_
        refine J.topi (x' := bI (withC (gS ss j) w x)) ((bI_t ⟨by rw [← m1]; exact Int64.not_le.mp (fun z => c (cmp_le.mpr z)), by rw [← m2]; exact Int64.not_le.mp (fun z => c2 (cmp_ge.mpr z))⟩).symm) ?_
        refine j_goto E (tgt := 89) dX7_isWithin_85 (by decide) ?_
        rw [← hQ]
        exact j_iret E dX7_isWithin_89 rfl (nb_bI _) (by omega) (by omega) ⟨rfl, rfl⟩
  refine j_iload E dX7_isWithin_0 rfl ?_
  rcases hww with rfl | rfl
  ·
    refine j_if_eq E (tgt := 17) dX7_isWithin_2 (by decide) (fun c => ?_) (fun c => ?_)
    ·
      refine j_aload_n E dX7_isWithin_17 rfl ?_
      refine j_getfield (ref := "ColourPartsModel") (C := RX7) (T := TX7) (N := 27) (ci := 8) E 4 dX7_isWithin_18 iw_X7_isWithin_X7 rfl (by decide) (by decide +kernel) rfl hM.obj rfl ?_
      refine j_bipush (x := nI 8) E dX7_isWithin_21 (by decide) ?_
      refine j_iload_n E dX7_isWithin_23 rfl ?_
      refine j_imul E dX7_isWithin_24 ?_
      refine J.topi (x' := nI (8 * j)) (pk_mul _ _) ?_
      refine j_laload E (8 * j + 0) dX7_isWithin_25 (hM.gJ 4 80 (by decide)) rfl (by omega) (by omega) ?_
      refine J.topl (x' := lZ (cy (gS ss j) 0)) (Y0) ?_
      refine j_lstore E dX7_isWithin_26 (by decide) ?_
      refine j_iload E dX7_isWithin_28 rfl ?_
      refine j_if_eq E (tgt := 47) dX7_isWithin_30 (by decide) (fun c2 => ?_) (fun c2 => ?_)
      ·
        refine j_aload_n E dX7_isWithin_47 rfl ?_
        refine j_getfield (ref := "ColourPartsModel") (C := RX7) (T := TX7) (N := 27) (ci := 8) E 4 dX7_isWithin_48 iw_X7_isWithin_X7 rfl (by decide) (by decide +kernel) rfl hM.obj rfl ?_
        refine j_bipush (x := nI 8) E dX7_isWithin_51 (by decide) ?_
        refine j_iload_n E dX7_isWithin_53 rfl ?_
        refine j_imul E dX7_isWithin_54 ?_
        refine J.topi (x' := nI (8 * j)) (pk_mul _ _) ?_
        refine j_iconst (x := nI 1) E dX7_isWithin_55 (by decide) ?_
        refine j_iadd E dX7_isWithin_56 ?_
        refine J.topi (x' := nI (8 * j + 1)) (nI_1 _) ?_
        refine j_laload E (8 * j + 1) dX7_isWithin_57 (hM.gJ 4 80 (by decide)) rfl (by omega) (by omega) ?_
        refine J.topl (x' := lZ (cy (gS ss j) 1)) (Y1) ?_
        refine j_lstore E dX7_isWithin_58 (by decide) ?_
        refine J.sub [(7, .long (lZ (cy (gS ss j) 1))), (5, .long (lZ (cy (gS ss j) 0))), (2, .long x), (0, .ref m)] ⟨rfl, rfl, rfl, rfl, trivial⟩ ?_
        exact tail _ _ (lOK_s (by omega)) (lOK_s (by omega)) rfl rfl
      · exact absurd rfl c2
    · exact absurd rfl c
  ·
    refine j_if_eq E (tgt := 17) dX7_isWithin_2 (by decide) (fun c => ?_) (fun c => ?_)
    · exact absurd c (by decide)
    ·
      refine j_aload_n E dX7_isWithin_5 rfl ?_
      refine j_getfield (ref := "ColourPartsModel") (C := RX7) (T := TX7) (N := 27) (ci := 8) E 3 dX7_isWithin_6 iw_X7_isWithin_X7 rfl (by decide) (by decide +kernel) rfl hM.obj rfl ?_
      refine j_bipush (x := nI 8) E dX7_isWithin_9 (by decide) ?_
      refine j_iload_n E dX7_isWithin_11 rfl ?_
      refine j_imul E dX7_isWithin_12 ?_
      refine J.topi (x' := nI (8 * j)) (pk_mul _ _) ?_
      refine j_laload E (8 * j + 0) dX7_isWithin_13 (hM.gJ 3 80 (by decide)) rfl (by omega) (by omega) ?_
      refine J.topl (x' := lZ (cx (gS ss j) 0)) (X0) ?_
      refine j_goto E (tgt := 26) dX7_isWithin_14 (by decide) ?_
      refine j_lstore E dX7_isWithin_26 (by decide) ?_
      refine j_iload E dX7_isWithin_28 rfl ?_
      refine j_if_eq E (tgt := 47) dX7_isWithin_30 (by decide) (fun c2 => ?_) (fun c2 => ?_)
      · exact absurd c2 (by decide)
      ·
        refine j_aload_n E dX7_isWithin_33 rfl ?_
        refine j_getfield (ref := "ColourPartsModel") (C := RX7) (T := TX7) (N := 27) (ci := 8) E 3 dX7_isWithin_34 iw_X7_isWithin_X7 rfl (by decide) (by decide +kernel) rfl hM.obj rfl ?_
        refine j_bipush (x := nI 8) E dX7_isWithin_37 (by decide) ?_
        refine j_iload_n E dX7_isWithin_39 rfl ?_
        refine j_imul E dX7_isWithin_40 ?_
        refine J.topi (x' := nI (8 * j)) (pk_mul _ _) ?_
        refine j_iconst (x := nI 1) E dX7_isWithin_41 (by decide) ?_
        refine j_iadd E dX7_isWithin_42 ?_
        refine J.topi (x' := nI (8 * j + 1)) (nI_1 _) ?_
        refine j_laload E (8 * j + 1) dX7_isWithin_43 (hM.gJ 3 80 (by decide)) rfl (by omega) (by omega) ?_
        refine J.topl (x' := lZ (cx (gS ss j) 1)) (X1) ?_
        refine j_goto E (tgt := 58) dX7_isWithin_44 (by decide) ?_
        refine j_lstore E dX7_isWithin_58 (by decide) ?_
        refine J.sub [(7, .long (lZ (cx (gS ss j) 1))), (5, .long (lZ (cx (gS ss j) 0))), (2, .long x), (0, .ref m)] ⟨rfl, rfl, rfl, rfl, trivial⟩ ?_
        exact tail _ _ (lOK_s (by omega)) (lOK_s (by omega)) rfl rfl
end M5
