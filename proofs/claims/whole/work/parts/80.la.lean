/-! the law's world -/
def LW (E0 : Nat) (h : HM) (T : Nat → Nat) (x m ou : Nat) (d : Int) (ss : List SH) (kp : Option KPs) (rg : List Nat) (cl : Prop) : Prop := (wfSS ss ∧ wfK kp ∧ UK kp ss ∧ 1 ≤ d ∧ d ≤ 65536) ∧ CRx E0 h T x d ss kp rg cl ∧ (∃ a s I G, MR h h m a (lZ d) s I G ∧ MA ss s I G ∧ MK kp rg cl s I G ∧ ∀ k, k ∈ mK → T (a k) = 0 ∧ a k ≠ ou) ∧ T m = 0 ∧ T ou = 0 ∧ ou ≠ m ∧ ∃ f, h ou = some (hJ 1 f)
theorem MR.mvo {h0 h h1 : HM} {m : Nat} {a : Nat → Nat} {d : Int64} {s : Nat → Int32} {I : Nat → Nat → Int32} {G : Nat → Nat → Int64} (M : MR h0 h m a d s I G) (hm : h1 m = h m) (ha : ∀ k, k ∈ mK → h1 (a k) = h (a k)) : MR h1 h1 m a d s I G := ⟨hm.trans M.1, fun p hp => (ha _ (mI_lt hp)).trans (M.2.1 p hp), fun p hp => (ha _ (mJ_lt hp)).trans (M.2.2.1 p hp), fun p hp => (ha _ (mZ_lt hp)).trans (M.2.2.2.1 p hp), M.2.2.2.2.1, M.2.2.2.2.2.1, fun _ _ _ => rfl⟩
theorem mK_in : ∀ k, k ∈ mK → (∃ p, p ∈ mI ∧ p.1 = k) ∨ (∃ p, p ∈ mJ ∧ p.1 = k) ∨ ∃ p, p ∈ mZ ∧ p.1 = k := by
  intro k hk
  simp only [mK, List.mem_cons, List.not_mem_nil, or_false] at hk
  rcases hk with rfl | rfl | rfl | rfl | rfl | rfl | rfl | rfl | rfl | rfl | rfl | rfl | rfl | rfl | rfl | rfl | rfl | rfl
  · exact Or.inr (Or.inl ⟨(3, 80), by decide, rfl⟩)
  · exact Or.inr (Or.inl ⟨(4, 80), by decide, rfl⟩)
  · exact Or.inl ⟨(5, 10), by decide, rfl⟩
  · exact Or.inl ⟨(6, 10), by decide, rfl⟩
  · exact Or.inr (Or.inl ⟨(7, 30), by decide, rfl⟩)
  · exact Or.inl ⟨(8, 10), by decide, rfl⟩
  · exact Or.inr (Or.inr ⟨(9, 10), by decide, rfl⟩)
  · exact Or.inl ⟨(11, 12), by decide, rfl⟩
  · exact Or.inl ⟨(12, 12), by decide, rfl⟩
  · exact Or.inr (Or.inr ⟨(13, 144), by decide, rfl⟩)
  · exact Or.inr (Or.inl ⟨(14, 4), by decide, rfl⟩)
  · exact Or.inr (Or.inl ⟨(15, 4), by decide, rfl⟩)
  · exact Or.inl ⟨(16, 13), by decide, rfl⟩
  · exact Or.inl ⟨(20, 12), by decide, rfl⟩
  · exact Or.inl ⟨(21, 12), by decide, rfl⟩
  · exact Or.inr (Or.inl ⟨(22, 12), by decide, rfl⟩)
  · exact Or.inl ⟨(23, 13), by decide, rfl⟩
  · exact Or.inl ⟨(24, 12), by decide, rfl⟩
theorem MR.ar {h0 h : HM} {m : Nat} {a : Nat → Nat} {d : Int64} {s : Nat → Int32} {I : Nat → Nat → Int32} {G : Nat → Nat → Int64} (M : MR h0 h m a d s I G) {k : Nat} (hk : k ∈ mK) : h (a k) ≠ none ∧ ∀ n f, h (a k) ≠ some (hQ n f) := by
  rcases mK_in k hk with ⟨p, hp, rfl⟩ | ⟨p, hp, rfl⟩ | ⟨p, hp, rfl⟩
  · have e := M.2.1 p hp
    exact ⟨fun w => (by rw [e] at w; cases w), fun n f w => (by rw [e] at w; cases w)⟩
  · have e := M.2.2.1 p hp
    exact ⟨fun w => (by rw [e] at w; cases w), fun n f w => (by rw [e] at w; cases w)⟩
  · have e := M.2.2.2.1 p hp
    exact ⟨fun w => (by rw [e] at w; cases w), fun n f w => (by rw [e] at w; cases w)⟩
section LA
variable {E0 : Nat} {h h1 h2 : HM} {T T1 : Nat → Nat} {x m ou : Nat} {a : Nat → Nat} {d : Int} {s s1 : Nat → Int32} {I I1 : Nat → Nat → Int32} {G G1 : Nat → Nat → Int64} {ss : List SH} {kp : Option KPs} {rg : List Nat} {cl : Prop}
/-- the class has moved: the reference's cells stand -/
theorem LW_over (M : MR h h m a (lZ d) s I G) (ta : ∀ k, k ∈ mK → T (a k) = 0 ∧ a k ≠ ou) (t1 : T m = 0) (uo : ou ≠ m) (F : CFo h T h1 T1 ou) : MR h1 h1 m a (lZ d) s I G ∧ (∀ k, k ∈ mK → T1 (a k) = 0 ∧ a k ≠ ou) ∧ T1 m = 0 := by
  have fm := F.1 m (by rw [M.obj]; intro w; cases w) t1 uo.symm
  have fa := fun k (hk : k ∈ mK) => F.1 (a k) (M.ar hk).1 (ta k hk).1 (ta k hk).2
  exact ⟨M.mvo fm.1 (fun k hk => (fa k hk).1), fun k hk => ⟨(fa k hk).2, (ta k hk).2⟩, fm.2⟩
/-- the reference has moved: the class's cells stand -/
theorem LW_step (M : MR h1 h2 m a (lZ d) s1 I1 G1) (R : CRx E0 h1 T1 x d ss kp rg cl) (t1 : T1 m = 0) (ta : ∀ k, k ∈ mK → T1 (a k) = 0 ∧ a k ≠ ou) (uo : ou ≠ m) {f : Nat → Int64} (ho : h1 ou = some (hJ 1 f)) (M1 : MR h1 h1 m a (lZ d) s I G) : MR h2 h2 m a (lZ d) s1 I1 G1 ∧ CRx E0 h2 T1 x d ss kp rg cl ∧ h2 ou = some (hJ 1 f) := by
  obtain ⟨gs, la, le, ra, kr, R⟩ := R
  obtain ⟨f0, r0⟩ := R.1
  refine ⟨M.self, ⟨gs, la, le, ra, kr, R.mv (fun q q0 qt => M.fr q (fun e => qt (by rw [e]; exact t1)) (fun k hk e => qt (by rw [e]; exact (ta k hk).1))) ?_⟩, ?_⟩
  · exact M.fr E0 (hm_ne r0 M1.obj (by intro z; cases z)) (fun k hk e => (M1.ar hk).2 0 f0 (by rw [← e]; exact r0))
  · exact (M.fr ou uo (fun k hk e => (ta k hk).2 e.symm)).trans ho
theorem LW_fin (w : wfSS ss ∧ wfK kp ∧ UK kp ss ∧ 1 ≤ d ∧ d ≤ 65536) (R : CRx E0 h2 T1 x d ss kp rg cl) (M : MR h2 h2 m a (lZ d) s1 I1 G1) (A : MA ss s1 I1 G1) (K : MK kp rg cl s1 I1 G1) (ta : ∀ k, k ∈ mK → T1 (a k) = 0 ∧ a k ≠ ou) (t1 : T1 m = 0) (t2 : T1 ou = 0) (uo : ou ≠ m) {f : Nat → Int64} (ho : h2 ou = some (hJ 1 f)) : LW E0 h2 T1 x m ou d ss kp rg cl := ⟨w, R, ⟨a, s1, I1, G1, M, A, K, ta⟩, t1, t2, uo, f, ho⟩
end LA
/-- a long of the script -/
def lw2 (p q : Int32) : Int64 := p.toInt64 <<< ((nI 32).toInt64 &&& 63) ||| q.toInt64 &&& lZ 4294967295
theorem lB_t {p : Prop} (h : p) : lB p = lZ 1 := cI_t h
theorem lB_f {p : Prop} (h : ¬ p) : lB p = lZ 0 := cI_f h
/-- there is one k-th pair -/
theorem totC_mono (P : Nat → Nat → Prop) (n : Nat) {i j : Nat} (h : i ≤ j) : totC P n i ≤ totC P n j := by
  induction j with
  | zero => rw [show i = 0 by omega]; exact Nat.le_refl _
  | succ j ih =>
    by_cases e : i = j + 1
    · rw [e]; exact Nat.le_refl _
    · have := ih (by omega)
      show _ ≤ totC P n j + _
      omega
theorem rowC_mono (P : Nat → Nat → Prop) (i : Nat) {j k : Nat} (h : j ≤ k) : rowC P i j ≤ rowC P i k := by
  induction k with
  | zero => rw [show j = 0 by omega]; exact Nat.le_refl _
  | succ k ih =>
    by_cases e : j = k + 1
    · rw [e]; exact Nat.le_refl _
    · have := ih (by omega)
      show _ ≤ rowC P i k + _
      omega
theorem rowC_up {P : Nat → Nat → Prop} {i j : Nat} (h1 : i < j) (h2 : P i j) : rowC P i (j + 1) = rowC P i j + 1 := by
  show rowC P i j + bN (i < j ∧ P i j) = _
  rw [bN_t ⟨h1, h2⟩]
theorem kth_lt {P : Nat → Nat → Prop} {n K i j : Nat} (h : kth P n K i j) : K < totC P n (i + 1) := by
  obtain ⟨h1, h2, h3, h4⟩ := h
  have a := rowC_up h1 h3
  have b := rowC_mono P i (show j + 1 ≤ n by omega)
  show K < totC P n i + rowC P i n
  omega
theorem kth_no {P : Nat → Nat → Prop} {n K i j : Nat} (h : kth P n K i j) : K < totC P n n := Nat.lt_of_lt_of_le (kth_lt h) (totC_mono P n (by have := h.1; have := h.2.1; omega))
theorem kth_one {P : Nat → Nat → Prop} {n K i j i2 j2 : Nat} (h : kth P n K i j) (h2 : kth P n K i2 j2) : i = i2 ∧ j = j2 := by
  have a := kth_lt h
  have b := kth_lt h2
  obtain ⟨h1, h3, h4, h5⟩ := h
  obtain ⟨g1, g3, g4, g5⟩ := h2
  rcases Nat.lt_trichotomy i i2 with e | e | e
  · have := totC_mono P n (show i + 1 ≤ i2 by omega); omega
  · subst e
    refine ⟨rfl, ?_⟩
    rcases Nat.lt_trichotomy j j2 with e | e | e
    · have q := rowC_up h1 h4
      have := rowC_mono P i (show j + 1 ≤ j2 by omega)
      omega
    · exact e
    · have q := rowC_up g1 g4
      have := rowC_mono P i (show j2 + 1 ≤ j by omega)
      omega
  · have := totC_mono P n (show i2 + 1 ≤ i by omega); omega
