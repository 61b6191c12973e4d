/-! the search: what is best -/
def PV (many n : Nat) (t : Nat → Int) (NN : Nat → Nat → Prop) (W : Nat → Nat) : Prop := ∀ k, k < n → W k < many ∧ (t k = -1 ∨ t k = (W k : Int)) ∧ ∀ i, i < k → ¬ (NN i k ∧ W i = W k)
def Cm (many n : Nat) (t : Nat → Int) (NN : Nat → Nat → Prop) (p : Nat) (W V : Nat → Nat) : Prop := (∀ i, i < p → V i = W i) ∧ PV many n t NN V
/-- from (few, b) to (few1, b1) over the completions S -/
def Bst (n : Nat) (o : Nat → Nat) (S : (Nat → Nat) → Prop) (few : Nat) (b : Nat → Int32) (few1 : Nat) (b1 : Nat → Int32) : Prop :=
  (few1 = few ∧ b1 = b ∧ ∀ V, S V → few ≤ uC o V n) ∨ ∃ V, S V ∧ uC o V n = few1 ∧ few1 < few ∧ (∀ i, i < n → b1 i = nI (V i)) ∧ ∀ V2, S V2 → few1 ≤ uC o V2 n ∧ (uC o V2 n = few1 → lexL n V V2)
theorem Bst.le {n : Nat} {o : Nat → Nat} {S : (Nat → Nat) → Prop} {few few1 : Nat} {b b1 : Nat → Int32} (h : Bst n o S few b few1 b1) : few1 ≤ few ∧ ∀ V, S V → few1 ≤ uC o V n := by
  rcases h with ⟨e, -, h⟩ | ⟨V, h1, h2, h3, h4, h5⟩
  · rw [e]; exact ⟨Nat.le_refl _, h⟩
  · exact ⟨by omega, fun V2 h6 => (h5 V2 h6).1⟩
/-- none to see -/
theorem Bst.none {n : Nat} {o : Nat → Nat} {S : (Nat → Nat) → Prop} {few : Nat} {b : Nat → Int32} (h : ∀ V, S V → few ≤ uC o V n) : Bst n o S few b few b := Or.inl ⟨rfl, rfl, h⟩
theorem Bst.congr {n : Nat} {o : Nat → Nat} {S S2 : (Nat → Nat) → Prop} {few few1 : Nat} {b b1 : Nat → Int32} (h : Bst n o S few b few1 b1) (e : ∀ V, S V ↔ S2 V) : Bst n o S2 few b few1 b1 := by
  have : S = S2 := funext (fun V => propext (e V))
  rw [← this]; exact h
/-- first S, then S2, lex-behind it -/
theorem Bst.join {n : Nat} {o : Nat → Nat} {S S2 : (Nat → Nat) → Prop} {few few1 few2 : Nat} {b b1 b2 : Nat → Int32} (h : Bst n o S few b few1 b1) (h2 : Bst n o S2 few1 b1 few2 b2) (hl : ∀ V V2, S V → S2 V2 → lexL n V V2) : Bst n o (fun V => S V ∨ S2 V) few b few2 b2 := by
  obtain ⟨l1, l2⟩ := h.le
  rcases h2 with ⟨rfl, rfl, g⟩ | ⟨V, g1, g2, g3, g4, g5⟩
  · rcases h with ⟨rfl, rfl, f⟩ | ⟨V, f1, f2, f3, f4, f5⟩
    · exact Or.inl ⟨rfl, rfl, fun V w => w.elim (f V) (g V)⟩
    · exact Or.inr ⟨V, Or.inl f1, f2, f3, f4, fun V2 w => w.elim (f5 V2) (fun w => ⟨g V2 w, fun _ => hl V V2 f1 w⟩)⟩
  · exact Or.inr ⟨V, Or.inr g1, g2, by omega, g4, fun V2 w => w.elim (fun w => ⟨by have := l2 V2 w; omega, fun e => by have := l2 V2 w; omega⟩) (g5 V2)⟩
/-- S2 brings nothing: each of it is as dear as one of S that comes before it -/
theorem Bst.skip {n : Nat} {o : Nat → Nat} {S S2 : (Nat → Nat) → Prop} {few few1 : Nat} {b b1 : Nat → Int32} (h : Bst n o S few b few1 b1) (h2 : ∀ V2, S2 V2 → ∃ V, S V ∧ uC o V n = uC o V2 n) (hl : ∀ V V2, S V → S2 V2 → lexL n V V2) : Bst n o (fun V => S V ∨ S2 V) few b few1 b1 := by
  rcases h with ⟨rfl, rfl, f⟩ | ⟨V, f1, f2, f3, f4, f5⟩
  · exact Or.inl ⟨rfl, rfl, fun V w => w.elim (f V) (fun w => by obtain ⟨U, g1, g2⟩ := h2 V w; rw [← g2]; exact f U g1)⟩
  · exact Or.inr ⟨V, Or.inl f1, f2, f3, f4, fun V2 w => w.elim (f5 V2) (fun w => ⟨by obtain ⟨U, g1, g2⟩ := h2 V2 w; rw [← g2]; exact (f5 U g1).1, fun _ => hl V V2 f1 w⟩)⟩
theorem uC_mono {o W : Nat → Nat} {p n : Nat} (h : p ≤ n) : uC o W p ≤ uC o W n := by
  induction n with
  | zero => rw [show p = 0 by omega]; exact Nat.le_refl _
  | succ n ih =>
    by_cases e : p = n + 1
    · rw [e]; exact Nat.le_refl _
    · have := ih (by omega)
      show _ ≤ uC o W n + bN _
      omega
/-- two colours exchanged -/
def swp (a b : Nat) (x : Nat) : Nat := if x = a then b else if x = b then a else x
theorem swp_swp {a b x : Nat} : swp a b (swp a b x) = x := by
  unfold swp
  by_cases h1 : x = a
  · rw [if_pos h1]
    by_cases h2 : b = a
    · rw [if_pos h2, h2]; exact h1.symm
    · rw [if_neg h2, if_pos rfl]; exact h1.symm
  · rw [if_neg h1]
    by_cases h2 : x = b
    · rw [if_pos h2, if_pos rfl]; exact h2.symm
    · rw [if_neg h2, if_neg h1, if_neg h2]
theorem swp_inj {a b x y : Nat} (h : swp a b x = swp a b y) : x = y := by rw [← swp_swp (a := a) (b := b) (x := x), h, swp_swp]
theorem swp_lt {a b x m : Nat} (ha : a < m) (hb : b < m) (hx : x < m) : swp a b x < m := by
  unfold swp
  by_cases h1 : x = a
  · rw [if_pos h1]; exact hb
  · rw [if_neg h1]
    by_cases h2 : x = b
    · rw [if_pos h2]; exact ha
    · rw [if_neg h2]; exact hx
theorem swp_id {a b x : Nat} (h1 : x ≠ a) (h2 : x ≠ b) : swp a b x = x := by unfold swp; rw [if_neg h1, if_neg h2]
theorem uC_swp {o W : Nat → Nat} {a b : Nat} : ∀ n, uC o (fun i => swp a b (W i)) n = uC o W n
  | 0 => rfl
  | n + 1 => by
    show uC o _ n + bN _ = uC o W n + bN _
    rw [uC_swp n, propext (show (0 < n ∧ o n = o (n - 1) ∧ ¬ swp a b (W n) = swp a b (W (n - 1))) ↔ (0 < n ∧ o n = o (n - 1) ∧ ¬ W n = W (n - 1)) from ⟨fun z => ⟨z.1, z.2.1, fun e => z.2.2 (by rw [e])⟩, fun z => ⟨z.1, z.2.1, fun e => z.2.2 (swp_inj e)⟩⟩)]
theorem PV_swp {many n : Nat} {t : Nat → Int} {NN : Nat → Nat → Prop} {W : Nat → Nat} {a b : Nat} (h : PV many n t NN W) (ha : a < many) (hb : b < many) (hna : ∀ i, i < n → ¬ t i = (a : Int)) (hnb : ∀ i, i < n → ¬ t i = (b : Int)) : PV many n t NN (fun i => swp a b (W i)) := by
  intro k hk
  obtain ⟨h1, h2, h3⟩ := h k hk
  refine ⟨swp_lt ha hb h1, h2.imp id (fun e => ?_), fun i hi w => h3 i hi ⟨w.1, swp_inj w.2⟩⟩
  have e1 : W k ≠ a := fun z => hna k hk (by rw [e, z])
  have e2 : W k ≠ b := fun z => hnb k hk (by rw [e, z])
  show t k = ((swp a b (W k) : Nat) : Int)
  rw [swp_id e1 e2]; exact e
