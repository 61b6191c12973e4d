/-! goOn() -/
/-- no colour: no completion -/
theorem no_hv {many n p c : Nat} {t : Nat → Int} {NN HH : Nat → Nat → Prop} {W V : Nat → Nat} {k : Nat} (hs : ∀ i j, i < n → j < n → NN i j → NN j i) (hi : ∀ i, ¬ NN i i) (n12 : n ≤ 12) (hb : ∀ i j, NN i j → j < n) (hH : hdS many n t p W HH) (hV : Cm many n t NN p W V) (hk : k < n) (hpk : p ≤ k) (hc : c < many) (e : V k = c) : hv t NN HH k c := by
  obtain ⟨h1, h2⟩ := hV
  obtain ⟨a1, a2, a3⟩ := h2 k hk
  refine ⟨by rw [← e]; exact a2, fun i hi12 w => ?_⟩
  have hin := hb k i w.1
  have vi : V i = c := by
    rcases (hH c hc i hi12).mp w.2 with ⟨-, g⟩ | ⟨g1, g2⟩
    · rcases (h2 i hin).2.1 with g2 | g2
      · rw [g] at g2; omega
      · rw [g] at g2; omega
    · rw [h1 i g1]; exact g2
  rcases Nat.lt_trichotomy i k with q | q | q
  · exact a3 i q ⟨hs k i hk hin w.1, by rw [vi, e]⟩
  · exact hi k (q ▸ w.1)
  · exact (h2 i hin).2.2 k q ⟨w.1, by rw [vi, e]⟩
/-- an unmet colour less than c does as well -/
theorem swap_ok {many n p c c0 : Nat} {t : Nat → Int} {NN : Nat → Nat → Prop} {o W V : Nat → Nat} {MM : Nat → Prop} (hM : mtS many n t p W MM) (hV : Cm many n t NN p W V) (hc : c < many) (hc0 : c0 < many) (h1 : ¬ MM c) (h0 : ¬ MM c0) (hp : p < n) (e : V p = c) : Cm many n t NN p W (fun i => swp c0 c (V i)) ∧ (fun i => swp c0 c (V i)) p = c0 ∧ uC o (fun i => swp c0 c (V i)) n = uC o V n := by
  have n1 := fun w => h1 ((hM c hc).mpr w)
  have n0 := fun w => h0 ((hM c0 hc0).mpr w)
  refine ⟨⟨fun i hi => ?_, PV_swp hV.2 hc0 hc (fun i hi w => n0 (Or.inl ⟨i, hi, w⟩)) (fun i hi w => n1 (Or.inl ⟨i, hi, w⟩))⟩, ?_, uC_swp n⟩
  · show swp c0 c (V i) = W i
    rw [hV.1 i hi]
    exact swp_id (fun w => n0 (Or.inr ⟨i, hi, w⟩)) (fun w => n1 (Or.inr ⟨i, hi, w⟩))
  · show swp c0 c (V p) = c0
    rw [e]
    unfold swp
    by_cases h : c = c0
    · rw [if_pos h]; exact h
    · rw [if_neg h, if_pos rfl]
