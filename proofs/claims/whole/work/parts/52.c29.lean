/-! the search made -/
def MG (h0 h : HM) (m ci : Nat) (fs : List Value) (L : List (Nat × HO)) : Prop := h0 m ≠ none ∧ h m = some (hO ci fs) ∧ (∀ p ∈ L, h p.1 = some p.2 ∧ h0 p.1 = none) ∧ L.Pairwise (fun p q => p.1 ≠ q.1) ∧ ∀ q, q ≠ m → (∀ p ∈ L, q ≠ p.1) → h q = h0 q
section MGs
variable {h0 h : HM} {m ci : Nat} {fs : List Value} {L : List (Nat × HO)}
theorem MG.obj (M : MG h0 h m ci fs L) : h m = some (hO ci fs) := M.2.1
theorem MG.new (M : MG h0 h m ci fs L) {q : Nat} {o : HO} (hq : h q = none) : MG h0 (hput h q o) m ci fs ((q, o) :: L) := by
  have hm : q ≠ m := fun e => by rw [e, M.obj] at hq; cases hq
  have hL : ∀ p ∈ L, q ≠ p.1 := fun p hp e => by rw [e, (M.2.2.1 p hp).1] at hq; cases hq
  refine ⟨M.1, (hput_ne _ hm.symm).trans M.obj, fun p hp => ?_, List.pairwise_cons.mpr ⟨hL, M.2.2.2.1⟩, fun p h1 h2 => (hput_ne _ (h2 (q, o) List.mem_cons_self)).trans (M.2.2.2.2 p h1 (fun r hr => h2 r (List.mem_cons_of_mem _ hr)))⟩
  rcases List.mem_cons.mp hp with rfl | hp
  · exact ⟨hput_eq _ _ _, (M.2.2.2.2 _ hm hL).symm.trans hq⟩
  · exact ⟨(hput_ne _ (hL p hp).symm).trans (M.2.2.1 p hp).1, (M.2.2.1 p hp).2⟩
theorem MG.set (M : MG h0 h m ci fs L) (fs2 : List Value) : MG h0 (hput h m (hO ci fs2)) m ci fs2 L := by
  refine ⟨M.1, hput_eq _ _ _, fun p hp => ⟨(hput_ne _ ?_).trans (M.2.2.1 p hp).1, (M.2.2.1 p hp).2⟩, M.2.2.2.1, fun p h1 h2 => (hput_ne _ h1).trans (M.2.2.2.2 p h1 h2)⟩
  intro e
  have := (M.2.2.1 p hp).2
  rw [e] at this
  exact M.1 this
end MGs
theorem MG.gen {X : JC} {B : Nat} {D : va_G} {nL : Nat} {Q : State → Prop} {h0 h : HM} {k n pc : Nat} {L : List (Nat × Value)} {st : List Value} {m ci : Nat} {fs : List Value} {W : List (Nat × HO)} (M : MG h0 h m ci fs W) (kk : ∀ h : HM, MG h0 h m ci fs W → J X B D nL Q h k n pc L st) : J X B D nL Q h k n pc L st := kk h M
