/-! the search's cells after a store -/
section C23
variable {h : HM} {sr many n few : Nat} {q : Nat → Nat} {NN HH : Nat → Nat → Prop} {t : Nat → Int} {af : Nat → Prop} {w b : Nat → Int32}
theorem SR.ne (R : SR h sr q many n few NN t af HH w b) : ∀ i, 2 ≤ i → i ≤ 7 → q i ≠ sr := by
  obtain ⟨R1, ⟨f2, F2, -⟩, ⟨f3, F3, -⟩, ⟨f4, F4, -⟩, ⟨f5, F5, -⟩, F6, F7, -⟩ := R
  intro i h1 h2
  have : i = 2 ∨ i = 3 ∨ i = 4 ∨ i = 5 ∨ i = 6 ∨ i = 7 := by omega
  rcases this with rfl | rfl | rfl | rfl | rfl | rfl
  · exact hm_ne F2 R1 (by intro z; cases z)
  · exact hm_ne F3 R1 (by intro z; cases z)
  · exact hm_ne F4 R1 (by intro z; cases z)
  · exact hm_ne F5 R1 (by intro z; cases z)
  · exact hm_ne F6 R1 (by intro z; cases z)
  · exact hm_ne F7 R1 (by intro z; cases z)
theorem SR.setRow (R : SR h sr q many n few NN t af HH w b) (w1 : Nat → Int32) : SR (hput h (q 6) (hI 12 w1)) sr q many n few NN t af HH w1 b := by
  have hne := R.ne 6 (by decide) (by decide)
  obtain ⟨R1, ⟨f2, F2, G2⟩, ⟨f3, F3, G3⟩, ⟨f4, F4, G4⟩, ⟨f5, F5, G5⟩, F6, F7, hd, hr⟩ := R
  exact ⟨(hput_ne _ hne.symm).trans R1, ⟨f2, (hput_ne _ (hd 2 6 (by decide) (by decide) (by decide) (by decide) (by decide))).trans F2, G2⟩, ⟨f3, (hput_ne _ (hd 3 6 (by decide) (by decide) (by decide) (by decide) (by decide))).trans F3, G3⟩, ⟨f4, (hput_ne _ (hd 4 6 (by decide) (by decide) (by decide) (by decide) (by decide))).trans F4, G4⟩, ⟨f5, (hput_ne _ (hd 5 6 (by decide) (by decide) (by decide) (by decide) (by decide))).trans F5, G5⟩, hput_eq _ _ _, (hput_ne _ (hd 7 6 (by decide) (by decide) (by decide) (by decide) (by decide))).trans F7, hd, hr⟩
theorem SR.setBest (R : SR h sr q many n few NN t af HH w b) (b1 : Nat → Int32) : SR (hput h (q 7) (hI 12 b1)) sr q many n few NN t af HH w b1 := by
  have hne := R.ne 7 (by decide) (by decide)
  obtain ⟨R1, ⟨f2, F2, G2⟩, ⟨f3, F3, G3⟩, ⟨f4, F4, G4⟩, ⟨f5, F5, G5⟩, F6, F7, hd, hr⟩ := R
  exact ⟨(hput_ne _ hne.symm).trans R1, ⟨f2, (hput_ne _ (hd 2 7 (by decide) (by decide) (by decide) (by decide) (by decide))).trans F2, G2⟩, ⟨f3, (hput_ne _ (hd 3 7 (by decide) (by decide) (by decide) (by decide) (by decide))).trans F3, G3⟩, ⟨f4, (hput_ne _ (hd 4 7 (by decide) (by decide) (by decide) (by decide) (by decide))).trans F4, G4⟩, ⟨f5, (hput_ne _ (hd 5 7 (by decide) (by decide) (by decide) (by decide) (by decide))).trans F5, G5⟩, (hput_ne _ (hd 6 7 (by decide) (by decide) (by decide) (by decide) (by decide))).trans F6, hput_eq _ _ _, hd, hr⟩
theorem SR.setHold (R : SR h sr q many n few NN t af HH w b) (H1 : Nat → Nat → Prop) {f : Nat → Int32} (hf : ∀ c, c < 4 → f c = bS (H1 c)) : SR (hput h (q 5) (hI 4 f)) sr q many n few NN t af H1 w b := by
  have hne := R.ne 5 (by decide) (by decide)
  obtain ⟨R1, ⟨f2, F2, G2⟩, ⟨f3, F3, G3⟩, ⟨f4, F4, G4⟩, ⟨f5, F5, G5⟩, F6, F7, hd, hr⟩ := R
  exact ⟨(hput_ne _ hne.symm).trans R1, ⟨f2, (hput_ne _ (hd 2 5 (by decide) (by decide) (by decide) (by decide) (by decide))).trans F2, G2⟩, ⟨f3, (hput_ne _ (hd 3 5 (by decide) (by decide) (by decide) (by decide) (by decide))).trans F3, G3⟩, ⟨f4, (hput_ne _ (hd 4 5 (by decide) (by decide) (by decide) (by decide) (by decide))).trans F4, G4⟩, ⟨f, hput_eq _ _ _, hf⟩, (hput_ne _ (hd 6 5 (by decide) (by decide) (by decide) (by decide) (by decide))).trans F6, (hput_ne _ (hd 7 5 (by decide) (by decide) (by decide) (by decide) (by decide))).trans F7, hd, hr⟩
theorem SR.setFew (R : SR h sr q many n few NN t af HH w b) {few1 : Nat} (h1 : few1 ≤ 12) {fs : List Value} (hf : fs = [.int (nI many), .int (nI n), .ref (q 2), .ref (q 3), .ref (q 4), .ref (q 5), .ref (q 6), .ref (q 7), .int (nI few1)]) : SR (hput h sr (hO 5 fs)) sr q many n few1 NN t af HH w b := by
  have hne := R.ne
  obtain ⟨R1, ⟨f2, F2, G2⟩, ⟨f3, F3, G3⟩, ⟨f4, F4, G4⟩, ⟨f5, F5, G5⟩, F6, F7, hd, m4, n12, -, ht⟩ := R
  exact ⟨(hput_eq _ _ _).trans (by rw [hf]), ⟨f2, (hput_ne _ (hne 2 (by decide) (by decide))).trans F2, G2⟩, ⟨f3, (hput_ne _ (hne 3 (by decide) (by decide))).trans F3, G3⟩, ⟨f4, (hput_ne _ (hne 4 (by decide) (by decide))).trans F4, G4⟩, ⟨f5, (hput_ne _ (hne 5 (by decide) (by decide))).trans F5, G5⟩, (hput_ne _ (hne 6 (by decide) (by decide))).trans F6, (hput_ne _ (hne 7 (by decide) (by decide))).trans F7, hd, m4, n12, h1, ht⟩
end C23
