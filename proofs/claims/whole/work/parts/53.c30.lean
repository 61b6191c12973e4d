/-! new Search(pieces, colours) -/
theorem PSR.but {E0 : Nat} {h0 h h1 : HM} {ps row re : Nat} {pg : List PG} {o : Nat → Nat} {t : Nat → Int} {bb : Nat → List BB} {N : Nat → Nat → Prop} (R : PSR E0 h0 h ps row re pg o t bb N) {sr : Nat} {fs : List Value} (hs : h sr = some (hO 5 fs)) (n0 : h0 sr = none) (f : ∀ z, h z ≠ none → z ≠ sr → h1 z = h z) : PSR E0 h0 h1 ps row re pg o t bb N := by
  obtain ⟨⟨c1, c2, c3, c4, c5⟩, r1, r2, r3, r4, r5⟩ := R
  obtain ⟨⟨zl, hl1⟩, ne, fe, hl2⟩ := r2.ty
  have kt : ∀ z o, h z = some o → (∀ w, o ≠ hO 5 w) → h1 z = some o := fun z o hz a => (f z (by rw [hz]; intro w; cases w) (fun e => by rw [e, hs] at hz; exact a _ (Option.some.inj hz).symm)).trans hz
  refine ⟨⟨fun z hz => ?_, c2, c3, c4, c5⟩, kt _ _ r1 (by intro w z; cases z), r2.keep ((kt _ _ hl1 (by intro w z; cases z)).trans hl1.symm) ((kt _ _ hl2 (by intro w z; cases z)).trans hl2.symm), r3, fun p hp => ?_, r5⟩
  · exact (f z (by rw [c1 z hz]; exact hz) (fun e => hz (by rw [e]; exact n0))).trans (c1 z hz)
  · obtain ⟨s1, s2, s3, s4⟩ := r4 p hp
    obtain ⟨⟨zb, y1⟩, n2, f2, y2⟩ := s3.1.ty
    exact ⟨s1, kt _ _ s2 (by intro w z; cases z), s3.keep ((kt _ _ y1 (by intro w z; cases z)).trans y1.symm) ((kt _ _ y2 (by intro w z; cases z)).trans y2.symm) (fun j hj => (kt _ _ (s3.2.2 j hj) (by intro w z; cases z)).trans (s3.2.2 j hj).symm), s4⟩
