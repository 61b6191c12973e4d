/-! run(): what changes of the class's cells -/
theorem CR.re {E0 : Nat} {h : HM} {T : Nat → Nat} {c : Nat} {d : Int} {ss : List SH} {kp : Option KPs} {rg : List Nat} {cl : Prop} {gs : List SG} {la le ra : Nat} {kr : Value} (R : CR E0 h T c d ss kp rg cl gs la le ra kr) {h1 : HM} {T1 : Nat → Nat} {kp1 : Option KPs} {rg1 : List Nat} {cl1 : Prop} {kr1 : Value} (hK : ∀ q, h q ≠ none → T q ≠ 0 → q ≠ c → q ≠ ra → h1 q = h q) (hT : ∀ q, h q ≠ none → T1 q = T q) (hE : h1 E0 = h E0) (ho : h1 c = some (hO 7 [.long (lZ (d * d)), .ref la, .ref ra, .int (nI rg1.length), kr1, .int (bI cl1)])) (hr : ∃ f, h1 ra = some (hI 12 f) ∧ rg1.length ≤ 12 ∧ ∀ k, k < rg1.length → f k = nI (rg1.getD k 0)) (hk : kpR h1 T1 kp1 kr1) : CR E0 h1 T1 c d ss kp1 rg1 cl1 gs la le ra kr1 := by
  obtain ⟨n1, n2, n3, n4, n5, n6, n7, n8⟩ := R.ne
  obtain ⟨⟨f0, r0⟩, r1, r2, r3, r4, ⟨f, r5, r6, r7⟩, r8, t0, t1, t2, t3, t4⟩ := R
  have nn : ∀ {q o}, h q = some o → h q ≠ none := fun e w => by rw [e] at w; cases w
  obtain ⟨⟨zl, hl1⟩, ne, fe, hl2⟩ := r2.ty
  have sm : ∀ q m, h q ≠ none → T q = m → m ≠ 0 → m ≠ 4 → m ≠ 5 → h1 q = h q := fun q m h0 e a b c2 => hK q h0 (by omega) (fun w => b (by rw [← e, w]; exact t0)) (fun w => c2 (by rw [← e, w]; exact t3))
  refine ⟨⟨f0, hE.trans r0⟩, ho, r2.keep (hK _ (nn hl1) (by omega) n1.symm n5.symm) ?_, r3, fun i hi => ?_, hr, hk, (hT _ (nn r1)).trans t0, (hT _ (nn hl1)).trans t1, fun hne => (hT _ (nn hl2)).trans (t2 hne), (hT _ (nn r5)).trans t3, fun i hi => ?_⟩
  · by_cases e : le = E0
    · rw [e]; exact hE
    · exact hK _ (nn hl2) (by have := t2 e; omega) n2.symm n6.symm
  · obtain ⟨u1, u2, u3, u4, u5⟩ := t4 i hi
    refine (r4 i hi).keep (fun q h0 hq => ?_)
    rcases hq with rfl | rfl | rfl | rfl | hq
    · exact sm _ _ h0 u1 (by omega) (by omega) (by omega)
    · exact sm _ _ h0 u2 (by omega) (by omega) (by omega)
    · by_cases e2 : (gG gs i).2.2.1 = E0
      · rw [e2]; exact hE
      · exact sm _ _ h0 (u3 e2) (by omega) (by omega) (by omega)
    · exact sm _ _ h0 u4 (by omega) (by omega) (by omega)
    · exact sm _ _ h0 (u5 _ hq) (by omega) (by omega) (by omega)
  · obtain ⟨u1, u2, u3, u4, u5⟩ := t4 i hi
    obtain ⟨m1, m2, m3, m4, m5⟩ := (r4 i hi).nn
    exact ⟨(hT _ m1).trans u1, (hT _ m2).trans u2, fun w => (hT _ m3).trans (u3 w), (hT _ m4).trans u4, fun y hy => (hT _ (m5 y hy)).trans (u5 y hy)⟩
theorem SR.but {h h1 : HM} {sr many n few : Nat} {q : Nat → Nat} {NN HH : Nat → Nat → Prop} {t : Nat → Int} {af : Nat → Prop} {w b : Nat → Int32} (R : SR h sr q many n few NN t af HH w b) (k : ∀ z o, h z = some o → (∀ w, o ≠ hO 7 w) → h1 z = some o) : SR h1 sr q many n few NN t af HH w b := by
  obtain ⟨R1, ⟨f2, F2, G2⟩, ⟨f3, F3, G3⟩, ⟨f4, F4, G4⟩, ⟨f5, F5, G5⟩, F6, F7, r⟩ := R
  exact ⟨k _ _ R1 (by intro w z; cases z), ⟨f2, k _ _ F2 (by intro w z; cases z), G2⟩, ⟨f3, k _ _ F3 (by intro w z; cases z), G3⟩, ⟨f4, k _ _ F4 (by intro w z; cases z), G4⟩, ⟨f5, k _ _ F5 (by intro w z; cases z), G5⟩, k _ _ F6 (by intro w z; cases z), k _ _ F7 (by intro w z; cases z), r⟩
theorem td_b {ss : List SH} (hw : wfSS ss) {p : Nat} (hp : p < tS ss ss.length) : -1 ≤ td ss p ∧ td ss p ≤ 3 := (hw.2.2 _ (ow_spec hp).1).2.2.2.2.2.2.2
/-- what is best is what run() looks for -/
theorem Bst_run {d : Int} {ss : List SH} {many few : Nat} {b0 b1 : Nat → Int32} (h : Bst (tS ss ss.length) (ow ss) (PV many (tS ss ss.length) (td ss) (NRn d ss (tS ss ss.length))) 12 b0 few b1) : (few < 12 ∧ ∃ V, (∀ i, i < tS ss ss.length → b1 i = nI (V i) ∧ V i < many) ∧ uC (ow ss) V (tS ss ss.length) = few ∧ runR d ss many (some (kpOf ss V)) []) ∨ (few = 12 ∧ ∀ k, k < 12 → ∀ w, ¬ FV d ss many k w) := by
  rcases h with ⟨e, -, h⟩ | ⟨V, h1, h2, h3, h4, h5⟩
  · exact Or.inr ⟨e, fun k hk w hw => by
      obtain ⟨g1, g2⟩ := FV_PV.mp hw
      have := h w g1
      omega⟩
  · refine Or.inl ⟨h3, V, fun i hi => ⟨h4 i hi, (h1 i hi).1⟩, h2, Or.inl ⟨few, V, h3, fun k hk w hw => ?_, FV_PV.mpr ⟨h1, by omega⟩, fun v hv => ?_, rfl, rfl⟩⟩
    · obtain ⟨g1, g2⟩ := FV_PV.mp hw
      have := (h5 w g1).1
      omega
    · obtain ⟨g1, g2⟩ := FV_PV.mp hv
      have := h5 v g1
      exact this.2 (by omega)
