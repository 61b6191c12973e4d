/-! a colouring kept: what its rows say -/
def isFp (ps : KPs) (n s f : Nat) : Prop := f < n ∧ kS ps f = s ∧ ∀ i, i < f → ¬ kS ps i = s
theorem isFp_one {ps : KPs} {n s f g : Nat} (h1 : isFp ps n s f) (h2 : isFp ps n s g) : f = g := by
  rcases Nat.lt_trichotomy f g with q | q | q
  · exact absurd h1.2.1 (h2.2.2 f q)
  · exact q
  · exact absurd h2.2.1 (h1.2.2 g q)
def stA (ps : KPs) (n s K : Nat) : Prop := ∃ f, isFp ps n s f ∧ f + K + 1 < n ∧ kS ps (f + K + 1) = s
def stU (ps : KPs) (n s K : Nat) : Prop := ∃ f, isFp ps n s f ∧ f + K + 1 < n ∧ kS ps (f + K + 1) = s ∧ ¬ kC ps (f + K) = kC ps (f + K + 1)
def KV1 (ps : KPs) (n : Nat) (f0 f1 f2 : Nat → Int32) : Prop := ∀ s, s < 10 → ((∃ f, isFp ps n s f ∧ f0 s = nI (kC ps f)) ∨ ((∀ f, ¬ isFp ps n s f) ∧ f0 s = -1)) ∧ (∃ c, c < 12 ∧ f1 s = nI c ∧ ∀ K, K < c ↔ stA ps n s K) ∧ f2 s = bS (stU ps n s)
def KV2 (ps : KPs) (n : Nat) (f3 : Nat → Int32) (f4 : Nat → Int64) : Prop := ∀ c, c < 4 → f3 c = iZ (balU ps (nI c) 0 n) ∧ f4 c = lZ (balU ps (nI c) 1 n)
theorem isFp_s {ps : KPs} {p s f : Nat} (h : ¬ kS ps p = s) : isFp ps (p + 1) s f ↔ isFp ps p s f := by
  refine ⟨fun z => ⟨?_, z.2⟩, fun z => ⟨by have := z.1; omega, z.2⟩⟩
  have : f ≠ p := fun e => h (by rw [← e]; exact z.2.1)
  have := z.1
  omega
theorem stA_s {ps : KPs} {p s K : Nat} (h : ¬ kS ps p = s) : stA ps (p + 1) s K ↔ stA ps p s K := by
  constructor
  · rintro ⟨f, h1, h2, h3⟩
    have : f + K + 1 ≠ p := fun e => h (by rw [← e]; exact h3)
    exact ⟨f, (isFp_s h).mp h1, by omega, h3⟩
  · rintro ⟨f, h1, h2, h3⟩
    exact ⟨f, (isFp_s h).mpr h1, by omega, h3⟩
theorem stU_s {ps : KPs} {p s K : Nat} (h : ¬ kS ps p = s) : stU ps (p + 1) s K ↔ stU ps p s K := by
  constructor
  · rintro ⟨f, h1, h2, h3, h4⟩
    have : f + K + 1 ≠ p := fun e => h (by rw [← e]; exact h3)
    exact ⟨f, (isFp_s h).mp h1, by omega, h3, h4⟩
  · rintro ⟨f, h1, h2, h3, h4⟩
    exact ⟨f, (isFp_s h).mpr h1, by omega, h3, h4⟩
theorem KV1.first {ps : KPs} {p : Nat} {f0 f1 f2 : Nat → Int32} (K : KV1 ps p f0 f1 f2) (hm : ∀ i j, i ≤ j → j < ps.length → kS ps i ≤ kS ps j) (hp : p < ps.length) (hno : ¬ (0 < p ∧ kS ps p = kS ps (p - 1))) : KV1 ps (p + 1) (upd f0 (kS ps p) (nI (kC ps p))) f1 f2 := by
  intro s hs
  obtain ⟨h1, ⟨c, c1, c2, c3⟩, h3⟩ := K s hs
  by_cases e : kS ps p = s
  · have none : ∀ i, i < p → ¬ kS ps i = s := fun i hi z => by
      have a1 := hm i (p - 1) (by omega) (by omega)
      have a2 := hm (p - 1) p (by omega) hp
      exact hno ⟨by omega, by omega⟩
    have fp : isFp ps (p + 1) s p := ⟨by omega, e, none⟩
    have noA : ∀ n K, n ≤ p + 1 → ¬ stA ps n s K := by
      rintro n K hn ⟨f, g1, g2, g3⟩
      exact none f (by omega) g1.2.1
    refine ⟨Or.inl ⟨p, fp, by rw [e]; exact upd_eq⟩, ⟨c, c1, c2, fun K => (c3 K).trans ⟨fun z => absurd z (noA _ _ (by omega)), fun z => absurd z (noA _ _ (by omega))⟩⟩, h3.trans (bS_congr (fun K _ => ⟨fun ⟨f, g1, g2, g3, _⟩ => absurd ⟨f, g1, g2, g3⟩ (noA p K (by omega)), fun ⟨f, g1, g2, g3, _⟩ => absurd ⟨f, g1, g2, g3⟩ (noA (p + 1) K (by omega))⟩))⟩
  · refine ⟨?_, ⟨c, c1, c2, fun K => (c3 K).trans (stA_s e).symm⟩, h3.trans (bS_congr (fun K _ => (stU_s e).symm))⟩
    rw [upd_ne (fun z => e z.symm)]
    exact h1.imp (fun ⟨f, g1, g2⟩ => ⟨f, (isFp_s e).mpr g1, g2⟩) (fun ⟨g1, g2⟩ => ⟨fun f z => g1 f ((isFp_s e).mp z), g2⟩)
theorem KV1.stitch {ps : KPs} {p : Nat} {f0 f1 f2 : Nat → Int32} (K : KV1 ps p f0 f1 f2) (hm : ∀ i j, i ≤ j → j < ps.length → kS ps i ≤ kS ps j) (h12 : ps.length ≤ 12) (h10 : kS ps p < 10) (hp : p < ps.length) (hp0 : 0 < p) (he : kS ps p = kS ps (p - 1)) : ∃ n, n < 11 ∧ f1 (kS ps p) = nI n ∧ f2 (kS ps p) = bS (stU ps p (kS ps p)) ∧ KV1 ps (p + 1) f0 (upd f1 (kS ps p) (nI (n + 1))) (upd f2 (kS ps p) (bS (fun i => stU ps p (kS ps p) i ∨ (i = n ∧ ¬ kC ps (p - 1) = kC ps p)))) := by
  obtain ⟨f, fle, fS, fl⟩ := exLst (S := fun i => kS ps i = kS ps p) (p - 1) he.symm
  have fp : isFp ps p (kS ps p) f := ⟨by omega, fS, fl⟩
  have all : ∀ i, f ≤ i → i ≤ p → kS ps i = kS ps p := fun i h1 h2 => by
    have a1 := hm f i h1 (by omega)
    have a2 := hm i p h2 hp
    omega
  have A : ∀ K, stA ps p (kS ps p) K ↔ f + K + 1 < p := fun K => ⟨fun ⟨g, g1, g2, g3⟩ => by rw [isFp_one fp g1]; exact g2, fun z => ⟨f, fp, z, all _ (by omega) (by omega)⟩⟩
  obtain ⟨h1, ⟨c, c1, c2, c3⟩, h3⟩ := K _ h10
  have ec : c = p - 1 - f := by
    rcases Nat.lt_trichotomy c (p - 1 - f) with q | q | q
    · have := (c3 c).mpr ((A c).mpr (by omega))
      omega
    · exact q
    · have := (A _).mp ((c3 (p - 1 - f)).mp q)
      omega
  have fp2 : isFp ps (p + 1) (kS ps p) f := ⟨by omega, fS, fl⟩
  have A2 : ∀ K, stA ps (p + 1) (kS ps p) K ↔ f + K + 1 < p + 1 := fun K => ⟨fun ⟨g, g1, g2, g3⟩ => by rw [isFp_one fp2 g1]; exact g2, fun z => ⟨f, fp2, z, all _ (by omega) (by omega)⟩⟩
  refine ⟨c, by omega, c2, h3, fun s hs => ?_⟩
  by_cases e : kS ps p = s
  · subst e
    refine ⟨?_, ⟨c + 1, by omega, upd_eq, fun K => ?_⟩, upd_eq.trans (bS_congr (fun K _ => ?_))⟩
    · rcases h1 with ⟨g, g1, g2⟩ | ⟨g1, -⟩
      · exact Or.inl ⟨f, fp2, by rw [g2, isFp_one fp g1]⟩
      · exact absurd fp (g1 f)
    · rw [A2 K]; omega
    · constructor
      · rintro (⟨g, g1, g2, g3, g4⟩ | ⟨rfl, g⟩)
        · have := isFp_one fp g1
          subst this
          exact ⟨f, fp2, by omega, g3, g4⟩
        · refine ⟨f, fp2, by omega, all _ (by omega) (by omega), ?_⟩
          rw [show f + K + 1 = p by omega, show f + K = p - 1 by omega]
          exact g
      · rintro ⟨g, g1, g2, g3, g4⟩
        have := isFp_one fp2 g1
        subst this
        by_cases ek : f + K + 1 < p
        · exact Or.inl ⟨f, fp, ek, g3, g4⟩
        · refine Or.inr ⟨by omega, ?_⟩
          rw [show f + K + 1 = p by omega, show f + K = p - 1 by omega] at g4
          exact g4
  · obtain ⟨h1, ⟨c, c1, c2, c3⟩, h3⟩ := K s hs
    have e2 : s ≠ kS ps p := fun z => e z.symm
    refine ⟨h1.imp (fun ⟨f, g1, g2⟩ => ⟨f, (isFp_s e).mpr g1, g2⟩) (fun ⟨g1, g2⟩ => ⟨fun f z => g1 f ((isFp_s e).mp z), g2⟩), ⟨c, c1, (upd_ne e2).trans c2, fun K => (c3 K).trans (stA_s e).symm⟩, (upd_ne e2).trans (h3.trans (bS_congr (fun K _ => (stU_s e).symm)))⟩
theorem iZ_add (a b : Int) : iZ a + iZ b = iZ (a + b) := (Int32.ofInt_add a b).symm
theorem KV2.step {ps : KPs} {p : Nat} {f3 : Nat → Int32} {f4 : Nat → Int64} (K : KV2 ps p f3 f4) (h4 : kC ps p < 4) : KV2 ps (p + 1) (upd f3 (kC ps p) (f3 (kC ps p) + nI 1)) (vp_updL f4 (kC ps p) (f4 (kC ps p) + lZ (kA ps p))) := by
  intro c hc
  obtain ⟨h1, h2⟩ := K c hc
  have b0 : balU ps (nI c) 0 (p + 1) = balU ps (nI c) 0 p + cI (nI (kC ps p) = nI c) (cI ((0 : Int32) = 0) 1 (kA ps p)) 0 := rfl
  have b1 : balU ps (nI c) 1 (p + 1) = balU ps (nI c) 1 p + cI (nI (kC ps p) = nI c) (cI ((1 : Int32) = 0) 1 (kA ps p)) 0 := rfl
  by_cases e : c = kC ps p
  · subst e
    rw [cI_t rfl, cI_t rfl] at b0
    rw [cI_t rfl, cI_f (by decide)] at b1
    rw [b0, b1, upd_eq, h1]
    refine ⟨?_, ?_⟩
    · rw [show nI 1 = iZ 1 from rfl, iZ_add]
    · show vp_updL f4 _ _ _ = _
      rw [show vp_updL f4 (kC ps p) (f4 (kC ps p) + lZ (kA ps p)) (kC ps p) = f4 (kC ps p) + lZ (kA ps p) from if_pos rfl, h2, lZ_add]
  · have ne : ¬ nI (kC ps p) = nI c := fun z => e ((nI_eq (show kC ps p < 2 ^ 31 by omega) (show c < 2 ^ 31 by omega)).mp z).symm
    rw [cI_f ne, Int.add_zero] at b0 b1
    rw [b0, b1, upd_ne e]
    exact ⟨h1, (show vp_updL f4 (kC ps p) (f4 (kC ps p) + lZ (kA ps p)) c = f4 c from if_neg e).trans h2⟩
theorem KV1.zero (ps : KPs) : KV1 ps 0 (fun _ => -1) (fun _ => 0) (fun _ => 0) := fun s _ => ⟨Or.inr ⟨fun f z => Nat.not_lt_zero _ z.1, rfl⟩, ⟨0, by decide, rfl, fun K => ⟨fun z => absurd z (Nat.not_lt_zero _), fun ⟨f, z, _⟩ => absurd z.1 (Nat.not_lt_zero _)⟩⟩, (bS_z.mpr (fun K _ ⟨f, z, _⟩ => Nat.not_lt_zero _ z.1)).symm⟩
theorem KV2.zero (ps : KPs) : KV2 ps 0 (fun _ => 0) (fun _ => 0) := fun c _ => ⟨rfl, rfl⟩
