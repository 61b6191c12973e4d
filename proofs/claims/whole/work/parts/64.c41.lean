/-! what stays of a state from call to call -/
theorem wf_app {ss : List SH} (hw : wfSS ss) (h : cdShape ss = 0) : wfSS (ss ++ [dS]) := by
  obtain ⟨h10, h12, hs⟩ := hw
  have hn : ¬ (ss.length = 10 ∨ tS ss ss.length = 12) := fun z => by
    unfold cdShape at h
    rw [cI_t z] at h
    exact absurd h (by decide)
  have e1 : tS (ss ++ [dS]) ss.length = tS ss ss.length := tS_congr (fun i hi => by rw [gS_app, if_pos hi])
  refine ⟨by rw [List.length_append, List.length_singleton]; omega, ?_, fun j hj => ?_⟩
  · rw [List.length_append, List.length_singleton]
    show tS (ss ++ [dS]) ss.length + (nk (gS (ss ++ [dS]) ss.length) + 1) ≤ 12
    rw [e1, gS_app, if_neg (Nat.lt_irrefl _), if_pos rfl]
    show _ + (0 + 1) ≤ 12
    omega
  · rw [List.length_append, List.length_singleton] at hj
    rw [gS_app]
    by_cases e : j < ss.length
    · rw [if_pos e]; exact hs j e
    · rw [if_neg e, if_pos (by omega)]
      exact ⟨by decide, by decide, fun z => absurd z (by decide), fun i hi => absurd hi (Nat.not_lt_zero _), fun k hk => absurd hk (Nat.not_lt_zero _), fun a b _ hb => absurd hb (Nat.not_lt_zero _), Or.inl rfl, by decide⟩
theorem wf_set {ss : List SH} (hw : wfSS ss) {j : Nat} (hj : j < ss.length) {x : SH} (hx : wfS x) (ht : tS ss ss.length + nk x ≤ 12 + nk (gS ss j)) : wfSS (ss.set j x) := by
  obtain ⟨h10, h12, hs⟩ := hw
  have e : ∀ n, n ≤ j → tS (ss.set j x) n = tS ss n := fun n hn => tS_congr (fun i hi => by rw [gS_set hj, if_neg (by omega)])
  have e2 : ∀ n, j < n → tS (ss.set j x) n + nk (gS ss j) = tS ss n + nk x := by
    intro n
    induction n with
    | zero => intro h; omega
    | succ n ih =>
      intro h
      show tS (ss.set j x) n + (nk (gS (ss.set j x) n) + 1) + nk (gS ss j) = tS ss n + (nk (gS ss n) + 1) + nk x
      rw [gS_set hj]
      by_cases q : n = j
      · subst q
        rw [if_pos rfl, e n (Nat.le_refl _)]
        omega
      · rw [if_neg q]
        have := ih (by omega)
        omega
  refine ⟨by rw [List.length_set]; exact h10, ?_, fun i hi => ?_⟩
  · rw [List.length_set]
    have := e2 ss.length hj
    omega
  · rw [List.length_set] at hi
    rw [gS_set hj]
    by_cases q : i = j
    · rw [if_pos q]; exact hx
    · rw [if_neg q]; exact hs i hi
theorem setT_wf {ss : List SH} (hw : wfSS ss) {j : Nat} (hj : j < ss.length) {c : Int32} (h : cdPre ss (nI j) c = 0) : wfSS (setT ss j c.toInt) := by
  have hb : ¬ badC c := fun z => by
    unfold cdPre at h
    have h10 := hw.1
    rw [cI_f (show ¬ ¬ isx (nI j) ss.length from fun w => w ⟨j, hj, rfl⟩)] at h
    by_cases e : opS ss
    · rw [cI_t e] at h; exact absurd h (by decide)
    · rw [cI_f e, cI_t z] at h; exact absurd h (by decide)
  obtain ⟨a1, a2, a3, a4, a5, a6, a7, a8⟩ := hw.2.2 j hj
  refine wf_set hw hj (x := ((gS ss j).1, (gS ss j).2.1, (gS ss j).2.2.1, c.toInt)) ⟨a1, a2, a3, a4, a5, a6, a7, ?_⟩ (by have := hw.2.1; show _ + nk (gS ss j) ≤ _; omega)
  unfold badC at hb
  rw [Int32.lt_iff_toInt_lt, Int32.lt_iff_toInt_lt, show (nI 3).toInt = 3 by decide, show (-1 : Int32).toInt = -1 by decide] at hb
  show -1 ≤ c.toInt ∧ c.toInt ≤ 3
  omega
theorem insS_wf {ss : List SH} (hw : wfSS ss) {j : Nat} (hj : j < ss.length) {x : Int64} {w : Int} (hww : w = 0 ∨ w = 1) (h : cdStitch ss (nI j) x w = 0) (hno : ¬ hasC (gS ss j) w x) : wfSS (insS ss j x.toInt w) ∧ nk (gS (insS ss j x.toInt w) j) = nk (gS ss j) + 1 := by
  have h10 := hw.1
  obtain ⟨a1, a2, a3, a4, a5, a6, a7, a8⟩ := hw.2.2 j hj
  unfold cdStitch at h
  rw [cI_f (show ¬ ¬ isx (nI j) ss.length from fun w => w ⟨j, hj, rfl⟩)] at h
  have nop : ¬ opS ss := fun z => by rw [cI_t z] at h; exact absurd h (by decide)
  rw [cI_f nop, nI_clamp (show j < 2 ^ 31 by omega)] at h
  unfold cdSt at h
  have n2 : ¬ (¬ nc (gS ss j) = 2 ∨ (¬ hasC (gS ss j) w x ∧ (nk (gS ss j) = 3 ∨ tS ss ss.length = 12))) := fun z => by rw [cI_t z] at h; exact absurd h (by decide)
  rw [cI_f n2] at h
  have n3 : ¬ (¬ withC (gS ss j) w x ∨ (0 < nk (gS ss j) ∧ ¬ sd (gS ss j) = w)) := fun z => by rw [cI_t z] at h; exact absurd h (by decide)
  have hc2 : nc (gS ss j) = 2 := Classical.not_not.mp (fun z => n2 (Or.inl z))
  have hk3 : nk (gS ss j) < 3 := by
    have : ¬ nk (gS ss j) = 3 := fun z => n2 (Or.inr ⟨hno, Or.inl z⟩)
    omega
  have ht : tS ss ss.length < 12 := by
    have h1 : ¬ tS ss ss.length = 12 := fun z => n2 (Or.inr ⟨hno, Or.inr z⟩)
    have := hw.2.1
    omega
  have hwi : withC (gS ss j) w x := Classical.not_not.mp (fun z => n3 (Or.inl z))
  have hsd : 0 < nk (gS ss j) → sd (gS ss j) = w := fun z => Classical.not_not.mp (fun z2 => n3 (Or.inr ⟨z, z2⟩))
  have c0 := a4 0 (by omega)
  have c1 := a4 1 (by omega)
  have bl : -1000000 ≤ axl (gS ss j) w ∧ axl (gS ss j) w ≤ 1000000 := by
    unfold axl
    by_cases e : w = 0
    · rw [if_pos e]; omega
    · rw [if_neg e]; omega
  have bh : -1000000 ≤ axh (gS ss j) w ∧ axh (gS ss j) w ≤ 1000000 := by
    unfold axh
    by_cases e : w = 0
    · rw [if_pos e]; omega
    · rw [if_neg e]; omega
  obtain ⟨w1, w2⟩ := hwi
  rw [Int64.lt_iff_toInt_lt, lZ_toInt (by omega) (by omega)] at w1 w2
  have hne : ∀ k, k < nk (gS ss j) → ¬ ct (gS ss j) k = x.toInt := fun k hk e => hno ⟨k, hk, hsd (by omega), by rw [e]; exact lZ_of x⟩
  obtain ⟨k, k1, k2, k3⟩ := exLst (S := fun k => nk (gS ss j) ≤ k ∨ x.toInt < ct (gS ss j) k) (nk (gS ss j)) (Or.inl (Nat.le_refl _))
  have g1 : ∀ i, i < k → (gS ss j).2.1.getD i 0 < x.toInt := fun i hi => by
    have h1 := k3 i hi
    have h2 := hne i (by omega)
    show ct (gS ss j) i < _
    omega
  have g2 : ∀ i, k ≤ i → i < (gS ss j).2.1.length → x.toInt < (gS ss j).2.1.getD i 0 := fun i hi hi2 => by
    have hi3 : i < nk (gS ss j) := hi2
    have h1 : x.toInt < ct (gS ss j) k := k2.resolve_left (by omega)
    show _ < ct (gS ss j) i
    by_cases e : i = k
    · rw [e]; exact h1
    · have := a6 k i (by omega) hi3; omega
  obtain ⟨i1, i2, i3, i4⟩ := insC_get g1 g2 k1
  have hlen : nk ((gS ss j).1, insC (gS ss j).2.1 x.toInt, w, (gS ss j).2.2.2) = nk (gS ss j) + 1 := i1
  have at_ : ∀ i, i < nk (gS ss j) + 1 → (i < k ∧ ct ((gS ss j).1, insC (gS ss j).2.1 x.toInt, w, (gS ss j).2.2.2) i = ct (gS ss j) i) ∨ (i = k ∧ ct ((gS ss j).1, insC (gS ss j).2.1 x.toInt, w, (gS ss j).2.2.2) i = x.toInt) ∨ (k < i ∧ ct ((gS ss j).1, insC (gS ss j).2.1 x.toInt, w, (gS ss j).2.2.2) i = ct (gS ss j) (i - 1)) := fun i hi => by
    rcases Nat.lt_trichotomy i k with q | q | q
    · exact Or.inl ⟨q, i2 i q⟩
    · exact Or.inr (Or.inl ⟨q, by rw [q]; exact i3⟩)
    · refine Or.inr (Or.inr ⟨q, ?_⟩)
      have := i4 (i - 1) (by omega)
      rw [show i - 1 + 1 = i by omega] at this
      exact this
  have inn : ∀ i, i < nk (gS ss j) → axl (gS ss j) w < ct (gS ss j) i ∧ ct (gS ss j) i < axh (gS ss j) w := fun i hi => by
    rw [← hsd (by omega)]
    exact a5 i hi
  refine ⟨wf_set hw hj (x := ((gS ss j).1, insC (gS ss j).2.1 x.toInt, w, (gS ss j).2.2.2)) ⟨a1, by rw [hlen]; omega, fun _ => hc2, a4, fun i hi => ?_, fun p q hpq hq => ?_, hww, a8⟩ (by rw [hlen]; omega), ?_⟩
  · show axl (gS ss j) w < _ ∧ _ < axh (gS ss j) w
    rw [hlen] at hi
    rcases at_ i hi with ⟨q, e⟩ | ⟨q, e⟩ | ⟨q, e⟩
    · rw [e]; exact inn i (by omega)
    · rw [e]; exact ⟨w1, w2⟩
    · rw [e]; exact inn (i - 1) (by omega)
  · rw [hlen] at hq
    have G1 : ∀ i, i < k → ct (gS ss j) i < x.toInt := g1
    have G2 : ∀ i, k ≤ i → i < nk (gS ss j) → x.toInt < ct (gS ss j) i := g2
    rcases at_ p (by omega) with ⟨q1, e1⟩ | ⟨q1, e1⟩ | ⟨q1, e1⟩
    · rcases at_ q hq with ⟨q2, e2⟩ | ⟨q2, e2⟩ | ⟨q2, e2⟩
      · rw [e1, e2]; exact a6 p q hpq (by omega)
      · rw [e1, e2]; exact G1 p q1
      · rw [e1, e2]
        have h1 := G1 p q1
        have h2 := G2 (q - 1) (by omega) (by omega)
        omega
    · rcases at_ q hq with ⟨q2, e2⟩ | ⟨q2, e2⟩ | ⟨q2, e2⟩
      · omega
      · omega
      · rw [e1, e2]; exact G2 (q - 1) (by omega) (by omega)
    · rcases at_ q hq with ⟨q2, e2⟩ | ⟨q2, e2⟩ | ⟨q2, e2⟩
      · omega
      · omega
      · rw [e1, e2]; exact a6 (p - 1) (q - 1) (by omega) (by omega)
  · unfold insS
    rw [gS_set hj, if_pos rfl]
    exact hlen
/-- the stitches that were there at the run are there -/
def UK (kp : Option KPs) (ss : List SH) : Prop := ∀ j q, usedOK kp j q → j < ss.length ∧ q < nk (gS ss j)
theorem UK.mono {kp : Option KPs} {ss s2 : List SH} (h : UK kp ss) (hl : ss.length ≤ s2.length) (hk : ∀ j, j < ss.length → nk (gS ss j) ≤ nk (gS s2 j)) : UK kp s2 := fun j q hu => by
  obtain ⟨h1, h2⟩ := h j q hu
  have := hk j h1
  exact ⟨by omega, by omega⟩
theorem UK.none (ss : List SH) : UK none ss := fun j q ⟨ps, f, e, _⟩ => by cases e
theorem UK.run {ss : List SH} (w : Nat → Nat) : UK (some (kpOf ss w)) ss := by
  rintro j q ⟨ps, f, e, ⟨h1, h2, h3⟩, h4, h5⟩
  cases e
  rw [kpOf_len] at h1 h4
  rw [kpOf_S (by omega)] at h2
  rw [kpOf_S h4] at h5
  obtain ⟨a1, a2, a3⟩ := ow_spec h1
  obtain ⟨b1, b2, b3⟩ := ow_spec h4
  rw [h2] at a1 a2 a3
  rw [h5] at b1 b2 b3
  exact ⟨a1, by omega⟩
theorem arU_b {ss : List SH} (hw : wfSS ss) {p : Nat} (hp : p < tS ss ss.length) : ∀ n, n ≤ nb (gS ss (ow ss p)) → 0 ≤ arU ss p n ∧ arU ss p n ≤ n * 4000000000000
  | 0, _ => ⟨Int.le_refl _, by simp [arU]⟩
  | n + 1, h => by
    obtain ⟨h1, h2⟩ := arU_b hw hp n (by omega)
    obtain ⟨o1, o2, o3⟩ := ow_spec hp
    have hwi := hw.2.2 _ o1
    obtain ⟨b1, b2, b3, b4⟩ := px_bnd hwi o3 (show n < nb (gS ss (ow ss p)) by omega)
    obtain ⟨c1, c2⟩ := px_le hwi o3 (show n < nb (gS ss (ow ss p)) by omega)
    have e1 : 0 ≤ arB ss p n := Int.mul_nonneg (by omega) (by omega)
    have e2 : arB ss p n ≤ 2000000 * 2000000 := Int.mul_le_mul (by omega) (by omega) (by omega) (by decide)
    show 0 ≤ arU ss p n + arB ss p n ∧ arU ss p n + arB ss p n ≤ _
    omega
theorem wfK_run {ss : List SH} (hw : wfSS ss) {w : Nat → Nat} (h : ∀ i, i < tS ss ss.length → w i < 4) : wfK (some (kpOf ss w)) := by
  intro ps e
  cases e
  refine ⟨by rw [kpOf_len]; exact hw.2.1, fun k hk => ?_⟩
  rw [kpOf_len] at hk
  obtain ⟨o1, o2, o3⟩ := ow_spec hk
  have h10 := hw.1
  rw [kpOf_S hk, kpOf_C hk, kpOf_A hk]
  have b := arU_b hw hk _ (Nat.le_refl _)
  have n8 := (hw.2.2 _ o1).1
  have nb4 : nb (gS ss (ow ss k)) ≤ 4 := by
    unfold nb
    by_cases e : 0 < nk (gS ss (ow ss k))
    · rw [if_pos e]; decide
    · rw [if_neg e]; omega
  refine ⟨by omega, h k hk, b.1, ?_⟩
  show arU ss k _ ≤ _
  omega
theorem runR_wf {d : Int} {ss : List SH} (hw : wfSS ss) {many : Nat} (hm : many ≤ 4) {kp : Option KPs} {rg : List Nat} (h : runR d ss many kp rg) : wfK kp ∧ UK kp ss := by
  rcases h with ⟨n, w, a1, a2, a3, a4, rfl, rfl⟩ | ⟨a1, rfl, a2, a3⟩
  · exact ⟨wfK_run hw (fun i hi => by have := (a3 i hi).1; omega), UK.run w⟩
  · exact ⟨fun ps e => (by cases e), UK.none ss⟩
