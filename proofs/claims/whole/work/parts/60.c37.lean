/-! the class's pieces are the reference's -/
theorem nearL_P {d : Int} {a b : SH} {k l : Nat} : nearL d (pbx a k) (pbx b l) ↔ nearP d a k b l := by
  constructor
  · rintro ⟨i, hi, j, hj, h⟩
    rw [pbx_len] at hi hj
    rw [pbx_get hi, pbx_get hj] at h
    exact ⟨i, j, hi, hj, h⟩
  · rintro ⟨i, j, hi, hj, h⟩
    refine ⟨i, by rw [pbx_len]; exact hi, j, by rw [pbx_len]; exact hj, ?_⟩
    rw [pbx_get hi, pbx_get hj]
    exact h
theorem nPP_NR {d : Int} {ss : List SH} {p q : Nat} : nPP d (ow ss) (pbb ss) p q ↔ NR d ss p q := and_congr_right (fun _ => nearL_P)
theorem nearQ_symm {d : Int} {a b : SH} {k i l j : Nat} (h : nearQ d a k i b l j) : nearQ d b l j a k i := nrB_symm (b := pxA a k i) (c := pxA b l j) h
theorem NR_symm {d : Int} {ss : List SH} {p q : Nat} (h : NR d ss p q) : NR d ss q p := by
  obtain ⟨h1, i, j, h2, h3, h4⟩ := h
  exact ⟨fun e => h1 e.symm, j, i, h3, h2, nearQ_symm h4⟩
/-- near, among n pieces -/
def NRn (d : Int) (ss : List SH) (n p q : Nat) : Prop := p < n ∧ q < n ∧ NR d ss p q
theorem NRn_of {d : Int} {ss : List SH} {n p q : Nat} : (p < n ∧ q < n ∧ ((p < q ∧ nPP d (ow ss) (pbb ss) p q) ∨ (q < p ∧ nPP d (ow ss) (pbb ss) q p))) ↔ NRn d ss n p q := by
  refine and_congr_right (fun _ => and_congr_right (fun _ => ?_))
  rw [nPP_NR, nPP_NR]
  constructor
  · rintro (⟨-, h⟩ | ⟨-, h⟩)
    · exact h
    · exact NR_symm h
  · intro h
    rcases Nat.lt_trichotomy p q with e | e | e
    · exact Or.inl ⟨e, h⟩
    · exact absurd (by rw [e]) h.1
    · exact Or.inr ⟨e, NR_symm h⟩
theorem NRn_symm {d : Int} {ss : List SH} {n p q : Nat} (h : NRn d ss n p q) : NRn d ss n q p := ⟨h.2.1, h.1, NR_symm h.2.2⟩
theorem areaL_ar {ss : List SH} {p : Nat} : ∀ n, n ≤ nb (gS ss (ow ss p)) → areaL (pbb ss p) n = arU ss p n
  | 0, _ => rfl
  | n + 1, h => by
    have e : gB (pbb ss p) n = pxA (gS ss (ow ss p)) (nu ss p) n := pbx_get (by omega)
    show areaL (pbb ss p) n + _ = arU ss p n + arB ss p n
    rw [areaL_ar n (by omega), e]
    rfl
theorem area_ar {ss : List SH} {p : Nat} : areaL (pbb ss p) (pbb ss p).length = ar ss p := by
  rw [show (pbb ss p).length = nb (gS ss (ow ss p)) from pbx_len _ _]
  exact areaL_ar _ (Nat.le_refl _)
theorem px_le {a : SH} (hw : wfS a) {k b : Nat} (hk : k ≤ nk a) (hb : b < nb a) : px0 a k b ≤ px1 a k b ∧ py0 a k b ≤ py1 a k b := by
  obtain ⟨h8, h3, h2, hc, hin, hso, hst, -⟩ := hw
  have ex : bx0 a b ≤ bx1 a b := by unfold bx0 bx1; omega
  have ey : by0 a b ≤ by1 a b := by unfold by0 by1; omega
  by_cases e0 : 0 < nk a
  · have b0 : b = 0 := by unfold nb at hb; rw [if_pos e0] at hb; omega
    subst b0
    rcases hst with e1 | e1
    · have n1 : ¬ sd a = 1 := by omega
      have ax : ∀ k, k < nk a → by0 a 0 < ct a k ∧ ct a k < by1 a 0 := fun k hk => by
        have := hin k hk
        unfold axl axh at this
        rw [if_pos e1, if_pos e1] at this
        exact this
      unfold px0 px1 py0 py1
      rw [if_neg (fun z => n1 z.2.1), if_neg (fun z => n1 z.2.1)]
      refine ⟨ex, ?_⟩
      by_cases k0 : 0 < k
      · rw [if_pos ⟨e0, n1, k0⟩]
        by_cases k1 : k < nk a
        · rw [if_pos ⟨e0, n1, k1⟩]; have := hso (k - 1) k (by omega) k1; omega
        · rw [if_neg (fun z => k1 z.2.2)]; have := ax (k - 1) (by omega); omega
      · rw [if_neg (fun z => k0 z.2.2)]
        by_cases k1 : k < nk a
        · rw [if_pos ⟨e0, n1, k1⟩]; have := ax k k1; omega
        · omega
    · have n0 : ¬ sd a = 0 := by omega
      have ax : ∀ k, k < nk a → bx0 a 0 < ct a k ∧ ct a k < bx1 a 0 := fun k hk => by
        have := hin k hk
        unfold axl axh at this
        rw [if_neg n0, if_neg n0] at this
        exact this
      unfold px0 px1 py0 py1
      rw [if_neg (fun z : _ ∧ ¬ sd a = 1 ∧ _ => z.2.1 e1), if_neg (fun z : _ ∧ ¬ sd a = 1 ∧ _ => z.2.1 e1)]
      refine ⟨?_, ey⟩
      by_cases k0 : 0 < k
      · rw [if_pos ⟨e0, e1, k0⟩]
        by_cases k1 : k < nk a
        · rw [if_pos ⟨e0, e1, k1⟩]; have := hso (k - 1) k (by omega) k1; omega
        · rw [if_neg (fun z => k1 z.2.2)]; have := ax (k - 1) (by omega); omega
      · rw [if_neg (fun z => k0 z.2.2)]
        by_cases k1 : k < nk a
        · rw [if_pos ⟨e0, e1, k1⟩]; have := ax k k1; omega
        · omega
  · unfold px0 px1 py0 py1
    rw [if_neg (fun z => e0 z.1), if_neg (fun z => e0 z.1), if_neg (fun z => e0 z.1), if_neg (fun z => e0 z.1)]
    exact ⟨ex, ey⟩
theorem pbb_ok {ss : List SH} (hw : wfSS ss) {p : Nat} (hp : p < tS ss ss.length) : (pbb ss p).length < 12 ∧ ∀ i, i < (pbb ss p).length → wB (gB (pbb ss p) i) := by
  obtain ⟨h1, h2, h3⟩ := ow_spec hp
  have hwi := hw.2.2 _ h1
  have el : (pbb ss p).length = nb (gS ss (ow ss p)) := pbx_len _ _
  refine ⟨?_, fun i hi => ?_⟩
  · rw [el]
    unfold nb
    by_cases e : 0 < nk (gS ss (ow ss p))
    · rw [if_pos e]; decide
    · rw [if_neg e]; have := hwi.1; omega
  · rw [el] at hi
    rw [show gB (pbb ss p) i = pxA (gS ss (ow ss p)) (nu ss p) i from pbx_get hi]
    obtain ⟨b1, b2, b3, b4⟩ := px_bnd hwi h3 hi
    obtain ⟨c1, c2⟩ := px_le hwi h3 hi
    exact ⟨⟨b1.1, c1, b2.2⟩, b3.1, c2, b4.2⟩
theorem ow_mono {ss : List SH} {i j : Nat} (h : i ≤ j) (hj : j < tS ss ss.length) : ow ss i ≤ ow ss j := by
  obtain ⟨a1, a2, a3⟩ := ow_spec (show i < tS ss ss.length by omega)
  obtain ⟨b1, b2, b3⟩ := ow_spec hj
  refine Nat.not_lt.mp (fun z => ?_)
  have h1 : tS ss (ow ss j + 1) ≤ tS ss (ow ss i) := tS_mono ss (by omega)
  have h2 : tS ss (ow ss j + 1) = tS ss (ow ss j) + (nk (gS ss (ow ss j)) + 1) := rfl
  omega
/-! all that run() finds is one -/
theorem FV_PV {d : Int} {ss : List SH} {many most : Nat} {w : Nat → Nat} : FV d ss many most w ↔ PV many (tS ss ss.length) (td ss) (NRn d ss (tS ss ss.length)) w ∧ uC (ow ss) w (tS ss ss.length) ≤ most := by
  constructor
  · intro h
    refine ⟨fun k hk => ⟨(h k hk).1, (h k hk).2.1.imp id Eq.symm, fun i hi z => (h k hk).2.2.1 i hi ⟨z.1.2.2, z.2⟩⟩, ?_⟩
    by_cases e : tS ss ss.length = 0
    · rw [e]; exact Nat.zero_le _
    · have := (h (tS ss ss.length - 1) (by omega)).2.2.2
      rw [show tS ss ss.length - 1 + 1 = tS ss ss.length by omega] at this
      exact this
  · rintro ⟨h1, h2⟩ k hk
    obtain ⟨g1, g2, g3⟩ := h1 k hk
    exact ⟨g1, g2.imp id Eq.symm, fun i hi z => g3 i hi ⟨⟨by omega, hk, z.1⟩, z.2⟩, Nat.le_trans (uC_mono (show k + 1 ≤ tS ss ss.length by omega)) h2⟩
theorem lexL_anti {n : Nat} {w v : Nat → Nat} (h1 : lexL n w v) (h2 : lexL n v w) : ∀ i, i < n → w i = v i := by
  rcases h1 with h1 | ⟨i, a1, a2, a3⟩
  · exact h1
  · rcases h2 with h2 | ⟨j, b1, b2, b3⟩
    · exact fun k hk => (h2 k hk).symm
    · exfalso
      rcases Nat.lt_trichotomy i j with e | e | e
      · have := b2 i e; omega
      · subst e; omega
      · have := a2 j e; omega
theorem kpOf_congr {ss : List SH} {w v : Nat → Nat} (h : ∀ i, i < tS ss ss.length → w i = v i) : kpOf ss w = kpOf ss v := by
  unfold kpOf
  refine List.map_congr_left (fun i hi => ?_)
  rw [h i (List.mem_range.mp hi)]
theorem rgOf_congr {ss : List SH} {n : Nat} {w v : Nat → Nat} (h : ∀ i, i < n → w i = v i) : rgOf ss w n = rgOf ss v n := by
  unfold rgOf
  refine List.map_congr_left (fun i hi => ?_)
  rw [h i (List.mem_range.mp hi)]
theorem ringR_one {d : Int} {ss : List SH} {r1 r2 : List Nat} (h1 : ringR d ss r1) (h2 : ringR d ss r2) : r1 = r2 := by
  rcases h1 with ⟨rfl, a⟩ | ⟨n, w, a1, a2, a3, a4, a5, a6, rfl⟩
  · rcases h2 with ⟨rfl, b⟩ | ⟨m, v, b1, b2, b3, b4, b5, b6, rfl⟩
    · rfl
    · exact absurd b5 (a m b1 b2 b3 v)
  · rcases h2 with ⟨rfl, b⟩ | ⟨m, v, b1, b2, b3, b4, b5, b6, rfl⟩
    · exact absurd a5 (b n a1 a2 a3 w)
    · rcases Nat.lt_trichotomy n m with e | e | e
      · exact absurd a5 (b4 n a1 a2 e w)
      · subst e
        exact rgOf_congr (lexL_anti (a6 v b5) (b6 w a5))
      · exact absurd b5 (a4 m b1 b2 e v)
theorem FV_mono {d : Int} {ss : List SH} {many a b : Nat} {w : Nat → Nat} (h : FV d ss many a w) (hab : a ≤ b) : FV d ss many b w := FV_PV.mpr ⟨(FV_PV.mp h).1, Nat.le_trans (FV_PV.mp h).2 hab⟩
theorem runR_one {d : Int} {ss : List SH} {many : Nat} {k1 k2 : Option KPs} {r1 r2 : List Nat} (h1 : runR d ss many k1 r1) (h2 : runR d ss many k2 r2) : k1 = k2 ∧ r1 = r2 := by
  rcases h1 with ⟨n, w, a1, a2, a3, a4, rfl, rfl⟩ | ⟨a1, rfl, a2, a3⟩
  · rcases h2 with ⟨m, v, b1, b2, b3, b4, rfl, rfl⟩ | ⟨b1, rfl, b2, b3⟩
    · rcases Nat.lt_trichotomy n m with e | e | e
      · exact absurd a3 (b2 n e w)
      · subst e
        exact ⟨congrArg some (kpOf_congr (lexL_anti (a4 v b3) (b4 w a3))), rfl⟩
      · exact absurd b3 (a2 m e v)
    · exact absurd a3 (b1 n a1 w)
  · rcases h2 with ⟨m, v, b1, b2, b3, b4, rfl, rfl⟩ | ⟨b1, rfl, b2, b3⟩
    · exact absurd b3 (a1 m b1 v)
    · refine ⟨rfl, ?_⟩
      by_cases e : many = 2
      · exact ringR_one (a2 e) (b2 e)
      · rw [a3 e, b3 e]
/-- a shortest odd closed walk meets no piece twice -/
theorem ECW_inj {N : Nat → Nat → Prop} {n m : Nat} {w : Nat → Nat} (hi : ∀ i, ¬ N i i) (ho : m % 2 = 1) (hno : ∀ k, 3 ≤ k → k % 2 = 1 → k < m → ∀ v, ¬ ECW N n k v) (h : ECW N n m w) : ∀ i j, i < j → j < m → ¬ w i = w j := by
  intro i j hij hj e
  obtain ⟨h1, h2, h3⟩ := h
  by_cases par : (j - i) % 2 = 1
  · -- the part between
    have hc : ECW N n (j - i) (fun k => w (i + k)) := ⟨fun k hk => h1 _ (by omega), fun k hk => h2 (i + k) (by omega), by
      show w (i + (j - i)) = w (i + 0)
      rw [show i + (j - i) = j by omega]; exact e.symm⟩
    by_cases one : j - i = 1
    · have := h2 i (by omega)
      rw [show i + 1 = j by omega, ← e] at this
      exact hi _ this
    · exact hno (j - i) (by omega) par (by omega) _ hc
  · have hc : ECW N n (m - (j - i)) (fun k => if k ≤ i then w k else w (k + (j - i))) := by
      refine ⟨fun k hk => ?_, fun k hk => ?_, ?_⟩
      · show (if k ≤ i then w k else w (k + (j - i))) < n
        by_cases q : k ≤ i
        · rw [if_pos q]; exact h1 _ (by omega)
        · rw [if_neg q]; exact h1 _ (by omega)
      · show N (if k ≤ i then w k else w (k + (j - i))) (if k + 1 ≤ i then w (k + 1) else w (k + 1 + (j - i)))
        by_cases q : k + 1 ≤ i
        · rw [if_pos q, if_pos (by omega)]; exact h2 k (by omega)
        · rw [if_neg q]
          by_cases q2 : k ≤ i
          · rw [if_pos q2, show k = i by omega, e, show i + 1 + (j - i) = j + 1 by omega]; exact h2 j (by omega)
          · rw [if_neg q2, show k + 1 + (j - i) = k + (j - i) + 1 by omega]; exact h2 (k + (j - i)) (by omega)
      · show (if m - (j - i) ≤ i then w (m - (j - i)) else w (m - (j - i) + (j - i))) = if 0 ≤ i then w 0 else w (0 + (j - i))
        rw [if_neg (by omega), if_pos (Nat.zero_le _), show m - (j - i) + (j - i) = m by omega]
        exact h3
    by_cases one : m - (j - i) = 1
    · rw [one] at hc
      have h4 := hc.2.1 0 (by decide)
      have h5 := hc.2.2
      show False
      rw [show (0 : Nat) + 1 = 1 from rfl, h5] at h4
      exact hi _ h4
    · exact hno (m - (j - i)) (by omega) (by omega) (by omega) _ hc
theorem WR_ECW {d : Int} {ss : List SH} {m : Nat} {w : Nat → Nat} (hm : 0 < m) (h : WR d ss m w) : ECW (NRn d ss (tS ss ss.length)) (tS ss ss.length) m (fun k => if k = m then w 0 else w k) := by
  refine ⟨fun k hk => ?_, fun k hk => ?_, ?_⟩
  · show (if k = m then w 0 else w k) < _
    by_cases e : k = m
    · rw [if_pos e]; exact (h 0 hm).1
    · rw [if_neg e]; exact (h k (by omega)).1
  · show NRn d ss _ (if k = m then w 0 else w k) (if k + 1 = m then w 0 else w (k + 1))
    rw [if_neg (by omega)]
    by_cases e : k + 1 = m
    · rw [if_pos e]
      refine ⟨(h k hk).1, (h 0 hm).1, (h k hk).2.2.2.resolve_left (by omega)⟩
    · rw [if_neg e]
      have := (h (k + 1) (by omega)).2.1.resolve_left (Nat.succ_ne_zero _)
      exact ⟨(h k hk).1, (h (k + 1) (by omega)).1, this⟩
  · show (if m = m then w 0 else w m) = (if 0 = m then w 0 else w 0)
    rw [if_pos rfl, if_neg (by omega)]
theorem ECW_WR {d : Int} {ss : List SH} {n m : Nat} {w : Nat → Nat} (en : n = tS ss ss.length) (ho : m % 2 = 1) (hno : ∀ k, 3 ≤ k → k % 2 = 1 → k < m → ∀ v, ¬ ECW (NRn d ss n) n k v) (h : ECW (NRn d ss n) n m w) : WR d ss m w := by
  subst en
  have inj := ECW_inj (fun i z => z.2.2.1 rfl) ho hno h
  intro k hk
  refine ⟨h.1 k (by omega), ?_, fun i hi => inj i k hi hk, ?_⟩
  · by_cases e : k = 0
    · exact Or.inl e
    · have := (h.2.1 (k - 1) (by omega)).2.2
      rw [show k - 1 + 1 = k by omega] at this
      exact Or.inr this
  · by_cases e : k + 1 < m
    · exact Or.inl e
    · have := (h.2.1 k hk).2.2
      rw [show k + 1 = m by omega, h.2.2] at this
      exact Or.inr this
theorem lexL_congr {n : Nat} {w v w2 v2 : Nat → Nat} (h : lexL n w v) (h1 : ∀ i, i < n → w i = w2 i) (h2 : ∀ i, i < n → v i = v2 i) : lexL n w2 v2 := by
  rcases h with h | ⟨i, a1, a2, a3⟩
  · exact Or.inl (fun i hi => by rw [← h1 i hi, ← h2 i hi]; exact h i hi)
  · exact Or.inr ⟨i, a1, fun j hj => by rw [← h1 j (by omega), ← h2 j (by omega)]; exact a2 j hj, by rw [← h1 i a1, ← h2 i a1]; exact a3⟩
theorem oddR_ringR {d : Int} {ss : List SH} {n : Nat} {rg : List Nat} (en : n = tS ss ss.length) (h : oddR (NRn d ss n) n (ow ss) rg) : ringR d ss rg := by
  subst en
  rcases h with ⟨rfl, h⟩ | ⟨m, w, h1, h2, h3, h4, h5, h6, rfl⟩
  · exact Or.inl ⟨rfl, fun m a1 a2 a3 w hw => h m a1 a2 a3 _ (WR_ECW (by omega) hw)⟩
  · refine Or.inr ⟨m, w, h1, h2, h3, fun k a1 a2 a3 w hw => h4 k a1 a2 a3 _ (WR_ECW (by omega) hw), ECW_WR rfl h2 h4 h5, fun v hv => ?_, rfl⟩
    exact lexL_congr (h6 _ (WR_ECW (by omega) hv)) (fun _ _ => rfl) (fun i hi => if_neg (by omega))
