/-! near shapes: by pieces, by boxes; what stays of a state -/
theorem gap_cut {p0 p1 x0 x1 u0 u1 : Int} (h1 : x0 ≤ p0) (h2 : p1 ≤ x1) (h3 : p0 ≤ p1) (hu : u0 ≤ u1) (h4 : p0 = x0 ∨ p0 < u0) (h5 : p1 = x1 ∨ u0 ≤ p1) : gap p0 p1 u0 u1 = gap x0 x1 u0 u1 := by
  unfold gap
  rcases h4 with h4 | h4 <;> rcases h5 with h5 | h5 <;> omega
theorem gap_mono {p0 p1 x0 x1 u0 u1 : Int} (h1 : x0 ≤ p0) (h2 : p1 ≤ x1) : gap x0 x1 u0 u1 ≤ gap p0 p1 u0 u1 := by unfold gap; omega
theorem gap_0 (p0 p1 u0 u1 : Int) : 0 ≤ gap p0 p1 u0 u1 := by unfold gap; omega
theorem sq_le {a b : Int} (h0 : 0 ≤ a) (h : a ≤ b) : a * a ≤ b * b := Int.mul_le_mul h h h0 (by omega)
/-- the cuts of a shape on its axis -/
theorem cuts_in {a : SH} (hw : wfS a) (h0 : 0 < nk a) : nc a = 2 ∧ ∀ k, k < nk a → (sd a = 1 → bx0 a 0 < ct a k ∧ ct a k < bx1 a 0) ∧ (¬ sd a = 1 → by0 a 0 < ct a k ∧ ct a k < by1 a 0) := by
  obtain ⟨h8, h3, h2, hc, hin, hso, hst, -⟩ := hw
  refine ⟨h2 h0, fun k hk => ⟨fun e => ?_, fun e => ?_⟩⟩
  · have := hin k hk
    unfold axl axh at this
    rw [if_neg (by omega), if_neg (by omega)] at this
    exact this
  · have := hin k hk
    unfold axl axh at this
    rw [if_pos (by omega), if_pos (by omega)] at this
    exact this
/-- near some piece of a shape: near its box -/
theorem near_cut {d : Int} {a : SH} (hw : wfS a) {i : Nat} (hi : i < nb a) {c : BB} (hc : c.1 ≤ c.2.2.1 ∧ c.2.1 ≤ c.2.2.2) : (∃ k, k ≤ nk a ∧ nrB d (pxA a k i) c) ↔ nrB d (bxA a i) c := by
  have ex : bx0 a i ≤ bx1 a i := by unfold bx0 bx1; omega
  have ey : by0 a i ≤ by1 a i := by unfold by0 by1; omega
  by_cases h0 : 0 < nk a
  · obtain ⟨n2, cin⟩ := cuts_in hw h0
    have hso := hw.2.2.2.2.2.1
    have i0 : i = 0 := by unfold nb at hi; rw [if_pos h0] at hi; omega
    subst i0
    by_cases e1 : sd a = 1
    · have ax := fun k hk => (cin k hk).1 e1
      have X0 : ∀ k, px0 a k 0 = if 0 < k then ct a (k - 1) else bx0 a 0 := fun k => by
        unfold px0
        by_cases q : 0 < k
        · rw [if_pos ⟨h0, e1, q⟩, if_pos q]
        · rw [if_neg (fun z => q z.2.2), if_neg q]
      have X1 : ∀ k, px1 a k 0 = if k < nk a then ct a k else bx1 a 0 := fun k => by
        unfold px1
        by_cases q : k < nk a
        · rw [if_pos ⟨h0, e1, q⟩, if_pos q]
        · rw [if_neg (fun z => q z.2.2), if_neg q]
      have Y0 : ∀ k, py0 a k 0 = by0 a 0 := fun k => if_neg (fun z : _ ∧ ¬ sd a = 1 ∧ _ => z.2.1 e1)
      have Y1 : ∀ k, py1 a k 0 = by1 a 0 := fun k => if_neg (fun z : _ ∧ ¬ sd a = 1 ∧ _ => z.2.1 e1)
      have le0 : ∀ k, k ≤ nk a → bx0 a 0 ≤ px0 a k 0 ∧ px1 a k 0 ≤ bx1 a 0 := fun k hk => by
        rw [X0, X1]
        refine ⟨?_, ?_⟩
        · by_cases q : 0 < k
          · rw [if_pos q]; have := ax (k - 1) (by omega); omega
          · rw [if_neg q]; omega
        · by_cases q : k < nk a
          · rw [if_pos q]; have := ax k q; omega
          · rw [if_neg q]; omega
      constructor
      · rintro ⟨k, hk, h⟩
        obtain ⟨l0, l1⟩ := le0 k hk
        unfold nrB nearB pxA at h
        unfold nrB nearB bxA
        dsimp only at h ⊢
        rw [Y0, Y1] at h
        have := sq_le (gap_0 _ _ c.1 c.2.2.1) (gap_mono (u0 := c.1) (u1 := c.2.2.1) l0 l1)
        omega
      · intro h
        obtain ⟨k, k1, k2, k3⟩ := exLst (S := fun k => nk a ≤ k ∨ c.1 ≤ ct a k) (nk a) (Or.inl (Nat.le_refl _))
        refine ⟨k, k1, ?_⟩
        obtain ⟨l0, l1⟩ := le0 k k1
        have g : gap (px0 a k 0) (px1 a k 0) c.1 c.2.2.1 = gap (bx0 a 0) (bx1 a 0) c.1 c.2.2.1 := by
          refine gap_cut l0 l1 (px_le hw k1 (by unfold nb; rw [if_pos h0]; decide)).1 hc.1 ?_ ?_
          · rw [X0]
            by_cases q : 0 < k
            · rw [if_pos q]
              have := k3 (k - 1) (by omega)
              exact Or.inr (by omega)
            · rw [if_neg q]; exact Or.inl rfl
          · rw [X1]
            by_cases q : k < nk a
            · rw [if_pos q]; exact Or.inr (by omega)
            · rw [if_neg q]; exact Or.inl rfl
        unfold nrB nearB bxA at h
        unfold nrB nearB pxA
        dsimp only at h ⊢
        rw [Y0, Y1, g]
        exact h
    · have ax := fun k hk => (cin k hk).2 e1
      have X0 : ∀ k, py0 a k 0 = if 0 < k then ct a (k - 1) else by0 a 0 := fun k => by
        unfold py0
        by_cases q : 0 < k
        · rw [if_pos ⟨h0, e1, q⟩, if_pos q]
        · rw [if_neg (fun z => q z.2.2), if_neg q]
      have X1 : ∀ k, py1 a k 0 = if k < nk a then ct a k else by1 a 0 := fun k => by
        unfold py1
        by_cases q : k < nk a
        · rw [if_pos ⟨h0, e1, q⟩, if_pos q]
        · rw [if_neg (fun z => q z.2.2), if_neg q]
      have Y0 : ∀ k, px0 a k 0 = bx0 a 0 := fun k => if_neg (fun z => e1 z.2.1)
      have Y1 : ∀ k, px1 a k 0 = bx1 a 0 := fun k => if_neg (fun z => e1 z.2.1)
      have le0 : ∀ k, k ≤ nk a → by0 a 0 ≤ py0 a k 0 ∧ py1 a k 0 ≤ by1 a 0 := fun k hk => by
        rw [X0, X1]
        refine ⟨?_, ?_⟩
        · by_cases q : 0 < k
          · rw [if_pos q]; have := ax (k - 1) (by omega); omega
          · rw [if_neg q]; omega
        · by_cases q : k < nk a
          · rw [if_pos q]; have := ax k q; omega
          · rw [if_neg q]; omega
      constructor
      · rintro ⟨k, hk, h⟩
        obtain ⟨l0, l1⟩ := le0 k hk
        unfold nrB nearB pxA at h
        unfold nrB nearB bxA
        dsimp only at h ⊢
        rw [Y0, Y1] at h
        have := sq_le (gap_0 _ _ c.2.1 c.2.2.2) (gap_mono (u0 := c.2.1) (u1 := c.2.2.2) l0 l1)
        omega
      · intro h
        obtain ⟨k, k1, k2, k3⟩ := exLst (S := fun k => nk a ≤ k ∨ c.2.1 ≤ ct a k) (nk a) (Or.inl (Nat.le_refl _))
        refine ⟨k, k1, ?_⟩
        obtain ⟨l0, l1⟩ := le0 k k1
        have g : gap (py0 a k 0) (py1 a k 0) c.2.1 c.2.2.2 = gap (by0 a 0) (by1 a 0) c.2.1 c.2.2.2 := by
          refine gap_cut l0 l1 (px_le hw k1 (by unfold nb; rw [if_pos h0]; decide)).2 hc.2 ?_ ?_
          · rw [X0]
            by_cases q : 0 < k
            · rw [if_pos q]
              have := k3 (k - 1) (by omega)
              exact Or.inr (by omega)
            · rw [if_neg q]; exact Or.inl rfl
          · rw [X1]
            by_cases q : k < nk a
            · rw [if_pos q]; exact Or.inr (by omega)
            · rw [if_neg q]; exact Or.inl rfl
        unfold nrB nearB bxA at h
        unfold nrB nearB pxA
        dsimp only at h ⊢
        rw [Y0, Y1, g]
        exact h
  · have e : ∀ k, pxA a k i = bxA a i := fun k => by
      unfold pxA bxA px0 px1 py0 py1
      rw [if_neg (fun z => h0 z.1), if_neg (fun z => h0 z.1), if_neg (fun z => h0 z.1), if_neg (fun z => h0 z.1)]
    exact ⟨fun ⟨k, _, h⟩ => (e k) ▸ h, fun h => ⟨0, Nat.zero_le _, (e 0).symm ▸ h⟩⟩
theorem bxA_le (a : SH) (i : Nat) : (bxA a i).1 ≤ (bxA a i).2.2.1 ∧ (bxA a i).2.1 ≤ (bxA a i).2.2.2 := by
  show bx0 a i ≤ bx1 a i ∧ by0 a i ≤ by1 a i
  unfold bx0 bx1 by0 by1
  omega
theorem nb_half {a : SH} (hw : wfS a) : nb a = nc a / 2 := by
  unfold nb
  by_cases e : 0 < nk a
  · rw [if_pos e, hw.2.2.1 e]
  · rw [if_neg e]
theorem nearS_W {d : Int} {a b : SH} (ha : wfS a) (hb : wfS b) : nearS d a b ↔ nearW d a b := by
  constructor
  · rintro ⟨k, l, hk, hl, i, j, hi, hj, h⟩
    have h1 : nrB d (bxA a i) (pxA b l j) := (near_cut ha hi (px_le hb hl hj)).mp ⟨k, hk, h⟩
    have h2 : nrB d (bxA b j) (bxA a i) := (near_cut hb hj (bxA_le _ _)).mp ⟨l, hl, nrB_symm h1⟩
    exact ⟨i, j, by rw [← nb_half ha]; exact hi, by rw [← nb_half hb]; exact hj, nrB_symm h2⟩
  · rintro ⟨i, j, hi, hj, h⟩
    rw [← nb_half ha] at hi
    rw [← nb_half hb] at hj
    obtain ⟨l, hl, h2⟩ := (near_cut (d := d) hb hj (c := bxA a i) (bxA_le _ _)).mpr (nrB_symm h)
    obtain ⟨k, hk, h3⟩ := (near_cut (d := d) ha hi (c := pxA b l j) (px_le hb hl hj)).mpr (nrB_symm h2)
    exact ⟨k, l, hk, hl, i, j, hi, hj, h3⟩
theorem rowC_congr {P Q : Nat → Nat → Prop} {i : Nat} : ∀ n, (∀ j, j < n → (P i j ↔ Q i j)) → rowC P i n = rowC Q i n
  | 0, _ => rfl
  | n + 1, h => by
    unfold rowC
    rw [rowC_congr n (fun j hj => h j (by omega)), propext (h n (by omega))]
theorem totC_congr {P Q : Nat → Nat → Prop} {n : Nat} (h : ∀ i j, i < n → j < n → (P i j ↔ Q i j)) : ∀ m, m ≤ n → totC P n m = totC Q n m
  | 0, _ => rfl
  | m + 1, hm => by
    unfold totC
    rw [totC_congr h m (by omega), rowC_congr n (fun j hj => h m j (by omega) hj)]
theorem nPr_nW {d : Int} {ss : List SH} (hw : wfSS ss) {i j : Nat} (hi : i < ss.length) (hj : j < ss.length) : nPr d ss i j ↔ nW d ss i j := nearS_W (hw.2.2 i hi) (hw.2.2 j hj)
theorem tot_eq {d : Int} {ss : List SH} (hw : wfSS ss) : totC (nPr d ss) ss.length ss.length = totC (nW d ss) ss.length ss.length := totC_congr (fun i j hi hj => nPr_nW hw hi hj) _ (Nat.le_refl _)
theorem kth_eq {d : Int} {ss : List SH} (hw : wfSS ss) {K i j : Nat} : kth (nPr d ss) ss.length K i j ↔ kth (nW d ss) ss.length K i j := by
  unfold kth
  refine and_congr_right (fun h1 => and_congr_right (fun h2 => and_congr ?_ ?_))
  · exact nPr_nW hw (by omega) h2
  · rw [totC_congr (fun i j hi hj => nPr_nW hw hi hj) i (by omega), rowC_congr j (fun k hk => nPr_nW hw (by omega) (by omega))]
