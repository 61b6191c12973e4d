/-! the reference's object at m, its arrays at a 3, a 4 .. -/
def mI : List (Nat × Nat) := [(5, 10), (6, 10), (8, 10), (11, 12), (12, 12), (16, 13), (20, 12), (21, 12), (23, 13), (24, 12)]
def mJ : List (Nat × Nat) := [(3, 80), (4, 80), (7, 30), (14, 4), (15, 4), (22, 12)]
def mZ : List (Nat × Nat) := [(9, 10), (13, 144)]
def mK : List Nat := [3, 4, 5, 6, 7, 8, 9, 11, 12, 13, 14, 15, 16, 20, 21, 22, 23, 24]
def mS : List Nat := [0, 2, 10, 17, 18, 19, 25, 26]
def mfs (a : Nat → Nat) (d : Int64) (s : Nat → Int32) : List Value := [.int (s 0), .long d, .int (s 2), .ref (a 3), .ref (a 4), .ref (a 5), .ref (a 6), .ref (a 7), .ref (a 8), .ref (a 9), .int (s 10), .ref (a 11), .ref (a 12), .ref (a 13), .ref (a 14), .ref (a 15), .ref (a 16), .int (s 17), .int (s 18), .int (s 19), .ref (a 20), .ref (a 21), .ref (a 22), .ref (a 23), .ref (a 24), .int (s 25), .int (s 26)]
def uA {α : Type} (f : Nat → α) (k : Nat) (x : α) : Nat → α := fun j => if j = k then x else f j
theorem uA_eq {α : Type} (f : Nat → α) (k : Nat) (x : α) : uA f k x k = x := if_pos rfl
theorem uA_ne {α : Type} (f : Nat → α) {k j : Nat} (x : α) (h : j ≠ k) : uA f k x j = f j := if_neg h
def MR (h0 h : HM) (m : Nat) (a : Nat → Nat) (d : Int64) (s : Nat → Int32) (I : Nat → Nat → Int32) (G : Nat → Nat → Int64) : Prop :=
  h m = some (hO 8 (mfs a d s)) ∧ (∀ p ∈ mI, h (a p.1) = some (hI p.2 (I p.1))) ∧ (∀ p ∈ mJ, h (a p.1) = some (hJ p.2 (G p.1))) ∧ (∀ p ∈ mZ, h (a p.1) = some (hZ p.2 (I p.1))) ∧ (∀ k, k ∈ mK → a k ≠ m) ∧ (∀ j k, j ∈ mK → k ∈ mK → j ≠ k → a j ≠ a k) ∧ ∀ q, q ≠ m → (∀ k, k ∈ mK → q ≠ a k) → h q = h0 q
section MM
variable {h0 h : HM} {m : Nat} {a : Nat → Nat} {d : Int64} {s : Nat → Int32} {I : Nat → Nat → Int32} {G : Nat → Nat → Int64}
theorem MR.obj (M : MR h0 h m a d s I G) : h m = some (hO 8 (mfs a d s)) := M.1
theorem MR.gI (M : MR h0 h m a d s I G) (k n : Nat) (hk : (k, n) ∈ mI) : h (a k) = some (hI n (I k)) := M.2.1 _ hk
theorem MR.gJ (M : MR h0 h m a d s I G) (k n : Nat) (hk : (k, n) ∈ mJ) : h (a k) = some (hJ n (G k)) := M.2.2.1 _ hk
theorem MR.gZ (M : MR h0 h m a d s I G) (k n : Nat) (hk : (k, n) ∈ mZ) : h (a k) = some (hZ n (I k)) := M.2.2.2.1 _ hk
theorem MR.lo (M : MR h0 h m a d s I G) {k : Nat} (hk : k ∈ mK) : a k ≠ m := M.2.2.2.2.1 k hk
theorem MR.inj (M : MR h0 h m a d s I G) {j k : Nat} (hj : j ∈ mK) (hk : k ∈ mK) (hn : j ≠ k) : a j ≠ a k := M.2.2.2.2.2.1 j k hj hk hn
theorem MR.fr (M : MR h0 h m a d s I G) : ∀ q, q ≠ m → (∀ k, k ∈ mK → q ≠ a k) → h q = h0 q := M.2.2.2.2.2.2
theorem mI_lt {p : Nat × Nat} (h : p ∈ mI) : p.1 ∈ mK := (by decide : ∀ p ∈ mI, p.1 ∈ mK) p h
theorem mJ_lt {p : Nat × Nat} (h : p ∈ mJ) : p.1 ∈ mK := (by decide : ∀ p ∈ mJ, p.1 ∈ mK) p h
theorem mZ_lt {p : Nat × Nat} (h : p ∈ mZ) : p.1 ∈ mK := (by decide : ∀ p ∈ mZ, p.1 ∈ mK) p h
theorem mIJ {p q : Nat × Nat} (h1 : p ∈ mI) (h2 : q ∈ mJ) : p.1 ≠ q.1 := (by decide : ∀ p ∈ mI, ∀ q ∈ mJ, p.1 ≠ q.1) p h1 q h2
theorem mIZ {p q : Nat × Nat} (h1 : p ∈ mI) (h2 : q ∈ mZ) : p.1 ≠ q.1 := (by decide : ∀ p ∈ mI, ∀ q ∈ mZ, p.1 ≠ q.1) p h1 q h2
theorem mJZ {p q : Nat × Nat} (h1 : p ∈ mJ) (h2 : q ∈ mZ) : p.1 ≠ q.1 := (by decide : ∀ p ∈ mJ, ∀ q ∈ mZ, p.1 ≠ q.1) p h1 q h2
theorem mII {p q : Nat × Nat} (h1 : p ∈ mI) (h2 : q ∈ mI) (e : p.1 = q.1) : p = q := (by decide : ∀ p ∈ mI, ∀ q ∈ mI, p.1 = q.1 → p = q) p h1 q h2 e
theorem mJJ {p q : Nat × Nat} (h1 : p ∈ mJ) (h2 : q ∈ mJ) (e : p.1 = q.1) : p = q := (by decide : ∀ p ∈ mJ, ∀ q ∈ mJ, p.1 = q.1 → p = q) p h1 q h2 e
theorem mZZ {p q : Nat × Nat} (h1 : p ∈ mZ) (h2 : q ∈ mZ) (e : p.1 = q.1) : p = q := (by decide : ∀ p ∈ mZ, ∀ q ∈ mZ, p.1 = q.1 → p = q) p h1 q h2 e
theorem MR.pI (M : MR h0 h m a d s I G) (k n : Nat) (f : Nat → Int32) (hk : (k, n) ∈ mI) : MR h0 (hput h (a k) (hI n f)) m a d s (uA I k f) G := by
  have hl := mI_lt hk
  refine ⟨(hput_ne _ (M.lo hl).symm).trans M.obj, fun p hp => ?_, fun p hp => ?_, fun p hp => ?_, M.2.2.2.2.1, M.2.2.2.2.2.1, fun q hq hq2 => (hput_ne _ (hq2 k hl)).trans (M.fr q hq hq2)⟩
  · by_cases e : p.1 = k
    · have := mII hp hk e
      subst this
      rw [hput_eq, uA_eq]
    · rw [hput_ne _ (M.inj (mI_lt hp) hl e), uA_ne _ _ e]; exact M.2.1 p hp
  · rw [hput_ne _ (M.inj (mJ_lt hp) hl (mIJ hk hp).symm)]; exact M.2.2.1 p hp
  · rw [hput_ne _ (M.inj (mZ_lt hp) hl (mIZ hk hp).symm), uA_ne _ _ (mIZ hk hp).symm]; exact M.2.2.2.1 p hp
theorem MR.pZ (M : MR h0 h m a d s I G) (k n : Nat) (f : Nat → Int32) (hk : (k, n) ∈ mZ) : MR h0 (hput h (a k) (hZ n f)) m a d s (uA I k f) G := by
  have hl := mZ_lt hk
  refine ⟨(hput_ne _ (M.lo hl).symm).trans M.obj, fun p hp => ?_, fun p hp => ?_, fun p hp => ?_, M.2.2.2.2.1, M.2.2.2.2.2.1, fun q hq hq2 => (hput_ne _ (hq2 k hl)).trans (M.fr q hq hq2)⟩
  · rw [hput_ne _ (M.inj (mI_lt hp) hl (mIZ hp hk)), uA_ne _ _ (mIZ hp hk)]; exact M.2.1 p hp
  · rw [hput_ne _ (M.inj (mJ_lt hp) hl (mJZ hp hk))]; exact M.2.2.1 p hp
  · by_cases e : p.1 = k
    · have := mZZ hp hk e
      subst this
      rw [hput_eq, uA_eq]
    · rw [hput_ne _ (M.inj (mZ_lt hp) hl e), uA_ne _ _ e]; exact M.2.2.2.1 p hp
theorem MR.pJ (M : MR h0 h m a d s I G) (k n : Nat) (f : Nat → Int64) (hk : (k, n) ∈ mJ) : MR h0 (hput h (a k) (hJ n f)) m a d s I (uA G k f) := by
  have hl := mJ_lt hk
  refine ⟨(hput_ne _ (M.lo hl).symm).trans M.obj, fun p hp => ?_, fun p hp => ?_, fun p hp => ?_, M.2.2.2.2.1, M.2.2.2.2.2.1, fun q hq hq2 => (hput_ne _ (hq2 k hl)).trans (M.fr q hq hq2)⟩
  · rw [hput_ne _ (M.inj (mI_lt hp) hl (mIJ hp hk))]; exact M.2.1 p hp
  · by_cases e : p.1 = k
    · have := mJJ hp hk e
      subst this
      rw [hput_eq, uA_eq]
    · rw [hput_ne _ (M.inj (mJ_lt hp) hl e), uA_ne _ _ e]; exact M.2.2.1 p hp
  · rw [hput_ne _ (M.inj (mZ_lt hp) hl (mJZ hk hp).symm)]; exact M.2.2.2.1 p hp
theorem mfs_set {a : Nat → Nat} {d : Int64} {s : Nat → Int32} (k : Nat) (x : Int32) (hk : k ∈ mS) : (mfs a d s).set k (.int x) = mfs a d (uA s k x) := by
  simp only [mS, List.mem_cons, List.not_mem_nil, or_false] at hk
  rcases hk with rfl | rfl | rfl | rfl | rfl | rfl | rfl | rfl <;> rfl
theorem MR.pS (M : MR h0 h m a d s I G) (k : Nat) (x : Int32) (hk : k ∈ mS) {fs : List Value} (hf : fs = (mfs a d s).set k (.int x)) : MR h0 (hput h m (hO 8 fs)) m a d (uA s k x) I G := by
  subst hf
  have hne : ∀ k, k ∈ mK → a k ≠ m := fun k hl => M.lo hl
  refine ⟨by rw [hput_eq, mfs_set k x hk], fun p hp => ?_, fun p hp => ?_, fun p hp => ?_, M.2.2.2.2.1, M.2.2.2.2.2.1, fun q hq hq2 => (hput_ne _ (hq)).trans (M.fr q hq hq2)⟩
  · rw [hput_ne _ (hne _ (mI_lt hp))]; exact M.2.1 p hp
  · rw [hput_ne _ (hne _ (mJ_lt hp))]; exact M.2.2.1 p hp
  · rw [hput_ne _ (hne _ (mZ_lt hp))]; exact M.2.2.2.1 p hp
/-- seen from another start -/
theorem MR.reb {h9 : HM} (M : MR h0 h m a d s I G) (hf : ∀ q, q ≠ m → (∀ k, k ∈ mK → q ≠ a k) → h0 q = h9 q) : MR h9 h m a d s I G := ⟨M.1, M.2.1, M.2.2.1, M.2.2.2.1, M.2.2.2.2.1, M.2.2.2.2.2.1, fun q hq hq2 => (M.fr q hq hq2).trans (hf q hq hq2)⟩
theorem MR.self (M : MR h0 h m a d s I G) : MR h h m a d s I G := ⟨M.1, M.2.1, M.2.2.1, M.2.2.2.1, M.2.2.2.2.1, M.2.2.2.2.2.1, fun _ _ _ => rfl⟩
end MM
theorem MR.gen {X : JC} {B : Nat} {D : va_G} {nL : Nat} {Q : State → Prop} {h0 h : HM} {k n pc : Nat} {L : List (Nat × Value)} {st : List Value} {m : Nat} {a : Nat → Nat} {d : Int64} {s : Nat → Int32} {I : Nat → Nat → Int32} {G : Nat → Nat → Int64} (M : MR h0 h m a d s I G) (kk : ∀ h : HM, MR h0 h m a d s I G → J X B D nL Q h k n pc L st) : J X B D nL Q h k n pc L st := kk h M
/-- what the arrays hold of the shapes -/
def MA (ss : List SH) (s : Nat → Int32) (I : Nat → Nat → Int32) (G : Nat → Nat → Int64) : Prop := s 2 = nI ss.length ∧ ∀ j, j < ss.length → I 5 j = nI (nc (gS ss j)) ∧ I 8 j = nI (nk (gS ss j)) ∧ I 6 j = iZ (tl (gS ss j)) ∧ (0 < nk (gS ss j) → I 9 j = iZ (sd (gS ss j))) ∧ (∀ i, i < nc (gS ss j) → G 3 (8 * j + i) = lZ (cx (gS ss j) i) ∧ G 4 (8 * j + i) = lZ (cy (gS ss j) i)) ∧ (∀ k, k < nk (gS ss j) → G 7 (3 * j + k) = lZ (ct (gS ss j) k))
theorem MA.keep {ss : List SH} {s s1 : Nat → Int32} {I I1 : Nat → Nat → Int32} {G G1 : Nat → Nat → Int64} (A : MA ss s I G) (h1 : s1 2 = s 2) (h2 : I1 5 = I 5 ∧ I1 6 = I 6 ∧ I1 8 = I 8 ∧ I1 9 = I 9) (h3 : G1 3 = G 3 ∧ G1 4 = G 4 ∧ G1 7 = G 7) : MA ss s1 I1 G1 := by
  unfold MA
  rw [h1, h2.1, h2.2.1, h2.2.2.1, h2.2.2.2, h3.1, h3.2.1, h3.2.2]
  exact A
