/-! numbers; what a state is -/
theorem J.pure {X : JC} {B : Nat} {D : va_G} {nL : Nat} {Q : State → Prop} {h h1 : HM} {k n pc : Nat} {L : List (Nat × Value)} {st : List Value} {r v : Option Value} (p : r = v ∧ h1 = h) (kk : J X B D nL Q h k n pc L (v.toList ++ st)) : J X B D nL Q h1 k n pc L (r.toList ++ st) := by
  obtain ⟨rfl, rfl⟩ := p
  exact kk
def lZ (z : Int) : Int64 := Int64.ofInt z
def iZ (z : Int) : Int32 := Int32.ofInt z
theorem lZ_toInt {z : Int} (h1 : -9000000000000000000 ≤ z) (h2 : z ≤ 9000000000000000000) : (lZ z).toInt = z := Int64.toInt_ofInt_of_le (by omega) (by omega)
theorem iZ_toInt {z : Int} (h1 : -2147483648 ≤ z) (h2 : z < 2147483648) : (iZ z).toInt = z := Int32.toInt_ofInt_of_le (by omega) (by omega)
theorem lZ_add (a b : Int) : lZ a + lZ b = lZ (a + b) := (Int64.ofInt_add a b).symm
theorem lZ_sub (a b : Int) : lZ a - lZ b = lZ (a - b) := (Int64.ofInt_sub a b).symm
theorem lZ_mul (a b : Int) : lZ a * lZ b = lZ (a * b) := (Int64.ofInt_mul a b).symm
theorem lZ_of (x : Int64) : lZ x.toInt = x := Int64.ofInt_toInt x
theorem iZ_of (x : Int32) : iZ x.toInt = x := Int32.ofInt_toInt x
theorem nI_iZ (n : Nat) : nI n = iZ (n : Int) := rfl
def lOK (z : Int) : Prop := -9000000000000000000 ≤ z ∧ z ≤ 9000000000000000000
theorem lZ_lt {a b : Int} (ha : lOK a) (hb : lOK b) : lZ a < lZ b ↔ a < b := by
  rw [Int64.lt_iff_toInt_lt, lZ_toInt ha.1 ha.2, lZ_toInt hb.1 hb.2]
theorem lZ_le {a b : Int} (ha : lOK a) (hb : lOK b) : lZ a ≤ lZ b ↔ a ≤ b := by
  rw [Int64.le_iff_toInt_le, lZ_toInt ha.1 ha.2, lZ_toInt hb.1 hb.2]
theorem lZ_eq {a b : Int} (ha : lOK a) (hb : lOK b) : lZ a = lZ b ↔ a = b := by
  rw [← Int64.toInt_inj, lZ_toInt ha.1 ha.2, lZ_toInt hb.1 hb.2]
theorem iZ_eq {a b : Int} (ha : -2147483648 ≤ a ∧ a < 2147483648) (hb : -2147483648 ≤ b ∧ b < 2147483648) : iZ a = iZ b ↔ a = b := by
  rw [← Int32.toInt_inj, iZ_toInt ha.1 ha.2, iZ_toInt hb.1 hb.2]
theorem cmp_lt {x y : Int64} : lg_cmp x y < 0 ↔ x < y := by
  unfold lg_cmp
  by_cases h1 : y < x
  · rw [if_pos h1]; exact ⟨fun z => absurd z (by decide), fun z => (Int64.lt_irrefl (Int64.lt_trans z h1)).elim⟩
  · rw [if_neg h1]
    by_cases h2 : x = y
    · rw [if_pos h2]; exact ⟨fun z => absurd z (by decide), fun z => by rw [h2] at z; exact (Int64.lt_irrefl z).elim⟩
    · rw [if_neg h2]; exact ⟨fun _ => by rw [Int64.lt_iff_toInt_lt] at h1 ⊢; rw [← Int64.toInt_inj] at h2; omega, fun _ => by decide⟩
theorem cmp_gt {x y : Int64} : 0 < lg_cmp x y ↔ y < x := by
  unfold lg_cmp
  by_cases h1 : y < x
  · rw [if_pos h1]; exact ⟨fun _ => h1, fun _ => by decide⟩
  · rw [if_neg h1]
    by_cases h2 : x = y
    · rw [if_pos h2]; exact ⟨fun z => absurd z (by decide), fun z => absurd z h1⟩
    · rw [if_neg h2]; exact ⟨fun z => absurd z (by decide), fun z => absurd z h1⟩
theorem cmp_eq {x y : Int64} : lg_cmp x y = 0 ↔ x = y := by
  unfold lg_cmp
  by_cases h1 : y < x
  · rw [if_pos h1]; exact ⟨fun z => absurd z (by decide), fun z => by rw [z] at h1; exact (Int64.lt_irrefl h1).elim⟩
  · rw [if_neg h1]
    by_cases h2 : x = y
    · rw [if_pos h2]; exact ⟨fun _ => h2, fun _ => rfl⟩
    · rw [if_neg h2]; exact ⟨fun z => absurd z (by decide), fun z => absurd z h2⟩
theorem cmp_le {x y : Int64} : lg_cmp x y ≤ 0 ↔ x ≤ y := by
  rw [← Int32.not_lt, cmp_gt, Int64.not_lt]
theorem cmp_ge {x y : Int64} : 0 ≤ lg_cmp x y ↔ y ≤ x := by
  rw [← Int32.not_lt, cmp_lt, Int64.not_lt]
/-- a shape: corners, stitches' places, standing, colour told -/
abbrev SH : Type := List (Int × Int) × List Int × Int × Int
abbrev dS : SH := ([], [], 0, -1)
def gS (ss : List SH) (j : Nat) : SH := ss.getD j dS
def nc (a : SH) : Nat := a.1.length
def nk (a : SH) : Nat := a.2.1.length
def sd (a : SH) : Int := a.2.2.1
def tl (a : SH) : Int := a.2.2.2
def cx (a : SH) (i : Nat) : Int := (a.1.getD i (0, 0)).1
def cy (a : SH) (i : Nat) : Int := (a.1.getD i (0, 0)).2
def ct (a : SH) (k : Nat) : Int := a.2.1.getD k 0
def opn (a : SH) : Prop := nc a % 2 = 1 ∨ nc a = 0
def tS (ss : List SH) : Nat → Nat
  | 0 => 0
  | n + 1 => tS ss n + (nk (gS ss n) + 1)
def opS (ss : List SH) : Prop := ∃ j, j < ss.length ∧ opn (gS ss j)
/-- on its axis the box's lesser and greater border -/
def axl (a : SH) (st : Int) : Int := if st = 0 then min (cy a 0) (cy a 1) else min (cx a 0) (cx a 1)
def axh (a : SH) (st : Int) : Int := if st = 0 then max (cy a 0) (cy a 1) else max (cx a 0) (cx a 1)
def wfS (a : SH) : Prop := nc a ≤ 8 ∧ nk a ≤ 3 ∧ (0 < nk a → nc a = 2) ∧ (∀ i, i < nc a → -1000000 ≤ cx a i ∧ cx a i ≤ 1000000 ∧ -1000000 ≤ cy a i ∧ cy a i ≤ 1000000) ∧
  (∀ k, k < nk a → axl a (sd a) < ct a k ∧ ct a k < axh a (sd a)) ∧ (∀ j k, j < k → k < nk a → ct a j < ct a k) ∧ (sd a = 0 ∨ sd a = 1) ∧ -1 ≤ tl a ∧ tl a ≤ 3
def wfSS (ss : List SH) : Prop := ss.length ≤ 10 ∧ tS ss ss.length ≤ 12 ∧ ∀ j, j < ss.length → wfS (gS ss j)
theorem tS_mono (ss : List SH) {i j : Nat} (h : i ≤ j) : tS ss i ≤ tS ss j := by
  induction j with
  | zero => rw [show i = 0 by omega]; exact Nat.le_refl _
  | succ j ih =>
    by_cases e : i = j + 1
    · rw [e]; exact Nat.le_refl _
    · have := ih (by omega)
      show _ ≤ tS ss j + (nk (gS ss j) + 1)
      omega
theorem tS_ge (ss : List SH) (n : Nat) : n ≤ tS ss n := by
  induction n with
  | zero => exact Nat.zero_le _
  | succ n ih => show _ ≤ tS ss n + (nk (gS ss n) + 1); omega
theorem tS_bnd (ss : List SH) (hw : wfSS ss) {j : Nat} (hj : j ≤ ss.length) : tS ss j ≤ 12 := Nat.le_trans (tS_mono ss hj) hw.2.1
