/-! sets of bits -/
theorem nI_or (a b : Nat) : nI a ||| nI b = nI (a ||| b) := congrArg (fun z => (⟨⟨z⟩⟩ : Int32)) (BitVec.ofNat_or (w := 32) (x := a) (y := b)).symm
theorem nI_and (a b : Nat) : nI a &&& nI b = nI (a &&& b) := congrArg (fun z => (⟨⟨z⟩⟩ : Int32)) (BitVec.ofNat_and (w := 32) (x := a) (y := b)).symm
theorem sh1 : ∀ k, k < 12 → nI 1 <<< (nI k &&& 31) = nI (2 ^ k) := by decide +kernel
theorem by64 {P : Nat → Prop} (h : ∀ a, a < 64 → ∀ b, b < 64 → P (64 * a + b)) : ∀ n, n < 4096 → P n := fun n hn => by
  have := h (n / 64) (by omega) (n % 64) (by omega)
  rw [show 64 * (n / 64) + n % 64 = n by omega] at this
  exact this
theorem shr1 : ∀ n, n < 4096 → ∀ k, k < 12 → (nI n >>> (nI k &&& 31)) &&& nI 1 = if n.testBit k then 1 else 0 := by64 (by decide +kernel)
noncomputable def bm (S : Nat → Prop) : Nat → Nat
  | 0 => 0
  | n + 1 => bm S n + bN (S n) * 2 ^ n
theorem bm_lt (S : Nat → Prop) : ∀ n, bm S n < 2 ^ n
  | 0 => Nat.zero_lt_one
  | n + 1 => by
    have h1 := bm_lt S n
    have h2 := bN_le (S n)
    have h3 : bN (S n) * 2 ^ n ≤ 2 ^ n := by
      rcases Nat.le_one_iff_eq_zero_or_eq_one.mp h2 with e | e <;> rw [e] <;> omega
    show bm S n + _ < 2 ^ (n + 1)
    rw [Nat.pow_succ]
    omega
theorem bm_bit (S : Nat → Prop) : ∀ n i, (bm S n).testBit i = true ↔ i < n ∧ S i
  | 0, i => by
    show (0 : Nat).testBit i = true ↔ _
    rw [Nat.zero_testBit]
    exact ⟨fun z => (by cases z), fun z => absurd z.1 (Nat.not_lt_zero _)⟩
  | n + 1, i => by
    have h1 := bm_lt S n
    show (bm S n + bN (S n) * 2 ^ n).testBit i = true ↔ _
    by_cases e : S n
    · rw [bN_t e, Nat.one_mul, Nat.add_comm]
      by_cases e2 : i = n
      · subst e2
        rw [Nat.testBit_two_pow_add_eq, Nat.testBit_lt_two_pow h1]
        exact ⟨fun _ => ⟨by omega, e⟩, fun _ => rfl⟩
      · by_cases e3 : i < n
        · rw [Nat.testBit_two_pow_add_gt e3, bm_bit S n i]
          exact ⟨fun z => ⟨by omega, z.2⟩, fun z => ⟨e3, z.2⟩⟩
        · have : 2 ^ n + bm S n < 2 ^ i := by
            have : 2 ^ (n + 1) ≤ 2 ^ i := Nat.pow_le_pow_right (by decide) (by omega)
            rw [Nat.pow_succ] at this
            omega
          rw [Nat.testBit_lt_two_pow this]
          exact ⟨fun z => (by cases z), fun z => by omega⟩
    · rw [bN_f e, Nat.zero_mul, Nat.add_zero, bm_bit S n i]
      exact ⟨fun z => ⟨by omega, z.2⟩, fun z => ⟨by
        by_cases e2 : i = n
        · exact absurd (e2 ▸ z.2) e
        · omega, z.2⟩⟩
noncomputable def bS (S : Nat → Prop) : Int32 := nI (bm S 12)
theorem bm_eq {S : Nat → Prop} {x : Nat} (hx : x < 4096) (h : ∀ i, i < 12 → (x.testBit i = true ↔ S i)) : x = bm S 12 := by
  refine Nat.eq_of_testBit_eq (fun i => ?_)
  rw [Bool.eq_iff_iff, bm_bit]
  by_cases e : i < 12
  · rw [h i e]; exact ⟨fun z => ⟨e, z⟩, fun z => z.2⟩
  · have : x < 2 ^ i := Nat.lt_of_lt_of_le hx (Nat.pow_le_pow_right (show 0 < 2 by decide) (show 12 ≤ i by omega))
    rw [Nat.testBit_lt_two_pow this]
    exact ⟨fun z => (by cases z), fun z => absurd z.1 e⟩
theorem bS_congr {S T : Nat → Prop} (h : ∀ i, i < 12 → (S i ↔ T i)) : bS S = bS T := congrArg nI (bm_eq (bm_lt S 12) (fun i hi => by rw [bm_bit]; exact ⟨fun z => (h i hi).mp z.2, fun z => ⟨hi, (h i hi).mpr z⟩⟩))
theorem bS_or (S T : Nat → Prop) : bS S ||| bS T = bS (fun i => S i ∨ T i) := by
  unfold bS
  rw [nI_or]
  refine congrArg nI (bm_eq (Nat.or_lt_two_pow (bm_lt S 12) (bm_lt T 12)) (fun i hi => ?_))
  rw [Nat.testBit_or, Bool.or_eq_true, bm_bit, bm_bit]
  exact ⟨fun z => z.imp And.right And.right, fun z => z.imp (And.intro hi) (And.intro hi)⟩
theorem bS_and (S T : Nat → Prop) : bS S &&& bS T = bS (fun i => S i ∧ T i) := by
  unfold bS
  rw [nI_and]
  refine congrArg nI (bm_eq (Nat.lt_of_le_of_lt Nat.and_le_left (bm_lt S 12)) (fun i hi => ?_))
  rw [Nat.testBit_and, Bool.and_eq_true, bm_bit, bm_bit]
  exact ⟨fun z => ⟨z.1.2, z.2.2⟩, fun z => ⟨⟨hi, z.1⟩, ⟨hi, z.2⟩⟩⟩
theorem bS_0 : bS (fun _ => False) = 0 := congrArg nI (bm_eq (show 0 < 4096 by decide) (fun i hi => by rw [Nat.zero_testBit]; exact ⟨fun z => (by cases z), fun z => z.elim⟩)).symm
theorem bS_1 {k : Nat} (hk : k < 12) : nI 1 <<< (nI k &&& 31) = bS (fun i => i = k) := by
  rw [sh1 k hk]
  refine congrArg nI (bm_eq (Nat.lt_of_lt_of_le (Nat.pow_lt_pow_right (by decide) hk) (by decide)) (fun i hi => ?_))
  rw [Nat.testBit_two_pow, decide_eq_true_iff]
  exact eq_comm
theorem bS_add (S : Nat → Prop) {k : Nat} (hk : k < 12) : bS S ||| (nI 1 <<< (nI k &&& 31)) = bS (fun i => S i ∨ i = k) := by rw [bS_1 hk, bS_or]
theorem bS_has (S : Nat → Prop) {k : Nat} (hk : k < 12) : (bS S >>> (nI k &&& 31)) &&& nI 1 = bI (S k) := by
  unfold bS
  rw [shr1 _ (bm_lt S 12) k hk]
  by_cases e : S k
  · rw [if_pos ((bm_bit S 12 k).mpr ⟨hk, e⟩), bI_t e]
  · rw [if_neg (fun z => e ((bm_bit S 12 k).mp z).2), bI_f e]
theorem bS_z {S : Nat → Prop} : bS S = 0 ↔ ∀ i, i < 12 → ¬ S i := by
  refine ⟨fun h i hi hs => ?_, fun h => (bS_congr (T := fun _ => False) (fun i hi => ⟨fun z => h i hi z, fun z => z.elim⟩)).trans bS_0⟩
  have h1 : bm S 12 = 0 := (nI_eq (Nat.lt_of_lt_of_le (bm_lt S 12) (by decide)) (show 0 < 2 ^ 31 by decide)).mp h
  have h2 := (bm_bit S 12 i).mpr ⟨hi, hs⟩
  rw [h1, Nat.zero_testBit] at h2
  cases h2
theorem bS_meet {S T : Nat → Prop} : bS S &&& bS T = 0 ↔ ∀ i, i < 12 → ¬ (S i ∧ T i) := by rw [bS_and]; exact bS_z
/-- how many -/
noncomputable def cnt (S : Nat → Prop) : Nat → Nat
  | 0 => 0
  | n + 1 => cnt S n + bN (S n)
def popN (x : Nat) : Nat → Nat
  | 0 => 0
  | n + 1 => popN x n + (if x.testBit n then 1 else 0)
theorem popN_cnt (S : Nat → Prop) : ∀ n, n ≤ 12 → popN (bm S 12) n = cnt S n
  | 0, _ => rfl
  | n + 1, h => by
    show popN _ n + _ = cnt S n + _
    rw [popN_cnt S n (by omega)]
    by_cases e : S n
    · rw [if_pos ((bm_bit S 12 n).mpr ⟨by omega, e⟩), bN_t e]
    · rw [if_neg (fun z => e ((bm_bit S 12 n).mp z).2), bN_f e]
def us (x : Int32) (k : Int32) : Int32 := (x.toUInt32 >>> (k.toUInt32 &&& Int32.toUInt32 31)).toInt32
def bc1 (x : Int32) : Int32 := x - (us x 1 &&& 1431655765)
def bc2 (x : Int32) : Int32 := (x &&& 858993459) + (us x 2 &&& 858993459)
def bc3 (x : Int32) : Int32 := (x + us x 4) &&& 252645135
def bc4 (x : Int32) : Int32 := x + us x 8
def bc5 (x : Int32) : Int32 := x + us x 16
theorem bc_ok : ∀ n, n < 4096 → bc5 (bc4 (bc3 (bc2 (bc1 (nI n))))) &&& 63 = nI (popN n 12) := by64 (by decide +kernel)
theorem ntz_ok : ∀ n, n < 4096 → n = 0 ∨ (∃ i, i < 12 ∧ (nI n ^^^ (-1)) &&& (nI n - 1) = nI (2 ^ i - 1) ∧ n.testBit i = true ∧ ∀ j, j < i → n.testBit j = false) := by64 (by decide +kernel)
section C0
variable {l : Launch} {B E0 : Nat} {D : va_G} {h : HM}
theorem c_bitCount (v : Nat) (S : Nat → Prop) : CM l B E0 D yJ6_bitCount_0f7a4 wsJ6_bitCount_0f7a4 (v + 1) 0 0 [.int (bS S)] h (fun r h1 => r = some (.int (nI (cnt S 12))) ∧ h1 = h) := by
  refine CM.of (cc := cJ6_bitCount_0f7a4) (maxL := 1) (ret := (some .int)) (by decide) rfl (Nat.le_of_ble_eq_true rfl) (fun X E hin => ?_)
  show J X B D 1 _ h 0 0 0 [(0, .int (bS S))] []
  refine j_iload_n E dJ6_bitCount_0f7a4_0 rfl ?_
  refine j_iload_n E dJ6_bitCount_0f7a4_1 rfl ?_
  refine j_iconst (x := 1) E dJ6_bitCount_0f7a4_2 (by decide) ?_
  refine j_iushr E dJ6_bitCount_0f7a4_3 rfl ?_
  refine j_ldcw E (x := 1431655765) dJ6_bitCount_0f7a4_4 (by decide +kernel) ?_
  refine j_iand E dJ6_bitCount_0f7a4_7 ?_
  refine j_isub E dJ6_bitCount_0f7a4_8 ?_
  refine j_istore_n E dJ6_bitCount_0f7a4_9 (by decide) ?_
  refine J.sub [(0, .int (bc1 (bS S)))] ⟨rfl, trivial⟩ ?_
  generalize hx1 : bc1 (bS S) = x1
  refine j_iload_n E dJ6_bitCount_0f7a4_10 rfl ?_
  refine j_ldcw E (x := 858993459) dJ6_bitCount_0f7a4_11 (by decide +kernel) ?_
  refine j_iand E dJ6_bitCount_0f7a4_14 ?_
  refine j_iload_n E dJ6_bitCount_0f7a4_15 rfl ?_
  refine j_iconst (x := 2) E dJ6_bitCount_0f7a4_16 (by decide) ?_
  refine j_iushr E dJ6_bitCount_0f7a4_17 rfl ?_
  refine j_ldcw E (x := 858993459) dJ6_bitCount_0f7a4_18 (by decide +kernel) ?_
  refine j_iand E dJ6_bitCount_0f7a4_21 ?_
  refine j_iadd E dJ6_bitCount_0f7a4_22 ?_
  refine j_istore_n E dJ6_bitCount_0f7a4_23 (by decide) ?_
  refine J.sub [(0, .int (bc2 x1))] ⟨rfl, trivial⟩ ?_
  generalize hx2 : bc2 x1 = x2
  refine j_iload_n E dJ6_bitCount_0f7a4_24 rfl ?_
  refine j_iload_n E dJ6_bitCount_0f7a4_25 rfl ?_
  refine j_iconst (x := 4) E dJ6_bitCount_0f7a4_26 (by decide) ?_
  refine j_iushr E dJ6_bitCount_0f7a4_27 rfl ?_
  refine j_iadd E dJ6_bitCount_0f7a4_28 ?_
  refine j_ldcw E (x := 252645135) dJ6_bitCount_0f7a4_29 (by decide +kernel) ?_
  refine j_iand E dJ6_bitCount_0f7a4_32 ?_
  refine j_istore_n E dJ6_bitCount_0f7a4_33 (by decide) ?_
  refine J.sub [(0, .int (bc3 x2))] ⟨rfl, trivial⟩ ?_
  generalize hx3 : bc3 x2 = x3
  refine j_iload_n E dJ6_bitCount_0f7a4_34 rfl ?_
  refine j_iload_n E dJ6_bitCount_0f7a4_35 rfl ?_
  refine j_bipush (x := 8) E dJ6_bitCount_0f7a4_36 (by decide) ?_
  refine j_iushr E dJ6_bitCount_0f7a4_38 rfl ?_
  refine j_iadd E dJ6_bitCount_0f7a4_39 ?_
  refine j_istore_n E dJ6_bitCount_0f7a4_40 (by decide) ?_
  refine J.sub [(0, .int (bc4 x3))] ⟨rfl, trivial⟩ ?_
  generalize hx4 : bc4 x3 = x4
  refine j_iload_n E dJ6_bitCount_0f7a4_41 rfl ?_
  refine j_iload_n E dJ6_bitCount_0f7a4_42 rfl ?_
  refine j_bipush (x := 16) E dJ6_bitCount_0f7a4_43 (by decide) ?_
  refine j_iushr E dJ6_bitCount_0f7a4_45 rfl ?_
  refine j_iadd E dJ6_bitCount_0f7a4_46 ?_
  refine j_istore_n E dJ6_bitCount_0f7a4_47 (by decide) ?_
  refine J.sub [(0, .int (bc5 x4))] ⟨rfl, trivial⟩ ?_
  refine j_iload_n E dJ6_bitCount_0f7a4_48 rfl ?_
  refine j_bipush (x := 63) E dJ6_bitCount_0f7a4_49 (by decide) ?_
  refine j_iand E dJ6_bitCount_0f7a4_51 ?_
  refine J.topi (x' := nI (cnt S 12)) ?_ ?_
  · rw [← hx4, ← hx3, ← hx2, ← hx1, ← popN_cnt S 12 (Nat.le_refl _)]
    exact bc_ok _ (bm_lt S 12)
  ·
    exact j_iret E dJ6_bitCount_0f7a4_52 rfl rfl (by omega) (by omega) ⟨rfl, rfl⟩
end C0
