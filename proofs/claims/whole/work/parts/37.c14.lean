/-! numberOfTrailingZeros of a set: its least -/
section C14
variable {l : Launch} {B E0 : Nat} {D : va_G} {h : HM}
theorem c_ntz (v : Nat) (S : Nat → Prop) {i : Nat} (hi : i < 12) (hs : S i) (hl : ∀ j, j < i → ¬ S j) : CM l B E0 D yJ6_numberOfTrailingZeros_0f7a4 wsJ6_numberOfTrailingZeros_0f7a4 (v + 1) 0 0 [.int (bS S)] h (fun r h1 => r = some (.int (nI i)) ∧ h1 = h) := by
  have key : (bS S ^^^ (-1)) &&& (bS S - 1) = nI (2 ^ i - 1) := by
    rcases ntz_ok _ (bm_lt S 12) with e | ⟨i2, h1, h2, h3, h4⟩
    · have := (bm_bit S 12 i).mpr ⟨hi, hs⟩
      rw [e, Nat.zero_testBit] at this
      cases this
    · have e : i = i2 := by
        have h5 := ((bm_bit S 12 i2).mp h3).2
        rcases Nat.lt_trichotomy i i2 with q | q | q
        · have := h4 i q
          rw [(bm_bit S 12 i).mpr ⟨hi, hs⟩] at this
          cases this
        · exact q
        · exact absurd h5 (hl i2 q)
      rw [e]; exact h2
  have cases_ : i = 0 ∨ i = 1 ∨ i = 2 ∨ i = 3 ∨ i = 4 ∨ i = 5 ∨ i = 6 ∨ i = 7 ∨ i = 8 ∨ i = 9 ∨ i = 10 ∨ i = 11 := by omega
  refine CM.of (cc := cJ6_numberOfTrailingZeros_0f7a4) (maxL := 2) (ret := (some .int)) (by decide) rfl (Nat.le_of_ble_eq_true rfl) (fun X E hin => ?_)
  show J X B D 2 _ h 0 0 0 [(0, .int (bS S))] []
  refine j_iload_n E dJ6_numberOfTrailingZeros_0f7a4_0 rfl ?_
  refine j_iconst (x := (-1)) E dJ6_numberOfTrailingZeros_0f7a4_1 (by decide) ?_
  refine j_ixor E dJ6_numberOfTrailingZeros_0f7a4_2 ?_
  refine j_iload_n E dJ6_numberOfTrailingZeros_0f7a4_3 rfl ?_
  refine j_iconst (x := 1) E dJ6_numberOfTrailingZeros_0f7a4_4 (by decide) ?_
  refine j_isub E dJ6_numberOfTrailingZeros_0f7a4_5 ?_
  refine j_iand E dJ6_numberOfTrailingZeros_0f7a4_6 ?_
  refine J.topi (x' := nI (2 ^ i - 1)) key ?_
  rcases cases_ with rfl | rfl | rfl | rfl | rfl | rfl | rfl | rfl | rfl | rfl | rfl | rfl
  · refine J.topi (x' := nI 0) (by decide) ?_
    refine j_istore_n E dJ6_numberOfTrailingZeros_0f7a4_7 (by decide) ?_
    refine j_iload_n E dJ6_numberOfTrailingZeros_0f7a4_8 rfl ?_
    refine j_if_gt E (tgt := 17) dJ6_numberOfTrailingZeros_0f7a4_9 (by decide) (fun c => ?_) (fun c => ?_)
    · exact absurd c (by decide)
    ·
      refine j_iload_n E dJ6_numberOfTrailingZeros_0f7a4_12 rfl ?_
      refine j_bipush (x := 32) E dJ6_numberOfTrailingZeros_0f7a4_13 (by decide) ?_
      refine j_iand E dJ6_numberOfTrailingZeros_0f7a4_15 ?_
      refine J.topi (x' := nI 0) (by decide) ?_
      exact j_iret E dJ6_numberOfTrailingZeros_0f7a4_16 rfl rfl (by omega) (by omega) ⟨rfl, rfl⟩
  · refine J.topi (x' := nI 1) (by decide) ?_
    refine j_istore_n E dJ6_numberOfTrailingZeros_0f7a4_7 (by decide) ?_
    refine j_iload_n E dJ6_numberOfTrailingZeros_0f7a4_8 rfl ?_
    refine j_if_gt E (tgt := 17) dJ6_numberOfTrailingZeros_0f7a4_9 (by decide) (fun c => ?_) (fun c => ?_)
    ·
      refine j_iconst (x := 1) E dJ6_numberOfTrailingZeros_0f7a4_17 (by decide) ?_
      refine j_istore_n E dJ6_numberOfTrailingZeros_0f7a4_18 (by decide) ?_
      refine j_iload_n E dJ6_numberOfTrailingZeros_0f7a4_19 rfl ?_
      refine j_ldcw E (x := 65536) dJ6_numberOfTrailingZeros_0f7a4_20 (by decide +kernel) ?_
      refine j_icmp_le E (tgt := 34) dJ6_numberOfTrailingZeros_0f7a4_23 (by decide) (fun c1 => ?_) (fun c1 => ?_)
      ·
        refine j_iload_n E dJ6_numberOfTrailingZeros_0f7a4_34 rfl ?_
        refine j_sipush (x := 256) E dJ6_numberOfTrailingZeros_0f7a4_35 (by decide) ?_
        refine j_icmp_le E (tgt := 49) dJ6_numberOfTrailingZeros_0f7a4_38 (by decide) (fun c2 => ?_) (fun c2 => ?_)
        ·
          refine j_iload_n E dJ6_numberOfTrailingZeros_0f7a4_49 rfl ?_
          refine j_bipush (x := 16) E dJ6_numberOfTrailingZeros_0f7a4_50 (by decide) ?_
          refine j_icmp_le E (tgt := 62) dJ6_numberOfTrailingZeros_0f7a4_52 (by decide) (fun c3 => ?_) (fun c3 => ?_)
          ·
            refine j_iload_n E dJ6_numberOfTrailingZeros_0f7a4_62 rfl ?_
            refine j_iconst (x := 4) E dJ6_numberOfTrailingZeros_0f7a4_63 (by decide) ?_
            refine j_icmp_le E (tgt := 74) dJ6_numberOfTrailingZeros_0f7a4_64 (by decide) (fun c4 => ?_) (fun c4 => ?_)
            ·
              refine j_iload_n E dJ6_numberOfTrailingZeros_0f7a4_74 rfl ?_
              refine j_iload_n E dJ6_numberOfTrailingZeros_0f7a4_75 rfl ?_
              refine j_iconst (x := 1) E dJ6_numberOfTrailingZeros_0f7a4_76 (by decide) ?_
              refine j_iushr E dJ6_numberOfTrailingZeros_0f7a4_77 rfl ?_
              refine j_iadd E dJ6_numberOfTrailingZeros_0f7a4_78 ?_
              refine J.topi (x' := nI 1) (by decide) ?_
              exact j_iret E dJ6_numberOfTrailingZeros_0f7a4_79 rfl rfl (by omega) (by omega) ⟨rfl, rfl⟩
            · exact absurd (by decide) c4
          · exact absurd (by decide) c3
        · exact absurd (by decide) c2
      · exact absurd (by decide) c1
    · exact absurd (by decide) c
  · refine J.topi (x' := nI 3) (by decide) ?_
    refine j_istore_n E dJ6_numberOfTrailingZeros_0f7a4_7 (by decide) ?_
    refine j_iload_n E dJ6_numberOfTrailingZeros_0f7a4_8 rfl ?_
    refine j_if_gt E (tgt := 17) dJ6_numberOfTrailingZeros_0f7a4_9 (by decide) (fun c => ?_) (fun c => ?_)
    ·
      refine j_iconst (x := 1) E dJ6_numberOfTrailingZeros_0f7a4_17 (by decide) ?_
      refine j_istore_n E dJ6_numberOfTrailingZeros_0f7a4_18 (by decide) ?_
      refine j_iload_n E dJ6_numberOfTrailingZeros_0f7a4_19 rfl ?_
      refine j_ldcw E (x := 65536) dJ6_numberOfTrailingZeros_0f7a4_20 (by decide +kernel) ?_
      refine j_icmp_le E (tgt := 34) dJ6_numberOfTrailingZeros_0f7a4_23 (by decide) (fun c1 => ?_) (fun c1 => ?_)
      ·
        refine j_iload_n E dJ6_numberOfTrailingZeros_0f7a4_34 rfl ?_
        refine j_sipush (x := 256) E dJ6_numberOfTrailingZeros_0f7a4_35 (by decide) ?_
        refine j_icmp_le E (tgt := 49) dJ6_numberOfTrailingZeros_0f7a4_38 (by decide) (fun c2 => ?_) (fun c2 => ?_)
        ·
          refine j_iload_n E dJ6_numberOfTrailingZeros_0f7a4_49 rfl ?_
          refine j_bipush (x := 16) E dJ6_numberOfTrailingZeros_0f7a4_50 (by decide) ?_
          refine j_icmp_le E (tgt := 62) dJ6_numberOfTrailingZeros_0f7a4_52 (by decide) (fun c3 => ?_) (fun c3 => ?_)
          ·
            refine j_iload_n E dJ6_numberOfTrailingZeros_0f7a4_62 rfl ?_
            refine j_iconst (x := 4) E dJ6_numberOfTrailingZeros_0f7a4_63 (by decide) ?_
            refine j_icmp_le E (tgt := 74) dJ6_numberOfTrailingZeros_0f7a4_64 (by decide) (fun c4 => ?_) (fun c4 => ?_)
            ·
              refine j_iload_n E dJ6_numberOfTrailingZeros_0f7a4_74 rfl ?_
              refine j_iload_n E dJ6_numberOfTrailingZeros_0f7a4_75 rfl ?_
              refine j_iconst (x := 1) E dJ6_numberOfTrailingZeros_0f7a4_76 (by decide) ?_
              refine j_iushr E dJ6_numberOfTrailingZeros_0f7a4_77 rfl ?_
              refine j_iadd E dJ6_numberOfTrailingZeros_0f7a4_78 ?_
              refine J.topi (x' := nI 2) (by decide) ?_
              exact j_iret E dJ6_numberOfTrailingZeros_0f7a4_79 rfl rfl (by omega) (by omega) ⟨rfl, rfl⟩
            · exact absurd (by decide) c4
          · exact absurd (by decide) c3
        · exact absurd (by decide) c2
      · exact absurd (by decide) c1
    · exact absurd (by decide) c
  · refine J.topi (x' := nI 7) (by decide) ?_
    refine j_istore_n E dJ6_numberOfTrailingZeros_0f7a4_7 (by decide) ?_
    refine j_iload_n E dJ6_numberOfTrailingZeros_0f7a4_8 rfl ?_
    refine j_if_gt E (tgt := 17) dJ6_numberOfTrailingZeros_0f7a4_9 (by decide) (fun c => ?_) (fun c => ?_)
    ·
      refine j_iconst (x := 1) E dJ6_numberOfTrailingZeros_0f7a4_17 (by decide) ?_
      refine j_istore_n E dJ6_numberOfTrailingZeros_0f7a4_18 (by decide) ?_
      refine j_iload_n E dJ6_numberOfTrailingZeros_0f7a4_19 rfl ?_
      refine j_ldcw E (x := 65536) dJ6_numberOfTrailingZeros_0f7a4_20 (by decide +kernel) ?_
      refine j_icmp_le E (tgt := 34) dJ6_numberOfTrailingZeros_0f7a4_23 (by decide) (fun c1 => ?_) (fun c1 => ?_)
      ·
        refine j_iload_n E dJ6_numberOfTrailingZeros_0f7a4_34 rfl ?_
        refine j_sipush (x := 256) E dJ6_numberOfTrailingZeros_0f7a4_35 (by decide) ?_
        refine j_icmp_le E (tgt := 49) dJ6_numberOfTrailingZeros_0f7a4_38 (by decide) (fun c2 => ?_) (fun c2 => ?_)
        ·
          refine j_iload_n E dJ6_numberOfTrailingZeros_0f7a4_49 rfl ?_
          refine j_bipush (x := 16) E dJ6_numberOfTrailingZeros_0f7a4_50 (by decide) ?_
          refine j_icmp_le E (tgt := 62) dJ6_numberOfTrailingZeros_0f7a4_52 (by decide) (fun c3 => ?_) (fun c3 => ?_)
          ·
            refine j_iload_n E dJ6_numberOfTrailingZeros_0f7a4_62 rfl ?_
            refine j_iconst (x := 4) E dJ6_numberOfTrailingZeros_0f7a4_63 (by decide) ?_
            refine j_icmp_le E (tgt := 74) dJ6_numberOfTrailingZeros_0f7a4_64 (by decide) (fun c4 => ?_) (fun c4 => ?_)
            · exact absurd c4 (by decide)
            ·
              refine j_iinc E dJ6_numberOfTrailingZeros_0f7a4_67 rfl rfl (by decide) ?_
              refine j_iload_n E dJ6_numberOfTrailingZeros_0f7a4_70 rfl ?_
              refine j_iconst (x := 2) E dJ6_numberOfTrailingZeros_0f7a4_71 (by decide) ?_
              refine j_iushr E dJ6_numberOfTrailingZeros_0f7a4_72 rfl ?_
              refine J.topi (x' := nI 1) (by decide) ?_
              refine j_istore_n E dJ6_numberOfTrailingZeros_0f7a4_73 (by decide) ?_
              refine j_iload_n E dJ6_numberOfTrailingZeros_0f7a4_74 rfl ?_
              refine j_iload_n E dJ6_numberOfTrailingZeros_0f7a4_75 rfl ?_
              refine j_iconst (x := 1) E dJ6_numberOfTrailingZeros_0f7a4_76 (by decide) ?_
              refine j_iushr E dJ6_numberOfTrailingZeros_0f7a4_77 rfl ?_
              refine j_iadd E dJ6_numberOfTrailingZeros_0f7a4_78 ?_
              refine J.topi (x' := nI 3) (by decide) ?_
              exact j_iret E dJ6_numberOfTrailingZeros_0f7a4_79 rfl rfl (by omega) (by omega) ⟨rfl, rfl⟩
          · exact absurd (by decide) c3
        · exact absurd (by decide) c2
      · exact absurd (by decide) c1
    · exact absurd (by decide) c
  · refine J.topi (x' := nI 15) (by decide) ?_
    refine j_istore_n E dJ6_numberOfTrailingZeros_0f7a4_7 (by decide) ?_
    refine j_iload_n E dJ6_numberOfTrailingZeros_0f7a4_8 rfl ?_
    refine j_if_gt E (tgt := 17) dJ6_numberOfTrailingZeros_0f7a4_9 (by decide) (fun c => ?_) (fun c => ?_)
    ·
      refine j_iconst (x := 1) E dJ6_numberOfTrailingZeros_0f7a4_17 (by decide) ?_
      refine j_istore_n E dJ6_numberOfTrailingZeros_0f7a4_18 (by decide) ?_
      refine j_iload_n E dJ6_numberOfTrailingZeros_0f7a4_19 rfl ?_
      refine j_ldcw E (x := 65536) dJ6_numberOfTrailingZeros_0f7a4_20 (by decide +kernel) ?_
      refine j_icmp_le E (tgt := 34) dJ6_numberOfTrailingZeros_0f7a4_23 (by decide) (fun c1 => ?_) (fun c1 => ?_)
      ·
        refine j_iload_n E dJ6_numberOfTrailingZeros_0f7a4_34 rfl ?_
        refine j_sipush (x := 256) E dJ6_numberOfTrailingZeros_0f7a4_35 (by decide) ?_
        refine j_icmp_le E (tgt := 49) dJ6_numberOfTrailingZeros_0f7a4_38 (by decide) (fun c2 => ?_) (fun c2 => ?_)
        ·
          refine j_iload_n E dJ6_numberOfTrailingZeros_0f7a4_49 rfl ?_
          refine j_bipush (x := 16) E dJ6_numberOfTrailingZeros_0f7a4_50 (by decide) ?_
          refine j_icmp_le E (tgt := 62) dJ6_numberOfTrailingZeros_0f7a4_52 (by decide) (fun c3 => ?_) (fun c3 => ?_)
          ·
            refine j_iload_n E dJ6_numberOfTrailingZeros_0f7a4_62 rfl ?_
            refine j_iconst (x := 4) E dJ6_numberOfTrailingZeros_0f7a4_63 (by decide) ?_
            refine j_icmp_le E (tgt := 74) dJ6_numberOfTrailingZeros_0f7a4_64 (by decide) (fun c4 => ?_) (fun c4 => ?_)
            · exact absurd c4 (by decide)
            ·
              refine j_iinc E dJ6_numberOfTrailingZeros_0f7a4_67 rfl rfl (by decide) ?_
              refine j_iload_n E dJ6_numberOfTrailingZeros_0f7a4_70 rfl ?_
              refine j_iconst (x := 2) E dJ6_numberOfTrailingZeros_0f7a4_71 (by decide) ?_
              refine j_iushr E dJ6_numberOfTrailingZeros_0f7a4_72 rfl ?_
              refine J.topi (x' := nI 3) (by decide) ?_
              refine j_istore_n E dJ6_numberOfTrailingZeros_0f7a4_73 (by decide) ?_
              refine j_iload_n E dJ6_numberOfTrailingZeros_0f7a4_74 rfl ?_
              refine j_iload_n E dJ6_numberOfTrailingZeros_0f7a4_75 rfl ?_
              refine j_iconst (x := 1) E dJ6_numberOfTrailingZeros_0f7a4_76 (by decide) ?_
              refine j_iushr E dJ6_numberOfTrailingZeros_0f7a4_77 rfl ?_
              refine j_iadd E dJ6_numberOfTrailingZeros_0f7a4_78 ?_
              refine J.topi (x' := nI 4) (by decide) ?_
              exact j_iret E dJ6_numberOfTrailingZeros_0f7a4_79 rfl rfl (by omega) (by omega) ⟨rfl, rfl⟩
          · exact absurd (by decide) c3
        · exact absurd (by decide) c2
      · exact absurd (by decide) c1
    · exact absurd (by decide) c
  · refine J.topi (x' := nI 31) (by decide) ?_
    refine j_istore_n E dJ6_numberOfTrailingZeros_0f7a4_7 (by decide) ?_
    refine j_iload_n E dJ6_numberOfTrailingZeros_0f7a4_8 rfl ?_
    refine j_if_gt E (tgt := 17) dJ6_numberOfTrailingZeros_0f7a4_9 (by decide) (fun c => ?_) (fun c => ?_)
    ·
      refine j_iconst (x := 1) E dJ6_numberOfTrailingZeros_0f7a4_17 (by decide) ?_
      refine j_istore_n E dJ6_numberOfTrailingZeros_0f7a4_18 (by decide) ?_
      refine j_iload_n E dJ6_numberOfTrailingZeros_0f7a4_19 rfl ?_
      refine j_ldcw E (x := 65536) dJ6_numberOfTrailingZeros_0f7a4_20 (by decide +kernel) ?_
      refine j_icmp_le E (tgt := 34) dJ6_numberOfTrailingZeros_0f7a4_23 (by decide) (fun c1 => ?_) (fun c1 => ?_)
      ·
        refine j_iload_n E dJ6_numberOfTrailingZeros_0f7a4_34 rfl ?_
        refine j_sipush (x := 256) E dJ6_numberOfTrailingZeros_0f7a4_35 (by decide) ?_
        refine j_icmp_le E (tgt := 49) dJ6_numberOfTrailingZeros_0f7a4_38 (by decide) (fun c2 => ?_) (fun c2 => ?_)
        ·
          refine j_iload_n E dJ6_numberOfTrailingZeros_0f7a4_49 rfl ?_
          refine j_bipush (x := 16) E dJ6_numberOfTrailingZeros_0f7a4_50 (by decide) ?_
          refine j_icmp_le E (tgt := 62) dJ6_numberOfTrailingZeros_0f7a4_52 (by decide) (fun c3 => ?_) (fun c3 => ?_)
          · exact absurd c3 (by decide)
          ·
            refine j_iinc E dJ6_numberOfTrailingZeros_0f7a4_55 rfl rfl (by decide) ?_
            refine j_iload_n E dJ6_numberOfTrailingZeros_0f7a4_58 rfl ?_
            refine j_iconst (x := 4) E dJ6_numberOfTrailingZeros_0f7a4_59 (by decide) ?_
            refine j_iushr E dJ6_numberOfTrailingZeros_0f7a4_60 rfl ?_
            refine J.topi (x' := nI 1) (by decide) ?_
            refine j_istore_n E dJ6_numberOfTrailingZeros_0f7a4_61 (by decide) ?_
            refine j_iload_n E dJ6_numberOfTrailingZeros_0f7a4_62 rfl ?_
            refine j_iconst (x := 4) E dJ6_numberOfTrailingZeros_0f7a4_63 (by decide) ?_
            refine j_icmp_le E (tgt := 74) dJ6_numberOfTrailingZeros_0f7a4_64 (by decide) (fun c4 => ?_) (fun c4 => ?_)
            ·
              refine j_iload_n E dJ6_numberOfTrailingZeros_0f7a4_74 rfl ?_
              refine j_iload_n E dJ6_numberOfTrailingZeros_0f7a4_75 rfl ?_
              refine j_iconst (x := 1) E dJ6_numberOfTrailingZeros_0f7a4_76 (by decide) ?_
              refine j_iushr E dJ6_numberOfTrailingZeros_0f7a4_77 rfl ?_
              refine j_iadd E dJ6_numberOfTrailingZeros_0f7a4_78 ?_
              refine J.topi (x' := nI 5) (by decide) ?_
              exact j_iret E dJ6_numberOfTrailingZeros_0f7a4_79 rfl rfl (by omega) (by omega) ⟨rfl, rfl⟩
            · exact absurd (by decide) c4
        · exact absurd (by decide) c2
      · exact absurd (by decide) c1
    · exact absurd (by decide) c
  · refine J.topi (x' := nI 63) (by decide) ?_
    refine j_istore_n E dJ6_numberOfTrailingZeros_0f7a4_7 (by decide) ?_
    refine j_iload_n E dJ6_numberOfTrailingZeros_0f7a4_8 rfl ?_
    refine j_if_gt E (tgt := 17) dJ6_numberOfTrailingZeros_0f7a4_9 (by decide) (fun c => ?_) (fun c => ?_)
    ·
      refine j_iconst (x := 1) E dJ6_numberOfTrailingZeros_0f7a4_17 (by decide) ?_
      refine j_istore_n E dJ6_numberOfTrailingZeros_0f7a4_18 (by decide) ?_
      refine j_iload_n E dJ6_numberOfTrailingZeros_0f7a4_19 rfl ?_
      refine j_ldcw E (x := 65536) dJ6_numberOfTrailingZeros_0f7a4_20 (by decide +kernel) ?_
      refine j_icmp_le E (tgt := 34) dJ6_numberOfTrailingZeros_0f7a4_23 (by decide) (fun c1 => ?_) (fun c1 => ?_)
      ·
        refine j_iload_n E dJ6_numberOfTrailingZeros_0f7a4_34 rfl ?_
        refine j_sipush (x := 256) E dJ6_numberOfTrailingZeros_0f7a4_35 (by decide) ?_
        refine j_icmp_le E (tgt := 49) dJ6_numberOfTrailingZeros_0f7a4_38 (by decide) (fun c2 => ?_) (fun c2 => ?_)
        ·
          refine j_iload_n E dJ6_numberOfTrailingZeros_0f7a4_49 rfl ?_
          refine j_bipush (x := 16) E dJ6_numberOfTrailingZeros_0f7a4_50 (by decide) ?_
          refine j_icmp_le E (tgt := 62) dJ6_numberOfTrailingZeros_0f7a4_52 (by decide) (fun c3 => ?_) (fun c3 => ?_)
          · exact absurd c3 (by decide)
          ·
            refine j_iinc E dJ6_numberOfTrailingZeros_0f7a4_55 rfl rfl (by decide) ?_
            refine j_iload_n E dJ6_numberOfTrailingZeros_0f7a4_58 rfl ?_
            refine j_iconst (x := 4) E dJ6_numberOfTrailingZeros_0f7a4_59 (by decide) ?_
            refine j_iushr E dJ6_numberOfTrailingZeros_0f7a4_60 rfl ?_
            refine J.topi (x' := nI 3) (by decide) ?_
            refine j_istore_n E dJ6_numberOfTrailingZeros_0f7a4_61 (by decide) ?_
            refine j_iload_n E dJ6_numberOfTrailingZeros_0f7a4_62 rfl ?_
            refine j_iconst (x := 4) E dJ6_numberOfTrailingZeros_0f7a4_63 (by decide) ?_
            refine j_icmp_le E (tgt := 74) dJ6_numberOfTrailingZeros_0f7a4_64 (by decide) (fun c4 => ?_) (fun c4 => ?_)
            ·
              refine j_iload_n E dJ6_numberOfTrailingZeros_0f7a4_74 rfl ?_
              refine j_iload_n E dJ6_numberOfTrailingZeros_0f7a4_75 rfl ?_
              refine j_iconst (x := 1) E dJ6_numberOfTrailingZeros_0f7a4_76 (by decide) ?_
              refine j_iushr E dJ6_numberOfTrailingZeros_0f7a4_77 rfl ?_
              refine j_iadd E dJ6_numberOfTrailingZeros_0f7a4_78 ?_
              refine J.topi (x' := nI 6) (by decide) ?_
              exact j_iret E dJ6_numberOfTrailingZeros_0f7a4_79 rfl rfl (by omega) (by omega) ⟨rfl, rfl⟩
            · exact absurd (by decide) c4
        · exact absurd (by decide) c2
      · exact absurd (by decide) c1
    · exact absurd (by decide) c
  · refine J.topi (x' := nI 127) (by decide) ?_
    refine j_istore_n E dJ6_numberOfTrailingZeros_0f7a4_7 (by decide) ?_
    refine j_iload_n E dJ6_numberOfTrailingZeros_0f7a4_8 rfl ?_
    refine j_if_gt E (tgt := 17) dJ6_numberOfTrailingZeros_0f7a4_9 (by decide) (fun c => ?_) (fun c => ?_)
    ·
      refine j_iconst (x := 1) E dJ6_numberOfTrailingZeros_0f7a4_17 (by decide) ?_
      refine j_istore_n E dJ6_numberOfTrailingZeros_0f7a4_18 (by decide) ?_
      refine j_iload_n E dJ6_numberOfTrailingZeros_0f7a4_19 rfl ?_
      refine j_ldcw E (x := 65536) dJ6_numberOfTrailingZeros_0f7a4_20 (by decide +kernel) ?_
      refine j_icmp_le E (tgt := 34) dJ6_numberOfTrailingZeros_0f7a4_23 (by decide) (fun c1 => ?_) (fun c1 => ?_)
      ·
        refine j_iload_n E dJ6_numberOfTrailingZeros_0f7a4_34 rfl ?_
        refine j_sipush (x := 256) E dJ6_numberOfTrailingZeros_0f7a4_35 (by decide) ?_
        refine j_icmp_le E (tgt := 49) dJ6_numberOfTrailingZeros_0f7a4_38 (by decide) (fun c2 => ?_) (fun c2 => ?_)
        ·
          refine j_iload_n E dJ6_numberOfTrailingZeros_0f7a4_49 rfl ?_
          refine j_bipush (x := 16) E dJ6_numberOfTrailingZeros_0f7a4_50 (by decide) ?_
          refine j_icmp_le E (tgt := 62) dJ6_numberOfTrailingZeros_0f7a4_52 (by decide) (fun c3 => ?_) (fun c3 => ?_)
          · exact absurd c3 (by decide)
          ·
            refine j_iinc E dJ6_numberOfTrailingZeros_0f7a4_55 rfl rfl (by decide) ?_
            refine j_iload_n E dJ6_numberOfTrailingZeros_0f7a4_58 rfl ?_
            refine j_iconst (x := 4) E dJ6_numberOfTrailingZeros_0f7a4_59 (by decide) ?_
            refine j_iushr E dJ6_numberOfTrailingZeros_0f7a4_60 rfl ?_
            refine J.topi (x' := nI 7) (by decide) ?_
            refine j_istore_n E dJ6_numberOfTrailingZeros_0f7a4_61 (by decide) ?_
            refine j_iload_n E dJ6_numberOfTrailingZeros_0f7a4_62 rfl ?_
            refine j_iconst (x := 4) E dJ6_numberOfTrailingZeros_0f7a4_63 (by decide) ?_
            refine j_icmp_le E (tgt := 74) dJ6_numberOfTrailingZeros_0f7a4_64 (by decide) (fun c4 => ?_) (fun c4 => ?_)
            · exact absurd c4 (by decide)
            ·
              refine j_iinc E dJ6_numberOfTrailingZeros_0f7a4_67 rfl rfl (by decide) ?_
              refine j_iload_n E dJ6_numberOfTrailingZeros_0f7a4_70 rfl ?_
              refine j_iconst (x := 2) E dJ6_numberOfTrailingZeros_0f7a4_71 (by decide) ?_
              refine j_iushr E dJ6_numberOfTrailingZeros_0f7a4_72 rfl ?_
              refine J.topi (x' := nI 1) (by decide) ?_
              refine j_istore_n E dJ6_numberOfTrailingZeros_0f7a4_73 (by decide) ?_
              refine j_iload_n E dJ6_numberOfTrailingZeros_0f7a4_74 rfl ?_
              refine j_iload_n E dJ6_numberOfTrailingZeros_0f7a4_75 rfl ?_
              refine j_iconst (x := 1) E dJ6_numberOfTrailingZeros_0f7a4_76 (by decide) ?_
              refine j_iushr E dJ6_numberOfTrailingZeros_0f7a4_77 rfl ?_
              refine j_iadd E dJ6_numberOfTrailingZeros_0f7a4_78 ?_
              refine J.topi (x' := nI 7) (by decide) ?_
              exact j_iret E dJ6_numberOfTrailingZeros_0f7a4_79 rfl rfl (by omega) (by omega) ⟨rfl, rfl⟩
        · exact absurd (by decide) c2
      · exact absurd (by decide) c1
    · exact absurd (by decide) c
  · refine J.topi (x' := nI 255) (by decide) ?_
    refine j_istore_n E dJ6_numberOfTrailingZeros_0f7a4_7 (by decide) ?_
    refine j_iload_n E dJ6_numberOfTrailingZeros_0f7a4_8 rfl ?_
    refine j_if_gt E (tgt := 17) dJ6_numberOfTrailingZeros_0f7a4_9 (by decide) (fun c => ?_) (fun c => ?_)
    ·
      refine j_iconst (x := 1) E dJ6_numberOfTrailingZeros_0f7a4_17 (by decide) ?_
      refine j_istore_n E dJ6_numberOfTrailingZeros_0f7a4_18 (by decide) ?_
      refine j_iload_n E dJ6_numberOfTrailingZeros_0f7a4_19 rfl ?_
      refine j_ldcw E (x := 65536) dJ6_numberOfTrailingZeros_0f7a4_20 (by decide +kernel) ?_
      refine j_icmp_le E (tgt := 34) dJ6_numberOfTrailingZeros_0f7a4_23 (by decide) (fun c1 => ?_) (fun c1 => ?_)
      ·
        refine j_iload_n E dJ6_numberOfTrailingZeros_0f7a4_34 rfl ?_
        refine j_sipush (x := 256) E dJ6_numberOfTrailingZeros_0f7a4_35 (by decide) ?_
        refine j_icmp_le E (tgt := 49) dJ6_numberOfTrailingZeros_0f7a4_38 (by decide) (fun c2 => ?_) (fun c2 => ?_)
        ·
          refine j_iload_n E dJ6_numberOfTrailingZeros_0f7a4_49 rfl ?_
          refine j_bipush (x := 16) E dJ6_numberOfTrailingZeros_0f7a4_50 (by decide) ?_
          refine j_icmp_le E (tgt := 62) dJ6_numberOfTrailingZeros_0f7a4_52 (by decide) (fun c3 => ?_) (fun c3 => ?_)
          · exact absurd c3 (by decide)
          ·
            refine j_iinc E dJ6_numberOfTrailingZeros_0f7a4_55 rfl rfl (by decide) ?_
            refine j_iload_n E dJ6_numberOfTrailingZeros_0f7a4_58 rfl ?_
            refine j_iconst (x := 4) E dJ6_numberOfTrailingZeros_0f7a4_59 (by decide) ?_
            refine j_iushr E dJ6_numberOfTrailingZeros_0f7a4_60 rfl ?_
            refine J.topi (x' := nI 15) (by decide) ?_
            refine j_istore_n E dJ6_numberOfTrailingZeros_0f7a4_61 (by decide) ?_
            refine j_iload_n E dJ6_numberOfTrailingZeros_0f7a4_62 rfl ?_
            refine j_iconst (x := 4) E dJ6_numberOfTrailingZeros_0f7a4_63 (by decide) ?_
            refine j_icmp_le E (tgt := 74) dJ6_numberOfTrailingZeros_0f7a4_64 (by decide) (fun c4 => ?_) (fun c4 => ?_)
            · exact absurd c4 (by decide)
            ·
              refine j_iinc E dJ6_numberOfTrailingZeros_0f7a4_67 rfl rfl (by decide) ?_
              refine j_iload_n E dJ6_numberOfTrailingZeros_0f7a4_70 rfl ?_
              refine j_iconst (x := 2) E dJ6_numberOfTrailingZeros_0f7a4_71 (by decide) ?_
              refine j_iushr E dJ6_numberOfTrailingZeros_0f7a4_72 rfl ?_
              refine J.topi (x' := nI 3) (by decide) ?_
              refine j_istore_n E dJ6_numberOfTrailingZeros_0f7a4_73 (by decide) ?_
              refine j_iload_n E dJ6_numberOfTrailingZeros_0f7a4_74 rfl ?_
              refine j_iload_n E dJ6_numberOfTrailingZeros_0f7a4_75 rfl ?_
              refine j_iconst (x := 1) E dJ6_numberOfTrailingZeros_0f7a4_76 (by decide) ?_
              refine j_iushr E dJ6_numberOfTrailingZeros_0f7a4_77 rfl ?_
              refine j_iadd E dJ6_numberOfTrailingZeros_0f7a4_78 ?_
              refine J.topi (x' := nI 8) (by decide) ?_
              exact j_iret E dJ6_numberOfTrailingZeros_0f7a4_79 rfl rfl (by omega) (by omega) ⟨rfl, rfl⟩
        · exact absurd (by decide) c2
      · exact absurd (by decide) c1
    · exact absurd (by decide) c
  · refine J.topi (x' := nI 511) (by decide) ?_
    refine j_istore_n E dJ6_numberOfTrailingZeros_0f7a4_7 (by decide) ?_
    refine j_iload_n E dJ6_numberOfTrailingZeros_0f7a4_8 rfl ?_
    refine j_if_gt E (tgt := 17) dJ6_numberOfTrailingZeros_0f7a4_9 (by decide) (fun c => ?_) (fun c => ?_)
    ·
      refine j_iconst (x := 1) E dJ6_numberOfTrailingZeros_0f7a4_17 (by decide) ?_
      refine j_istore_n E dJ6_numberOfTrailingZeros_0f7a4_18 (by decide) ?_
      refine j_iload_n E dJ6_numberOfTrailingZeros_0f7a4_19 rfl ?_
      refine j_ldcw E (x := 65536) dJ6_numberOfTrailingZeros_0f7a4_20 (by decide +kernel) ?_
      refine j_icmp_le E (tgt := 34) dJ6_numberOfTrailingZeros_0f7a4_23 (by decide) (fun c1 => ?_) (fun c1 => ?_)
      ·
        refine j_iload_n E dJ6_numberOfTrailingZeros_0f7a4_34 rfl ?_
        refine j_sipush (x := 256) E dJ6_numberOfTrailingZeros_0f7a4_35 (by decide) ?_
        refine j_icmp_le E (tgt := 49) dJ6_numberOfTrailingZeros_0f7a4_38 (by decide) (fun c2 => ?_) (fun c2 => ?_)
        · exact absurd c2 (by decide)
        ·
          refine j_iinc E dJ6_numberOfTrailingZeros_0f7a4_41 rfl rfl (by decide) ?_
          refine j_iload_n E dJ6_numberOfTrailingZeros_0f7a4_44 rfl ?_
          refine j_bipush (x := 8) E dJ6_numberOfTrailingZeros_0f7a4_45 (by decide) ?_
          refine j_iushr E dJ6_numberOfTrailingZeros_0f7a4_47 rfl ?_
          refine J.topi (x' := nI 1) (by decide) ?_
          refine j_istore_n E dJ6_numberOfTrailingZeros_0f7a4_48 (by decide) ?_
          refine j_iload_n E dJ6_numberOfTrailingZeros_0f7a4_49 rfl ?_
          refine j_bipush (x := 16) E dJ6_numberOfTrailingZeros_0f7a4_50 (by decide) ?_
          refine j_icmp_le E (tgt := 62) dJ6_numberOfTrailingZeros_0f7a4_52 (by decide) (fun c3 => ?_) (fun c3 => ?_)
          ·
            refine j_iload_n E dJ6_numberOfTrailingZeros_0f7a4_62 rfl ?_
            refine j_iconst (x := 4) E dJ6_numberOfTrailingZeros_0f7a4_63 (by decide) ?_
            refine j_icmp_le E (tgt := 74) dJ6_numberOfTrailingZeros_0f7a4_64 (by decide) (fun c4 => ?_) (fun c4 => ?_)
            ·
              refine j_iload_n E dJ6_numberOfTrailingZeros_0f7a4_74 rfl ?_
              refine j_iload_n E dJ6_numberOfTrailingZeros_0f7a4_75 rfl ?_
              refine j_iconst (x := 1) E dJ6_numberOfTrailingZeros_0f7a4_76 (by decide) ?_
              refine j_iushr E dJ6_numberOfTrailingZeros_0f7a4_77 rfl ?_
              refine j_iadd E dJ6_numberOfTrailingZeros_0f7a4_78 ?_
              refine J.topi (x' := nI 9) (by decide) ?_
              exact j_iret E dJ6_numberOfTrailingZeros_0f7a4_79 rfl rfl (by omega) (by omega) ⟨rfl, rfl⟩
            · exact absurd (by decide) c4
          · exact absurd (by decide) c3
      · exact absurd (by decide) c1
    · exact absurd (by decide) c
  · refine J.topi (x' := nI 1023) (by decide) ?_
    refine j_istore_n E dJ6_numberOfTrailingZeros_0f7a4_7 (by decide) ?_
    refine j_iload_n E dJ6_numberOfTrailingZeros_0f7a4_8 rfl ?_
    refine j_if_gt E (tgt := 17) dJ6_numberOfTrailingZeros_0f7a4_9 (by decide) (fun c => ?_) (fun c => ?_)
    ·
      refine j_iconst (x := 1) E dJ6_numberOfTrailingZeros_0f7a4_17 (by decide) ?_
      refine j_istore_n E dJ6_numberOfTrailingZeros_0f7a4_18 (by decide) ?_
      refine j_iload_n E dJ6_numberOfTrailingZeros_0f7a4_19 rfl ?_
      refine j_ldcw E (x := 65536) dJ6_numberOfTrailingZeros_0f7a4_20 (by decide +kernel) ?_
      refine j_icmp_le E (tgt := 34) dJ6_numberOfTrailingZeros_0f7a4_23 (by decide) (fun c1 => ?_) (fun c1 => ?_)
      ·
        refine j_iload_n E dJ6_numberOfTrailingZeros_0f7a4_34 rfl ?_
        refine j_sipush (x := 256) E dJ6_numberOfTrailingZeros_0f7a4_35 (by decide) ?_
        refine j_icmp_le E (tgt := 49) dJ6_numberOfTrailingZeros_0f7a4_38 (by decide) (fun c2 => ?_) (fun c2 => ?_)
        · exact absurd c2 (by decide)
        ·
          refine j_iinc E dJ6_numberOfTrailingZeros_0f7a4_41 rfl rfl (by decide) ?_
          refine j_iload_n E dJ6_numberOfTrailingZeros_0f7a4_44 rfl ?_
          refine j_bipush (x := 8) E dJ6_numberOfTrailingZeros_0f7a4_45 (by decide) ?_
          refine j_iushr E dJ6_numberOfTrailingZeros_0f7a4_47 rfl ?_
          refine J.topi (x' := nI 3) (by decide) ?_
          refine j_istore_n E dJ6_numberOfTrailingZeros_0f7a4_48 (by decide) ?_
          refine j_iload_n E dJ6_numberOfTrailingZeros_0f7a4_49 rfl ?_
          refine j_bipush (x := 16) E dJ6_numberOfTrailingZeros_0f7a4_50 (by decide) ?_
          refine j_icmp_le E (tgt := 62) dJ6_numberOfTrailingZeros_0f7a4_52 (by decide) (fun c3 => ?_) (fun c3 => ?_)
          ·
            refine j_iload_n E dJ6_numberOfTrailingZeros_0f7a4_62 rfl ?_
            refine j_iconst (x := 4) E dJ6_numberOfTrailingZeros_0f7a4_63 (by decide) ?_
            refine j_icmp_le E (tgt := 74) dJ6_numberOfTrailingZeros_0f7a4_64 (by decide) (fun c4 => ?_) (fun c4 => ?_)
            ·
              refine j_iload_n E dJ6_numberOfTrailingZeros_0f7a4_74 rfl ?_
              refine j_iload_n E dJ6_numberOfTrailingZeros_0f7a4_75 rfl ?_
              refine j_iconst (x := 1) E dJ6_numberOfTrailingZeros_0f7a4_76 (by decide) ?_
              refine j_iushr E dJ6_numberOfTrailingZeros_0f7a4_77 rfl ?_
              refine j_iadd E dJ6_numberOfTrailingZeros_0f7a4_78 ?_
              refine J.topi (x' := nI 10) (by decide) ?_
              exact j_iret E dJ6_numberOfTrailingZeros_0f7a4_79 rfl rfl (by omega) (by omega) ⟨rfl, rfl⟩
            · exact absurd (by decide) c4
          · exact absurd (by decide) c3
      · exact absurd (by decide) c1
    · exact absurd (by decide) c
  · refine J.topi (x' := nI 2047) (by decide) ?_
    refine j_istore_n E dJ6_numberOfTrailingZeros_0f7a4_7 (by decide) ?_
    refine j_iload_n E dJ6_numberOfTrailingZeros_0f7a4_8 rfl ?_
    refine j_if_gt E (tgt := 17) dJ6_numberOfTrailingZeros_0f7a4_9 (by decide) (fun c => ?_) (fun c => ?_)
    ·
      refine j_iconst (x := 1) E dJ6_numberOfTrailingZeros_0f7a4_17 (by decide) ?_
      refine j_istore_n E dJ6_numberOfTrailingZeros_0f7a4_18 (by decide) ?_
      refine j_iload_n E dJ6_numberOfTrailingZeros_0f7a4_19 rfl ?_
      refine j_ldcw E (x := 65536) dJ6_numberOfTrailingZeros_0f7a4_20 (by decide +kernel) ?_
      refine j_icmp_le E (tgt := 34) dJ6_numberOfTrailingZeros_0f7a4_23 (by decide) (fun c1 => ?_) (fun c1 => ?_)
      ·
        refine j_iload_n E dJ6_numberOfTrailingZeros_0f7a4_34 rfl ?_
        refine j_sipush (x := 256) E dJ6_numberOfTrailingZeros_0f7a4_35 (by decide) ?_
        refine j_icmp_le E (tgt := 49) dJ6_numberOfTrailingZeros_0f7a4_38 (by decide) (fun c2 => ?_) (fun c2 => ?_)
        · exact absurd c2 (by decide)
        ·
          refine j_iinc E dJ6_numberOfTrailingZeros_0f7a4_41 rfl rfl (by decide) ?_
          refine j_iload_n E dJ6_numberOfTrailingZeros_0f7a4_44 rfl ?_
          refine j_bipush (x := 8) E dJ6_numberOfTrailingZeros_0f7a4_45 (by decide) ?_
          refine j_iushr E dJ6_numberOfTrailingZeros_0f7a4_47 rfl ?_
          refine J.topi (x' := nI 7) (by decide) ?_
          refine j_istore_n E dJ6_numberOfTrailingZeros_0f7a4_48 (by decide) ?_
          refine j_iload_n E dJ6_numberOfTrailingZeros_0f7a4_49 rfl ?_
          refine j_bipush (x := 16) E dJ6_numberOfTrailingZeros_0f7a4_50 (by decide) ?_
          refine j_icmp_le E (tgt := 62) dJ6_numberOfTrailingZeros_0f7a4_52 (by decide) (fun c3 => ?_) (fun c3 => ?_)
          ·
            refine j_iload_n E dJ6_numberOfTrailingZeros_0f7a4_62 rfl ?_
            refine j_iconst (x := 4) E dJ6_numberOfTrailingZeros_0f7a4_63 (by decide) ?_
            refine j_icmp_le E (tgt := 74) dJ6_numberOfTrailingZeros_0f7a4_64 (by decide) (fun c4 => ?_) (fun c4 => ?_)
            · exact absurd c4 (by decide)
            ·
              refine j_iinc E dJ6_numberOfTrailingZeros_0f7a4_67 rfl rfl (by decide) ?_
              refine j_iload_n E dJ6_numberOfTrailingZeros_0f7a4_70 rfl ?_
              refine j_iconst (x := 2) E dJ6_numberOfTrailingZeros_0f7a4_71 (by decide) ?_
              refine j_iushr E dJ6_numberOfTrailingZeros_0f7a4_72 rfl ?_
              refine J.topi (x' := nI 1) (by decide) ?_
              refine j_istore_n E dJ6_numberOfTrailingZeros_0f7a4_73 (by decide) ?_
              refine j_iload_n E dJ6_numberOfTrailingZeros_0f7a4_74 rfl ?_
              refine j_iload_n E dJ6_numberOfTrailingZeros_0f7a4_75 rfl ?_
              refine j_iconst (x := 1) E dJ6_numberOfTrailingZeros_0f7a4_76 (by decide) ?_
              refine j_iushr E dJ6_numberOfTrailingZeros_0f7a4_77 rfl ?_
              refine j_iadd E dJ6_numberOfTrailingZeros_0f7a4_78 ?_
              refine J.topi (x' := nI 11) (by decide) ?_
              exact j_iret E dJ6_numberOfTrailingZeros_0f7a4_79 rfl rfl (by omega) (by omega) ⟨rfl, rfl⟩
          · exact absurd (by decide) c3
      · exact absurd (by decide) c1
    · exact absurd (by decide) c
end C14
