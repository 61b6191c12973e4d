/-! the law's loop -/
section LL
variable {X : JC} {ret : Option FieldType} {B E0 : Nat} {D : va_G} {l : Launch} {v mc ms : Nat} {Q : State → Prop} {b N : Nat} {xs : Nat → Int32} {x m ou : Nat} {d : Int}
theorem law_body (E : JE X RL cL_law 8 wsL_law ret B E0 D l v mc ms) (hXN : XN (jx_s X)) (hX : va_X b N xs (jx_s X) (jx_s X).heap) (hb : b < (jx_s X).heap.size ∧ b < B) (hN : N ≤ 3073) (hv : 40 ≤ v) {h : HM} {k n i : Nat} {T : Nat → Nat} {ss : List SH} {kp : Option KPs} {rg : List Nat} {cl : Prop} (hi : i + 5 < N) (S : LW E0 h T x m ou d ss kp rg cl) (hk2 : k + 100 ≤ mc) (hs2 : n + 1000 ≤ ms) (kk : ∀ (h2 : HM) (T2 : Nat → Nat) (ss2 : List SH) (kp2 : Option KPs) (rg2 : List Nat) (cl2 : Prop), LW E0 h2 T2 x m ou d ss2 kp2 rg2 cl2 → J X B D 8 Q h2 (k + 100) (n + 1000) 1049 [(4, .int (nI i)), (3, .ref ou), (2, .ref m), (1, .ref x), (0, .ref b)] []) : J X B D 8 Q h k n 45 [(4, .int (nI i)), (3, .ref ou), (2, .ref m), (1, .ref x), (0, .ref b)] [] := by
  refine j_aload_n E dL_law_45 rfl ?_
  refine j_iload E dL_law_46 rfl ?_
  refine j_sld E hX hb i dL_law_48 rfl (by omega) (by omega) ?_
  obtain ⟨c, hc, ec⟩ := pk_andE (xs i) (m := nI 15) 4 (by decide)
  refine j_bipush (x := nI 15) E dL_law_49 (by decide) ?_
  refine j_iand E dL_law_51 ?_
  refine J.topi (x' := nI c) (ec) ?_
  have hc16 : c < 16 := hc
  have cs : c = 0 ∨ c = 1 ∨ c = 2 ∨ c = 3 ∨ c = 4 ∨ c = 5 ∨ c = 6 ∨ c = 7 ∨ c = 8 ∨ c = 9 ∨ c = 10 ∨ c = 11 ∨ c = 12 ∨ c = 13 ∨ c = 14 ∨ c = 15 := by omega
  rcases cs with rfl | rfl | rfl | rfl | rfl | rfl | rfl | rfl | rfl | rfl | rfl | rfl | rfl | rfl | rfl | rfl
  · exact j_tsw E (tgt := 128) dL_law_52 (by decide) (by decide) (off := 76) (by decide) (by decide) (case_shape E hXN hX hb hN hv hi S hk2 hs2 kk)
  · exact j_tsw E (tgt := 172) dL_law_52 (by decide) (by decide) (off := 120) (by decide) (by decide) (case_corner E hXN hX hb hN hv hi S hk2 hs2 kk)
  · exact j_tsw E (tgt := 323) dL_law_52 (by decide) (by decide) (off := 271) (by decide) (by decide) (case_near E hXN hX hb hN hv hi S hk2 hs2 kk)
  · exact j_tsw E (tgt := 367) dL_law_52 (by decide) (by decide) (off := 315) (by decide) (by decide) (case_run E hXN hX hb hN hv hi S hk2 hs2 kk)
  · exact j_tsw E (tgt := 467) dL_law_52 (by decide) (by decide) (off := 415) (by decide) (by decide) (case_colour E hXN hX hb hN hv hi S hk2 hs2 kk)
  · exact j_tsw E (tgt := 523) dL_law_52 (by decide) (by decide) (off := 471) (by decide) (by decide) (case_ring E hXN hX hb hN hv hi S hk2 hs2 kk)
  · exact j_tsw E (tgt := 579) dL_law_52 (by decide) (by decide) (off := 527) (by decide) (by decide) (case_length E hXN hX hb hN hv hi S hk2 hs2 kk)
  · exact j_tsw E (tgt := 592) dL_law_52 (by decide) (by decide) (off := 540) (by decide) (by decide) (case_pre E hXN hX hb hN hv hi S hk2 hs2 kk)
  · exact j_tsw E (tgt := 667) dL_law_52 (by decide) (by decide) (off := 615) (by decide) (by decide) (case_stitch E hXN hX hb hN hv hi S hk2 hs2 kk)
  · exact j_tsw E (tgt := 802) dL_law_52 (by decide) (by decide) (off := 750) (by decide) (by decide) (case_stitches E hXN hX hb hN hv hi S hk2 hs2 kk)
  · exact j_tsw E (tgt := 815) dL_law_52 (by decide) (by decide) (off := 763) (by decide) (by decide) (case_used E hXN hX hb hN hv hi S hk2 hs2 kk)
  · exact j_tsw E (tgt := 890) dL_law_52 (by decide) (by decide) (off := 838) (by decide) (by decide) (case_balance E hXN hX hb hN hv hi S hk2 hs2 kk)
  · exact j_tsw E (tgt := 957) dL_law_52 (by decide) (by decide) (off := 905) (by decide) (by decide) (case_pair E hXN hX hb hN hv hi S hk2 hs2 kk)
  · exact j_tsw E (tgt := 1025) dL_law_52 (by decide) (by decide) (off := 973) (by decide) (by decide) (case_closed E hXN hX hb hN hv hi S hk2 hs2 kk)
  · exact j_tsw E (tgt := 1038) dL_law_52 (by decide) (by decide) (off := 986) (by decide) (by decide) (case_clear E hXN hX hb hN hv hi S hk2 hs2 kk)
  · exact j_tswOut E (tgt := 1049) dL_law_52 (by decide) (by decide) (J.wide (by omega) (by omega) (kk h T ss kp rg cl S))
theorem law_loop (E : JE X RL cL_law 8 wsL_law ret B E0 D l v 601024 7293000) (hXN : XN (jx_s X)) (hX : va_X b N xs (jx_s X) (jx_s X).heap) (hb : b < (jx_s X).heap.size ∧ b < B) (hN : N ≤ 3073) (hv : 40 ≤ v)
    (hend : ∀ (h : HM) (k n : Nat) (L : List (Nat × Value)), k ≤ 601024 → n ≤ 7293000 → J X B D 8 Q h k n 1056 L [.int (nI 1)]) : ∀ (u t : Nat) (h : HM) (T : Nat → Nat) (ss : List SH) (kp : Option KPs) (rg : List Nat) (cl : Prop), t + u = 513 → LW E0 h T x m ou d ss kp rg cl → J X B D 8 Q h (100 + 100 * t) (1000 + 1000 * t) 35 [(4, .int (nI (1 + 6 * t))), (3, .ref ou), (2, .ref m), (1, .ref x), (0, .ref b)] [] := by
  have stop : ∀ (h : HM) (k n : Nat) (L : List (Nat × Value)), k ≤ 601024 → n ≤ 7293000 → J X B D 8 Q h k n 1055 L [] := by
    intro h k n L h1 h2
    refine j_iconst (x := nI 1) E dL_law_1055 (by decide) ?_
    exact hend h k n L h1 h2
  have cond : ∀ i : Nat, i < 4000 → (nI N - nI 6 < nI i ↔ N < i + 6) := fun i hi => by
    rw [Int32.lt_iff_toInt_lt, pk_sub_toInt (show N < 2 ^ 30 by omega) (show 6 < 2 ^ 30 by decide), nI_toInt (show i < 2 ^ 31 by omega)]
    omega
  intro u
  induction u with
  | zero =>
    intro t h T ss kp rg cl ht S
    refine j_iload E dL_law_35 rfl ?_
    refine j_aload_n E dL_law_37 rfl ?_
    refine j_slen E hX hb dL_law_38 ?_
    refine j_bipush (x := nI 6) E dL_law_39 (by decide) ?_
    refine j_isub E dL_law_41 ?_
    refine j_icmp_gt E (tgt := 1055) dL_law_42 (by decide) (fun c1 => ?_) (fun c1 => ?_)
    · exact stop _ _ _ _ (by omega) (by omega)
    · exact absurd ((cond (1 + 6 * t) (by omega)).mpr (by omega)) c1
  | succ u ih =>
    intro t h T ss kp rg cl ht S
    refine j_iload E dL_law_35 rfl ?_
    refine j_aload_n E dL_law_37 rfl ?_
    refine j_slen E hX hb dL_law_38 ?_
    refine j_bipush (x := nI 6) E dL_law_39 (by decide) ?_
    refine j_isub E dL_law_41 ?_
    refine j_icmp_gt E (tgt := 1055) dL_law_42 (by decide) (fun c1 => ?_) (fun c1 => ?_)
    · exact stop _ _ _ _ (by omega) (by omega)
    · have hi : 1 + 6 * t + 5 < N := by
        have := mt (cond (1 + 6 * t) (by omega)).mpr c1
        omega
      refine law_body E hXN hX hb hN hv hi S (by omega) (by omega) (fun h2 T2 ss2 kp2 rg2 cl2 S2 => ?_)
      refine j_iinc E dL_law_1049 rfl (show nI (1 + 6 * t) + Int32.ofInt 6 = nI (1 + 6 * (t + 1)) from nI_add (1 + 6 * t) 6) (by decide) ?_
      refine j_goto E (tgt := 35) dL_law_1052 (by decide) ?_
      refine J.sub [(4, .int (nI (1 + 6 * (t + 1)))), (3, .ref ou), (2, .ref m), (1, .ref x), (0, .ref b)] ⟨rfl, rfl, rfl, rfl, rfl, trivial⟩ ?_
      have k2 := ih (t + 1) h2 T2 ss2 kp2 rg2 cl2 (by omega) S2
      rw [show 100 + 100 * (t + 1) = 100 + 100 * t + 100 by omega, show 1000 + 1000 * (t + 1) = 1000 + 1000 * t + 1000 by omega] at k2
      exact k2
end LL
