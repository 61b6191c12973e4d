/-! the law, case by case -/
section LCS
variable {X : JC} {ret : Option FieldType} {B E0 : Nat} {D : va_G} {l : Launch} {v mc ms : Nat} {Q : State → Prop} {h : HM} {k n : Nat} {b N : Nat} {xs : Nat → Int32} {i : Nat} {T : Nat → Nat} {x m ou : Nat} {d : Int} {ss : List SH} {kp : Option KPs} {rg : List Nat} {cl : Prop}
theorem case_ring (E : JE X RL cL_law 8 wsL_law ret B E0 D l v mc ms) (hXN : XN (jx_s X)) (hX : va_X b N xs (jx_s X) (jx_s X).heap) (hb : b < (jx_s X).heap.size ∧ b < B) (hN : N ≤ 3073) (hv : 40 ≤ v) (hi : i + 5 < N) (S : LW E0 h T x m ou d ss kp rg cl) (hk2 : k + 100 ≤ mc) (hs2 : n + 1000 ≤ ms) (kk : ∀ (h2 : HM) (T2 : Nat → Nat) (ss2 : List SH) (kp2 : Option KPs) (rg2 : List Nat) (cl2 : Prop), LW E0 h2 T2 x m ou d ss2 kp2 rg2 cl2 → J X B D 8 Q h2 (k + 100) (n + 1000) 1049 [(4, .int (nI i)), (3, .ref ou), (2, .ref m), (1, .ref x), (0, .ref b)] []) : J X B D 8 Q h k n 523 [(4, .int (nI i)), (3, .ref ou), (2, .ref m), (1, .ref x), (0, .ref b)] [] := by
  obtain ⟨⟨hw, hkp, hu, hd⟩, ⟨gs, la, le, ra, kr, R⟩, ⟨a, s, I, G, M, A, K, ta⟩, t1, t2, uo, f, ho⟩ := S
  have hw0 := hw
  have hrl : rg.length ≤ 12 := by
    obtain ⟨_, _, hh, _⟩ := R.2.2.2.2.2.1
    exact hh
  have mid : ∀ (h1 : HM) (T1 : Nat → Nat) (f1 : Nat → Int64) (ss1 : List SH) (kp1 : Option KPs) (rg1 : List Nat) (cl1 : Prop), CRx E0 h1 T1 x d ss1 kp1 rg1 cl1 → MR h1 h1 m a (lZ d) s I G → (∀ k, k ∈ mK → T1 (a k) = 0 ∧ a k ≠ ou) → T1 m = 0 → T1 ou = 0 → h1 ou = some (hJ 1 f1) → ((¬ cdRing rg (xs (i + 1)) = 0 ∧ ss1 = ss ∧ kp1 = kp ∧ rg1 = rg ∧ cl1 = cl) ∨ (cdRing rg (xs (i + 1)) = 0 ∧ (fun ans ss1 kp1 rg1 cl1 => (∃ j, j < rg.length ∧ xs (i + 1) = nI j ∧ ans = (nI (rg.getD j 0)).toInt64) ∧ ss1 = ss ∧ kp1 = kp ∧ rg1 = rg ∧ cl1 = cl) (f1 0) ss1 kp1 rg1 cl1)) → J X B D 8 Q h1 (k + 1) (n + 6) 534 [(4, .int (nI i)), (3, .ref ou), (2, .ref m), (1, .ref x), (0, .ref b)] [.int (cdRing rg (xs (i + 1)))] := by
    intro h1 T1 f1 ss1 kp1 rg1 cl1 R1 M1 ta1 t11 t12 ho1 hS
    have mo := M1.obj
    refine j_istore E dL_law_534 (by decide) ?_
    refine j_aload_n E dL_law_536 rfl ?_
    refine j_aload_n E dL_law_537 rfl ?_
    refine j_iload E dL_law_538 rfl ?_
    refine j_iconst (x := nI 1) E dL_law_540 (by decide) ?_
    refine j_iadd E dL_law_541 ?_
    refine j_sld E hX hb (i + 1) dL_law_542 (nI_add i 1) (by omega) (by omega) ?_
    refine j_callV (np := 1) (C := RX7) (T := TX7) (N := 27) (ci := 8) E (m_ring 0 M1 K hrl (xs (i + 1))) gL_law_X7_ring rfl ⟨rfl, by decide, by decide, by decide +kernel⟩ dL_law_543 (by omega) (by decide) rfl mo rfl rfl (Nat.le_of_ble_eq_true rfl) (by omega) (by omega) (fun r h2 p => ?_)
    obtain ⟨⟨y, rfl⟩, c9, M2, rfl, pb⟩ := p
    refine J.wide (k' := k + 100) (n' := n + 1000) (by omega) (by omega) ?_
    obtain ⟨M3, R3, ho3⟩ := LW_step M2 R1 t11 ta1 uo ho1 M1
    have mo3 := M3.obj
    have e0 : uA s 0 _ 0 = _ := uA_eq s 0 (cdRing rg (xs (i + 1)))
    refine j_istore E dL_law_546 (by decide) ?_
    refine j_aload_n E dL_law_548 rfl ?_
    refine j_callV (np := 0) (C := RX7) (T := TX7) (N := 27) (ci := 8) E (m_thrown 0 M3) gL_law_X7_thrown rfl ⟨rfl, by decide, by decide, by decide +kernel⟩ dL_law_549 (by omega) (by decide) rfl mo3 rfl rfl (Nat.le_of_ble_eq_true rfl) (by omega) (by omega) (fun r9 h9 p9 => J.pure p9 ?_)
    refine J.wide (k' := k + 100) (n' := n + 1000) (by omega) (by omega) ?_
    refine J.topi (x' := cdRing rg (xs (i + 1))) e0 ?_
    refine j_iload E dL_law_552 rfl ?_
    refine j_icmp_eq E (tgt := 559) dL_law_554 (by decide) (fun c1 => ?_) (fun c1 => ?_)
    ·
      refine j_iload E dL_law_559 rfl ?_
      refine j_if_ne E (tgt := 576) dL_law_561 (by decide) (fun c2 => ?_) (fun c2 => ?_)
      · obtain ⟨-, rfl, rfl, rfl, rfl⟩ := hS.resolve_right (fun z => c2 z.1)
        have K3 := K.keep ⟨rfl, rfl, rfl, rfl, rfl⟩ ⟨rfl, rfl, rfl⟩ rfl (s1 := uA s 0 (cdRing rg1 (xs (i + 1)))) (I1 := I) (G1 := G)
        have A3 : MA ss1 (uA s 0 (cdRing rg1 (xs (i + 1)))) I G := A.keep rfl ⟨rfl, rfl, rfl, rfl⟩ ⟨rfl, rfl, rfl⟩
        refine j_goto E (tgt := 1049) dL_law_576 (by decide) ?_
        refine J.sub [(4, .int (nI i)), (3, .ref ou), (2, .ref m), (1, .ref x), (0, .ref b)] ⟨rfl, rfl, rfl, rfl, rfl, trivial⟩ ?_
        exact kk h2 T1 _ _ _ _ (LW_fin ⟨hw0, hkp, hu, hd⟩ R3 M3 A3 K3 ta1 t11 t12 uo ho3)
      · obtain ⟨-, hS3⟩ := hS.resolve_left (fun z => z.1 c2)
        clear hS
        obtain ⟨⟨j, hj, hz, he⟩, rfl, rfl, rfl, rfl⟩ := hS3
        have ey := pb j hj hz
        cases ey
        have K3 := K.keep ⟨rfl, rfl, rfl, rfl, rfl⟩ ⟨rfl, rfl, rfl⟩ rfl (s1 := uA s 0 (cdRing rg1 (xs (i + 1)))) (I1 := I) (G1 := G)
        have A3 : MA ss1 (uA s 0 (cdRing rg1 (xs (i + 1)))) I G := A.keep rfl ⟨rfl, rfl, rfl, rfl⟩ ⟨rfl, rfl, rfl⟩
        have W3 : wfSS ss1 ∧ wfK kp1 ∧ UK kp1 ss1 ∧ 1 ≤ d ∧ d ≤ 65536 := ⟨hw0, hkp, hu, hd⟩
        have fin : J X B D 8 Q h2 (k + 100) (n + 1000) 1049 [(4, .int (nI i)), (3, .ref ou), (2, .ref m), (1, .ref x), (0, .ref b)] [] := kk h2 T1 _ _ _ _ (LW_fin W3 R3 M3 A3 K3 ta1 t11 t12 uo ho3)
        refine j_aload_n E dL_law_564 rfl ?_
        refine j_iconst (x := nI 0) E dL_law_565 (by decide) ?_
        refine j_laload E 0 dL_law_566 ho3 rfl (by omega) (by omega) ?_
        refine j_iload E dL_law_567 rfl ?_
        refine j_i2l E dL_law_569 ?_
        refine j_lcmp E dL_law_570 ?_
        refine j_if_eq E (tgt := 576) dL_law_571 (by decide) (fun c3 => ?_) (fun c3 => ?_)
        ·
          refine j_goto E (tgt := 1049) dL_law_576 (by decide) ?_
          refine J.sub [(4, .int (nI i)), (3, .ref ou), (2, .ref m), (1, .ref x), (0, .ref b)] ⟨rfl, rfl, rfl, rfl, rfl, trivial⟩ ?_
          exact fin
        · exact absurd (cmp_eq.mpr he) c3
    · exact absurd rfl c1
  refine j_aload_n E dL_law_523 rfl ?_
  refine j_aload_n E dL_law_524 rfl ?_
  refine j_iload E dL_law_525 rfl ?_
  refine j_iconst (x := nI 1) E dL_law_527 (by decide) ?_
  refine j_iadd E dL_law_528 ?_
  refine j_sld E hX hb (i + 1) dL_law_529 (nI_add i 1) (by omega) (by omega) ?_
  refine j_aload_n E dL_law_530 rfl ?_
  refine j_callW (np := 3) E hXN (w_ring 0 R hw (xs (i + 1)) ho t2) gL_law_L_ring rfl ⟨by decide, by decide, by decide +kernel⟩ dL_law_531 (by omega) (by decide) rfl rfl (Nat.le_of_ble_eq_true rfl) (by omega) (by omega) (fun r h1 p => ?_)
  obtain ⟨rfl, ⟨hc, rfl⟩ | ⟨hc, ans, ss1, kp1, rg1, cl1, T1, f1, hS, ho1, ha, F, R1⟩⟩ := p
  · exact mid h1 T f ss kp rg cl ⟨_, _, _, _, _, R⟩ M ta t1 t2 ho (Or.inl ⟨hc, rfl, rfl, rfl, rfl⟩)
  · obtain ⟨M1, ta1, t11⟩ := LW_over M ta t1 uo F
    exact mid h1 T1 f1 ss1 kp1 rg1 cl1 R1 M1 ta1 t11 F.2 ho1 (Or.inr ⟨hc, by rw [ha]; exact hS⟩)
theorem case_pre (E : JE X RL cL_law 8 wsL_law ret B E0 D l v mc ms) (hXN : XN (jx_s X)) (hX : va_X b N xs (jx_s X) (jx_s X).heap) (hb : b < (jx_s X).heap.size ∧ b < B) (hN : N ≤ 3073) (hv : 40 ≤ v) (hi : i + 5 < N) (S : LW E0 h T x m ou d ss kp rg cl) (hk2 : k + 100 ≤ mc) (hs2 : n + 1000 ≤ ms) (kk : ∀ (h2 : HM) (T2 : Nat → Nat) (ss2 : List SH) (kp2 : Option KPs) (rg2 : List Nat) (cl2 : Prop), LW E0 h2 T2 x m ou d ss2 kp2 rg2 cl2 → J X B D 8 Q h2 (k + 100) (n + 1000) 1049 [(4, .int (nI i)), (3, .ref ou), (2, .ref m), (1, .ref x), (0, .ref b)] []) : J X B D 8 Q h k n 592 [(4, .int (nI i)), (3, .ref ou), (2, .ref m), (1, .ref x), (0, .ref b)] [] := by
  obtain ⟨⟨hw, hkp, hu, hd⟩, ⟨gs, la, le, ra, kr, R⟩, ⟨a, s, I, G, M, A, K, ta⟩, t1, t2, uo, f, ho⟩ := S
  have hw0 := hw
  have mid : ∀ (h1 : HM) (T1 : Nat → Nat) (f1 : Nat → Int64) (ss1 : List SH) (kp1 : Option KPs) (rg1 : List Nat) (cl1 : Prop), CRx E0 h1 T1 x d ss1 kp1 rg1 cl1 → MR h1 h1 m a (lZ d) s I G → (∀ k, k ∈ mK → T1 (a k) = 0 ∧ a k ≠ ou) → T1 m = 0 → T1 ou = 0 → h1 ou = some (hJ 1 f1) → ((¬ cdPre ss (xs (i + 1)) (xs (i + 2)) = 0 ∧ ss1 = ss ∧ kp1 = kp ∧ rg1 = rg ∧ cl1 = cl) ∨ (cdPre ss (xs (i + 1)) (xs (i + 2)) = 0 ∧ (fun ans ss1 kp1 rg1 cl1 => ∃ j, j < ss.length ∧ xs (i + 1) = nI j ∧ ans = lB (¬ tl (gS ss j) = (xs (i + 2)).toInt) ∧ ss1 = setT ss j (xs (i + 2)).toInt ∧ kp1 = kp ∧ rg1 = rg ∧ cl1 = cl) (f1 0) ss1 kp1 rg1 cl1)) → J X B D 8 Q h1 (k + 3) (n + 18) 609 [(4, .int (nI i)), (3, .ref ou), (2, .ref m), (1, .ref x), (0, .ref b)] [.int (cdPre ss (xs (i + 1)) (xs (i + 2)))] := by
    intro h1 T1 f1 ss1 kp1 rg1 cl1 R1 M1 ta1 t11 t12 ho1 hS
    have mo := M1.obj
    refine j_istore E dL_law_609 (by decide) ?_
    refine j_aload_n E dL_law_611 rfl ?_
    refine j_aload_n E dL_law_612 rfl ?_
    refine j_iload E dL_law_613 rfl ?_
    refine j_iconst (x := nI 1) E dL_law_615 (by decide) ?_
    refine j_iadd E dL_law_616 ?_
    refine j_sld E hX hb (i + 1) dL_law_617 (nI_add i 1) (by omega) (by omega) ?_
    refine j_aload_n E dL_law_618 rfl ?_
    refine j_iload E dL_law_619 rfl ?_
    refine j_iconst (x := nI 2) E dL_law_621 (by decide) ?_
    refine j_iadd E dL_law_622 ?_
    refine j_sld E hX hb (i + 2) dL_law_623 (nI_add i 2) (by omega) (by omega) ?_
    refine j_callV (np := 2) (C := RX7) (T := TX7) (N := 27) (ci := 8) E (m_pre 0 M1 A hw (xs (i + 1)) (xs (i + 2))) gL_law_X7_pre rfl ⟨rfl, by decide, by decide, by decide +kernel⟩ dL_law_624 (by omega) (by decide) rfl mo rfl rfl (Nat.le_of_ble_eq_true rfl) (by omega) (by omega) (fun r h2 p => ?_)
    obtain ⟨⟨y, rfl⟩, s1, I1, M2, e0, q1, q2, pa, pb⟩ := p
    refine J.wide (k' := k + 100) (n' := n + 1000) (by omega) (by omega) ?_
    obtain ⟨M3, R3, ho3⟩ := LW_step M2 R1 t11 ta1 uo ho1 M1
    have mo3 := M3.obj
    refine j_istore E dL_law_627 (by decide) ?_
    refine j_aload_n E dL_law_629 rfl ?_
    refine j_callV (np := 0) (C := RX7) (T := TX7) (N := 27) (ci := 8) E (m_thrown 0 M3) gL_law_X7_thrown rfl ⟨rfl, by decide, by decide, by decide +kernel⟩ dL_law_630 (by omega) (by decide) rfl mo3 rfl rfl (Nat.le_of_ble_eq_true rfl) (by omega) (by omega) (fun r9 h9 p9 => J.pure p9 ?_)
    refine J.wide (k' := k + 100) (n' := n + 1000) (by omega) (by omega) ?_
    refine J.topi (x' := cdPre ss (xs (i + 1)) (xs (i + 2))) e0 ?_
    refine j_iload E dL_law_633 rfl ?_
    refine j_icmp_eq E (tgt := 640) dL_law_635 (by decide) (fun c1 => ?_) (fun c1 => ?_)
    ·
      refine j_iload E dL_law_640 rfl ?_
      refine j_if_ne E (tgt := 664) dL_law_642 (by decide) (fun c2 => ?_) (fun c2 => ?_)
      · obtain ⟨-, rfl, rfl, rfl, rfl⟩ := hS.resolve_right (fun z => c2 z.1)
        have A3 := pa c2
        have K3 := K.keep ⟨q1 26 (by decide), q1 25 (by decide), q1 17 (by decide), q1 18 (by decide), q1 19 (by decide)⟩ ⟨q2 24 (by decide), q2 20 (by decide), q2 21 (by decide)⟩ (show G 22 = G 22 from rfl)
        refine j_goto E (tgt := 1049) dL_law_664 (by decide) ?_
        refine J.sub [(4, .int (nI i)), (3, .ref ou), (2, .ref m), (1, .ref x), (0, .ref b)] ⟨rfl, rfl, rfl, rfl, rfl, trivial⟩ ?_
        exact kk h2 T1 _ _ _ _ (LW_fin ⟨hw0, hkp, hu, hd⟩ R3 M3 A3 K3 ta1 t11 t12 uo ho3)
      · obtain ⟨-, hS3⟩ := hS.resolve_left (fun z => z.1 c2)
        clear hS
        obtain ⟨j, hj, hz, he, rfl, rfl, rfl, rfl⟩ := hS3
        obtain ⟨ey, A3⟩ := pb c2 j hj hz
        cases ey
        have K3 := K.keep ⟨q1 26 (by decide), q1 25 (by decide), q1 17 (by decide), q1 18 (by decide), q1 19 (by decide)⟩ ⟨q2 24 (by decide), q2 20 (by decide), q2 21 (by decide)⟩ (show G 22 = G 22 from rfl)
        have W3 : wfSS (setT ss j (xs (i + 2)).toInt) ∧ wfK kp1 ∧ UK kp1 (setT ss j (xs (i + 2)).toInt) ∧ 1 ≤ d ∧ d ≤ 65536 := ⟨setT_wf hw hj (by rw [← hz]; exact c2), hkp, hu.mono (by unfold setT; rw [List.length_set]; exact Nat.le_refl _) (fun q hq => by
          unfold setT
          rw [gS_set hj]
          by_cases e : q = j
          · rw [if_pos e, e]; exact Nat.le_refl _
          · rw [if_neg e]; exact Nat.le_refl _), hd⟩
        have fin : J X B D 8 Q h2 (k + 100) (n + 1000) 1049 [(4, .int (nI i)), (3, .ref ou), (2, .ref m), (1, .ref x), (0, .ref b)] [] := kk h2 T1 _ _ _ _ (LW_fin W3 R3 M3 A3 K3 ta1 t11 t12 uo ho3)
        refine j_aload_n E dL_law_645 rfl ?_
        refine j_iconst (x := nI 0) E dL_law_646 (by decide) ?_
        refine j_laload E 0 dL_law_647 ho3 rfl (by omega) (by omega) ?_
        refine j_iload E dL_law_648 rfl ?_
        refine j_if_eq E (tgt := 657) dL_law_650 (by decide) (fun c4 => ?_) (fun c4 => ?_)
        ·
          refine j_lconst (x := lZ 0) E dL_law_657 (by decide) ?_
          refine j_lcmp E dL_law_658 ?_
          refine j_if_eq E (tgt := 664) dL_law_659 (by decide) (fun c3 => ?_) (fun c3 => ?_)
          ·
            refine j_goto E (tgt := 1049) dL_law_664 (by decide) ?_
            refine J.sub [(4, .int (nI i)), (3, .ref ou), (2, .ref m), (1, .ref x), (0, .ref b)] ⟨rfl, rfl, rfl, rfl, rfl, trivial⟩ ?_
            exact fin
          · exact absurd (cmp_eq.mpr (he.trans (lB_f (bI_z.mp c4)))) c3
        ·
          refine j_lconst (x := lZ 1) E dL_law_653 (by decide) ?_
          refine j_goto E (tgt := 658) dL_law_654 (by decide) ?_
          refine j_lcmp E dL_law_658 ?_
          refine j_if_eq E (tgt := 664) dL_law_659 (by decide) (fun c3 => ?_) (fun c3 => ?_)
          ·
            refine j_goto E (tgt := 1049) dL_law_664 (by decide) ?_
            refine J.sub [(4, .int (nI i)), (3, .ref ou), (2, .ref m), (1, .ref x), (0, .ref b)] ⟨rfl, rfl, rfl, rfl, rfl, trivial⟩ ?_
            exact fin
          · exact absurd (cmp_eq.mpr (he.trans (lB_t (bI_n.mp c4)))) c3
    · exact absurd rfl c1
  refine j_aload_n E dL_law_592 rfl ?_
  refine j_aload_n E dL_law_593 rfl ?_
  refine j_iload E dL_law_594 rfl ?_
  refine j_iconst (x := nI 1) E dL_law_596 (by decide) ?_
  refine j_iadd E dL_law_597 ?_
  refine j_sld E hX hb (i + 1) dL_law_598 (nI_add i 1) (by omega) (by omega) ?_
  refine j_aload_n E dL_law_599 rfl ?_
  refine j_iload E dL_law_600 rfl ?_
  refine j_iconst (x := nI 2) E dL_law_602 (by decide) ?_
  refine j_iadd E dL_law_603 ?_
  refine j_sld E hX hb (i + 2) dL_law_604 (nI_add i 2) (by omega) (by omega) ?_
  refine j_aload_n E dL_law_605 rfl ?_
  refine j_callW (np := 4) E hXN (w_pre 0 R hw (xs (i + 1)) (xs (i + 2)) ho t2) gL_law_L_pre rfl ⟨by decide, by decide, by decide +kernel⟩ dL_law_606 (by omega) (by decide) rfl rfl (Nat.le_of_ble_eq_true rfl) (by omega) (by omega) (fun r h1 p => ?_)
  obtain ⟨rfl, ⟨hc, rfl⟩ | ⟨hc, ans, ss1, kp1, rg1, cl1, T1, f1, hS, ho1, ha, F, R1⟩⟩ := p
  · exact mid h1 T f ss kp rg cl ⟨_, _, _, _, _, R⟩ M ta t1 t2 ho (Or.inl ⟨hc, rfl, rfl, rfl, rfl⟩)
  · obtain ⟨M1, ta1, t11⟩ := LW_over M ta t1 uo F
    exact mid h1 T1 f1 ss1 kp1 rg1 cl1 R1 M1 ta1 t11 F.2 ho1 (Or.inr ⟨hc, by rw [ha]; exact hS⟩)
theorem case_stitch (E : JE X RL cL_law 8 wsL_law ret B E0 D l v mc ms) (hXN : XN (jx_s X)) (hX : va_X b N xs (jx_s X) (jx_s X).heap) (hb : b < (jx_s X).heap.size ∧ b < B) (hN : N ≤ 3073) (hv : 40 ≤ v) (hi : i + 5 < N) (S : LW E0 h T x m ou d ss kp rg cl) (hk2 : k + 100 ≤ mc) (hs2 : n + 1000 ≤ ms) (kk : ∀ (h2 : HM) (T2 : Nat → Nat) (ss2 : List SH) (kp2 : Option KPs) (rg2 : List Nat) (cl2 : Prop), LW E0 h2 T2 x m ou d ss2 kp2 rg2 cl2 → J X B D 8 Q h2 (k + 100) (n + 1000) 1049 [(4, .int (nI i)), (3, .ref ou), (2, .ref m), (1, .ref x), (0, .ref b)] []) : J X B D 8 Q h k n 667 [(4, .int (nI i)), (3, .ref ou), (2, .ref m), (1, .ref x), (0, .ref b)] [] := by
  obtain ⟨⟨hw, hkp, hu, hd⟩, ⟨gs, la, le, ra, kr, R⟩, ⟨a, s, I, G, M, A, K, ta⟩, t1, t2, uo, f, ho⟩ := S
  have hw0 := hw
  obtain ⟨w, hww, hwz, hwn⟩ : ∃ w : Int, (w = 0 ∨ w = 1) ∧ (xs (i + 4) = 0 ↔ nI 0 = iZ w) ∧ (¬ xs (i + 4) = 0 ↔ nI 1 = iZ w) := by
    by_cases e : xs (i + 4) = 0
    · exact ⟨0, Or.inl rfl, ⟨fun _ => rfl, fun _ => e⟩, ⟨fun z => absurd e z, fun z => absurd z (by decide)⟩⟩
    · exact ⟨1, Or.inr rfl, ⟨fun z => absurd z e, fun z => absurd z (by decide)⟩, ⟨fun _ => rfl, fun _ => e⟩⟩
  have mid : ∀ (h1 : HM) (T1 : Nat → Nat) (f1 : Nat → Int64) (ss1 : List SH) (kp1 : Option KPs) (rg1 : List Nat) (cl1 : Prop), CRx E0 h1 T1 x d ss1 kp1 rg1 cl1 → MR h1 h1 m a (lZ d) s I G → (∀ k, k ∈ mK → T1 (a k) = 0 ∧ a k ≠ ou) → T1 m = 0 → T1 ou = 0 → h1 ou = some (hJ 1 f1) → ((¬ cdStitch ss (xs (i + 1)) (lw2 (xs (i + 2)) (xs (i + 3))) w = 0 ∧ ss1 = ss ∧ kp1 = kp ∧ rg1 = rg ∧ cl1 = cl) ∨ (cdStitch ss (xs (i + 1)) (lw2 (xs (i + 2)) (xs (i + 3))) w = 0 ∧ (fun ans ss1 kp1 rg1 cl1 => ∃ j, j < ss.length ∧ xs (i + 1) = nI j ∧ ans = lB (¬ hasC (gS ss j) w (lw2 (xs (i + 2)) (xs (i + 3)))) ∧ (hasC (gS ss j) w (lw2 (xs (i + 2)) (xs (i + 3))) → ss1 = ss) ∧ (¬ hasC (gS ss j) w (lw2 (xs (i + 2)) (xs (i + 3))) → ss1 = insS ss j (lw2 (xs (i + 2)) (xs (i + 3))).toInt w) ∧ kp1 = kp ∧ rg1 = rg ∧ cl1 = cl) (f1 0) ss1 kp1 rg1 cl1)) → J X B D 8 Q h1 (k + 3) (n + 18) 714 [(4, .int (nI i)), (3, .ref ou), (2, .ref m), (1, .ref x), (0, .ref b)] [.int (cdStitch ss (xs (i + 1)) (lw2 (xs (i + 2)) (xs (i + 3))) w)] := by
    intro h1 T1 f1 ss1 kp1 rg1 cl1 R1 M1 ta1 t11 t12 ho1 hS
    have mo := M1.obj
    refine j_istore E dL_law_714 (by decide) ?_
    refine j_aload_n E dL_law_716 rfl ?_
    refine j_aload_n E dL_law_717 rfl ?_
    refine j_iload E dL_law_718 rfl ?_
    refine j_iconst (x := nI 1) E dL_law_720 (by decide) ?_
    refine j_iadd E dL_law_721 ?_
    refine j_sld E hX hb (i + 1) dL_law_722 (nI_add i 1) (by omega) (by omega) ?_
    refine j_aload_n E dL_law_723 rfl ?_
    refine j_iload E dL_law_724 rfl ?_
    refine j_iconst (x := nI 2) E dL_law_726 (by decide) ?_
    refine j_iadd E dL_law_727 ?_
    refine j_sld E hX hb (i + 2) dL_law_728 (nI_add i 2) (by omega) (by omega) ?_
    refine j_i2l E dL_law_729 ?_
    refine j_bipush (x := nI 32) E dL_law_730 (by decide) ?_
    refine j_lshl E dL_law_732 rfl ?_
    refine j_aload_n E dL_law_733 rfl ?_
    refine j_iload E dL_law_734 rfl ?_
    refine j_iconst (x := nI 3) E dL_law_736 (by decide) ?_
    refine j_iadd E dL_law_737 ?_
    refine j_sld E hX hb (i + 3) dL_law_738 (nI_add i 3) (by omega) (by omega) ?_
    refine j_i2l E dL_law_739 ?_
    refine j_ldc2 E (x := lZ (4294967295)) dL_law_740 (show Cond.constantLong _ _ (4294967295) ∈ _ by decide +kernel) ?_
    refine j_land E dL_law_743 ?_
    refine j_lor E dL_law_744 ?_
    refine J.topl (x' := lw2 (xs (i + 2)) (xs (i + 3))) (rfl) ?_
    refine j_aload_n E dL_law_745 rfl ?_
    refine j_iload E dL_law_746 rfl ?_
    refine j_iconst (x := nI 4) E dL_law_748 (by decide) ?_
    refine j_iadd E dL_law_749 ?_
    refine j_sld E hX hb (i + 4) dL_law_750 (nI_add i 4) (by omega) (by omega) ?_
    have mid2 : J X B D 8 Q h1 (k + 3) (n + 18) 759 [(5, .int (cdStitch ss (xs (i + 1)) (lw2 (xs (i + 2)) (xs (i + 3))) w)), (4, .int (nI i)), (3, .ref ou), (2, .ref m), (1, .ref x), (0, .ref b)] [.int (iZ w), .long (lw2 (xs (i + 2)) (xs (i + 3))), .int (xs (i + 1)), .ref m] := by
      refine j_callV (np := 3) (C := RX7) (T := TX7) (N := 27) (ci := 8) E (m_stitch 0 M1 A hw (xs (i + 1)) (lw2 (xs (i + 2)) (xs (i + 3))) hww) gL_law_X7_stitch rfl ⟨rfl, by decide, by decide, by decide +kernel⟩ dL_law_759 (by omega) (by decide) rfl mo rfl rfl (Nat.le_of_ble_eq_true rfl) (by omega) (by omega) (fun r h2 p => ?_)
      obtain ⟨⟨y, rfl⟩, s1, I1, G1, M2, e0, q1, q2, q3, pa, pb⟩ := p
      refine J.wide (k' := k + 100) (n' := n + 1000) (by omega) (by omega) ?_
      obtain ⟨M3, R3, ho3⟩ := LW_step M2 R1 t11 ta1 uo ho1 M1
      have mo3 := M3.obj
      refine j_istore E dL_law_762 (by decide) ?_
      refine j_aload_n E dL_law_764 rfl ?_
      refine j_callV (np := 0) (C := RX7) (T := TX7) (N := 27) (ci := 8) E (m_thrown 0 M3) gL_law_X7_thrown rfl ⟨rfl, by decide, by decide, by decide +kernel⟩ dL_law_765 (by omega) (by decide) rfl mo3 rfl rfl (Nat.le_of_ble_eq_true rfl) (by omega) (by omega) (fun r9 h9 p9 => J.pure p9 ?_)
      refine J.wide (k' := k + 100) (n' := n + 1000) (by omega) (by omega) ?_
      refine J.topi (x' := cdStitch ss (xs (i + 1)) (lw2 (xs (i + 2)) (xs (i + 3))) w) e0 ?_
      refine j_iload E dL_law_768 rfl ?_
      refine j_icmp_eq E (tgt := 775) dL_law_770 (by decide) (fun c1 => ?_) (fun c1 => ?_)
      ·
        refine j_iload E dL_law_775 rfl ?_
        refine j_if_ne E (tgt := 799) dL_law_777 (by decide) (fun c2 => ?_) (fun c2 => ?_)
        · obtain ⟨-, rfl, rfl, rfl, rfl⟩ := hS.resolve_right (fun z => c2 z.1)
          have A3 := pa c2
          have K3 := K.keep ⟨q1 26 (by decide), q1 25 (by decide), q1 17 (by decide), q1 18 (by decide), q1 19 (by decide)⟩ ⟨q2 24 (by decide) (by decide), q2 20 (by decide) (by decide), q2 21 (by decide) (by decide)⟩ (q3 22 (by decide))
          refine j_goto E (tgt := 1049) dL_law_799 (by decide) ?_
          refine J.sub [(4, .int (nI i)), (3, .ref ou), (2, .ref m), (1, .ref x), (0, .ref b)] ⟨rfl, rfl, rfl, rfl, rfl, trivial⟩ ?_
          exact kk h2 T1 _ _ _ _ (LW_fin ⟨hw0, hkp, hu, hd⟩ R3 M3 A3 K3 ta1 t11 t12 uo ho3)
        · obtain ⟨-, hS3⟩ := hS.resolve_left (fun z => z.1 c2)
          clear hS
          obtain ⟨j, hj, hz, he, sa, sb, rfl, rfl, rfl⟩ := hS3
          obtain ⟨ey, pb1, pb2⟩ := pb c2 j hj hz
          cases ey
          have K3 := K.keep ⟨q1 26 (by decide), q1 25 (by decide), q1 17 (by decide), q1 18 (by decide), q1 19 (by decide)⟩ ⟨q2 24 (by decide) (by decide), q2 20 (by decide) (by decide), q2 21 (by decide) (by decide)⟩ (q3 22 (by decide))
          have main : (wfSS ss1 ∧ wfK kp1 ∧ UK kp1 ss1 ∧ 1 ≤ d ∧ d ≤ 65536) ∧ MA ss1 s1 I1 G1 := by
            by_cases hh : hasC (gS ss j) w (lw2 (xs (i + 2)) (xs (i + 3)))
            · obtain rfl := sa hh
              exact ⟨⟨hw0, hkp, hu, hd⟩, pb1 hh⟩
            · obtain rfl := sb hh
              obtain ⟨w1, w2⟩ := insS_wf hw hj hww (by rw [← hz]; exact c2) hh
              refine ⟨⟨w1, hkp, hu.mono (by unfold insS; rw [List.length_set]; exact Nat.le_refl _) (fun q hq => ?_), hd⟩, pb2 hh⟩
              by_cases e : q = j
              · rw [e, w2]; omega
              · unfold insS
                rw [gS_set hj, if_neg e]; exact Nat.le_refl _
          obtain ⟨W3, A3⟩ := main
          have fin : J X B D 8 Q h2 (k + 100) (n + 1000) 1049 [(4, .int (nI i)), (3, .ref ou), (2, .ref m), (1, .ref x), (0, .ref b)] [] := kk h2 T1 _ _ _ _ (LW_fin W3 R3 M3 A3 K3 ta1 t11 t12 uo ho3)
          refine j_aload_n E dL_law_780 rfl ?_
          refine j_iconst (x := nI 0) E dL_law_781 (by decide) ?_
          refine j_laload E 0 dL_law_782 ho3 rfl (by omega) (by omega) ?_
          refine j_iload E dL_law_783 rfl ?_
          refine j_if_eq E (tgt := 792) dL_law_785 (by decide) (fun c4 => ?_) (fun c4 => ?_)
          ·
            refine j_lconst (x := lZ 0) E dL_law_792 (by decide) ?_
            refine j_lcmp E dL_law_793 ?_
            refine j_if_eq E (tgt := 799) dL_law_794 (by decide) (fun c3 => ?_) (fun c3 => ?_)
            ·
              refine j_goto E (tgt := 1049) dL_law_799 (by decide) ?_
              refine J.sub [(4, .int (nI i)), (3, .ref ou), (2, .ref m), (1, .ref x), (0, .ref b)] ⟨rfl, rfl, rfl, rfl, rfl, trivial⟩ ?_
              exact fin
            · exact absurd (cmp_eq.mpr (he.trans (lB_f (bI_z.mp c4)))) c3
          ·
            refine j_lconst (x := lZ 1) E dL_law_788 (by decide) ?_
            refine j_goto E (tgt := 793) dL_law_789 (by decide) ?_
            refine j_lcmp E dL_law_793 ?_
            refine j_if_eq E (tgt := 799) dL_law_794 (by decide) (fun c3 => ?_) (fun c3 => ?_)
            ·
              refine j_goto E (tgt := 1049) dL_law_799 (by decide) ?_
              refine J.sub [(4, .int (nI i)), (3, .ref ou), (2, .ref m), (1, .ref x), (0, .ref b)] ⟨rfl, rfl, rfl, rfl, rfl, trivial⟩ ?_
              exact fin
            · exact absurd (cmp_eq.mpr (he.trans (lB_t (bI_n.mp c4)))) c3
      · exact absurd rfl c1
    refine j_if_eq E (tgt := 758) dL_law_751 (by decide) (fun c6 => ?_) (fun c6 => ?_)
    ·
      refine j_iconst (x := nI 0) E dL_law_758 (by decide) ?_
      refine J.topi (x' := iZ w) (hwz.mp c6) ?_
      exact mid2
    ·
      refine j_iconst (x := nI 1) E dL_law_754 (by decide) ?_
      refine j_goto E (tgt := 759) dL_law_755 (by decide) ?_
      refine J.topi (x' := iZ w) (hwn.mp c6) ?_
      exact mid2
  refine j_aload_n E dL_law_667 rfl ?_
  refine j_aload_n E dL_law_668 rfl ?_
  refine j_iload E dL_law_669 rfl ?_
  refine j_iconst (x := nI 1) E dL_law_671 (by decide) ?_
  refine j_iadd E dL_law_672 ?_
  refine j_sld E hX hb (i + 1) dL_law_673 (nI_add i 1) (by omega) (by omega) ?_
  refine j_aload_n E dL_law_674 rfl ?_
  refine j_iload E dL_law_675 rfl ?_
  refine j_iconst (x := nI 2) E dL_law_677 (by decide) ?_
  refine j_iadd E dL_law_678 ?_
  refine j_sld E hX hb (i + 2) dL_law_679 (nI_add i 2) (by omega) (by omega) ?_
  refine j_i2l E dL_law_680 ?_
  refine j_bipush (x := nI 32) E dL_law_681 (by decide) ?_
  refine j_lshl E dL_law_683 rfl ?_
  refine j_aload_n E dL_law_684 rfl ?_
  refine j_iload E dL_law_685 rfl ?_
  refine j_iconst (x := nI 3) E dL_law_687 (by decide) ?_
  refine j_iadd E dL_law_688 ?_
  refine j_sld E hX hb (i + 3) dL_law_689 (nI_add i 3) (by omega) (by omega) ?_
  refine j_i2l E dL_law_690 ?_
  refine j_ldc2 E (x := lZ (4294967295)) dL_law_691 (show Cond.constantLong _ _ (4294967295) ∈ _ by decide +kernel) ?_
  refine j_land E dL_law_694 ?_
  refine j_lor E dL_law_695 ?_
  refine J.topl (x' := lw2 (xs (i + 2)) (xs (i + 3))) (rfl) ?_
  refine j_aload_n E dL_law_696 rfl ?_
  refine j_iload E dL_law_697 rfl ?_
  refine j_iconst (x := nI 4) E dL_law_699 (by decide) ?_
  refine j_iadd E dL_law_700 ?_
  refine j_sld E hX hb (i + 4) dL_law_701 (nI_add i 4) (by omega) (by omega) ?_
  have go : J X B D 8 Q h k n 710 [(4, .int (nI i)), (3, .ref ou), (2, .ref m), (1, .ref x), (0, .ref b)] [.int (iZ w), .long (lw2 (xs (i + 2)) (xs (i + 3))), .int (xs (i + 1)), .ref x] := by
    refine j_aload_n E dL_law_710 rfl ?_
    refine j_callW (np := 5) E hXN (w_stitch 0 R hw (xs (i + 1)) (lw2 (xs (i + 2)) (xs (i + 3))) hww ho t2) gL_law_L_stitch rfl ⟨by decide, by decide, by decide +kernel⟩ dL_law_711 (by omega) (by decide) rfl rfl (Nat.le_of_ble_eq_true rfl) (by omega) (by omega) (fun r h1 p => ?_)
    obtain ⟨rfl, ⟨hc, rfl⟩ | ⟨hc, ans, ss1, kp1, rg1, cl1, T1, f1, hS, ho1, ha, F, R1⟩⟩ := p
    · exact mid h1 T f ss kp rg cl ⟨_, _, _, _, _, R⟩ M ta t1 t2 ho (Or.inl ⟨hc, rfl, rfl, rfl, rfl⟩)
    · obtain ⟨M1, ta1, t11⟩ := LW_over M ta t1 uo F
      exact mid h1 T1 f1 ss1 kp1 rg1 cl1 R1 M1 ta1 t11 F.2 ho1 (Or.inr ⟨hc, by rw [ha]; exact hS⟩)
  refine j_if_eq E (tgt := 709) dL_law_702 (by decide) (fun c6 => ?_) (fun c6 => ?_)
  ·
    refine j_iconst (x := nI 0) E dL_law_709 (by decide) ?_
    refine J.topi (x' := iZ w) (hwz.mp c6) ?_
    exact go
  ·
    refine j_iconst (x := nI 1) E dL_law_705 (by decide) ?_
    refine j_goto E (tgt := 710) dL_law_706 (by decide) ?_
    refine J.topi (x' := iZ w) (hwn.mp c6) ?_
    exact go
end LCS
