/-! the law, case by case -/
section LCS
variable {X : JC} {ret : Option FieldType} {B E0 : Nat} {D : va_G} {l : Launch} {v mc ms : Nat} {Q : State → Prop} {h : HM} {k n : Nat} {b N : Nat} {xs : Nat → Int32} {i : Nat} {T : Nat → Nat} {x m ou : Nat} {d : Int} {ss : List SH} {kp : Option KPs} {rg : List Nat} {cl : Prop}
theorem case_used (E : JE X RL cL_law 8 wsL_law ret B E0 D l v mc ms) (hXN : XN (jx_s X)) (hX : va_X b N xs (jx_s X) (jx_s X).heap) (hb : b < (jx_s X).heap.size ∧ b < B) (hN : N ≤ 3073) (hv : 40 ≤ v) (hi : i + 5 < N) (S : LW E0 h T x m ou d ss kp rg cl) (hk2 : k + 100 ≤ mc) (hs2 : n + 1000 ≤ ms) (kk : ∀ (h2 : HM) (T2 : Nat → Nat) (ss2 : List SH) (kp2 : Option KPs) (rg2 : List Nat) (cl2 : Prop), LW E0 h2 T2 x m ou d ss2 kp2 rg2 cl2 → J X B D 8 Q h2 (k + 100) (n + 1000) 1049 [(4, .int (nI i)), (3, .ref ou), (2, .ref m), (1, .ref x), (0, .ref b)] []) : J X B D 8 Q h k n 815 [(4, .int (nI i)), (3, .ref ou), (2, .ref m), (1, .ref x), (0, .ref b)] [] := by
  obtain ⟨⟨hw, hkp, hu, hd⟩, ⟨gs, la, le, ra, kr, R⟩, ⟨a, s, I, G, M, A, K, ta⟩, t1, t2, uo, f, ho⟩ := S
  have hw0 := hw
  have mid : ∀ (h1 : HM) (T1 : Nat → Nat) (f1 : Nat → Int64) (ss1 : List SH) (kp1 : Option KPs) (rg1 : List Nat) (cl1 : Prop), CRx E0 h1 T1 x d ss1 kp1 rg1 cl1 → MR h1 h1 m a (lZ d) s I G → (∀ k, k ∈ mK → T1 (a k) = 0 ∧ a k ≠ ou) → T1 m = 0 → T1 ou = 0 → h1 ou = some (hJ 1 f1) → ((¬ cdUsed ss kp (xs (i + 1)) (xs (i + 2)) = 0 ∧ ss1 = ss ∧ kp1 = kp ∧ rg1 = rg ∧ cl1 = cl) ∨ (cdUsed ss kp (xs (i + 1)) (xs (i + 2)) = 0 ∧ (fun ans ss1 kp1 rg1 cl1 => (∃ j q ps, j < ss.length ∧ xs (i + 1) = nI j ∧ q < 12 ∧ (xs (i + 2)) = nI q ∧ kp = some ps ∧ usedOK kp j q ∧ ans = lB (usB ps j q)) ∧ ss1 = ss ∧ kp1 = kp ∧ rg1 = rg ∧ cl1 = cl) (f1 0) ss1 kp1 rg1 cl1)) → J X B D 8 Q h1 (k + 2) (n + 12) 832 [(4, .int (nI i)), (3, .ref ou), (2, .ref m), (1, .ref x), (0, .ref b)] [.int (cdUsed ss kp (xs (i + 1)) (xs (i + 2)))] := by
    intro h1 T1 f1 ss1 kp1 rg1 cl1 R1 M1 ta1 t11 t12 ho1 hS
    have mo := M1.obj
    refine j_istore E dL_law_832 (by decide) ?_
    refine j_aload_n E dL_law_834 rfl ?_
    refine j_aload_n E dL_law_835 rfl ?_
    refine j_iload E dL_law_836 rfl ?_
    refine j_iconst (x := nI 1) E dL_law_838 (by decide) ?_
    refine j_iadd E dL_law_839 ?_
    refine j_sld E hX hb (i + 1) dL_law_840 (nI_add i 1) (by omega) (by omega) ?_
    refine j_aload_n E dL_law_841 rfl ?_
    refine j_iload E dL_law_842 rfl ?_
    refine j_iconst (x := nI 2) E dL_law_844 (by decide) ?_
    refine j_iadd E dL_law_845 ?_
    refine j_sld E hX hb (i + 2) dL_law_846 (nI_add i 2) (by omega) (by omega) ?_
    refine j_callV (np := 2) (C := RX7) (T := TX7) (N := 27) (ci := 8) E (m_used 0 M1 A hw K hkp (fun j q _ z => (hu j q z).2) (xs (i + 1)) (xs (i + 2))) gL_law_X7_used rfl ⟨rfl, by decide, by decide, by decide +kernel⟩ dL_law_847 (by omega) (by decide) rfl mo rfl rfl (Nat.le_of_ble_eq_true rfl) (by omega) (by omega) (fun r h2 p => ?_)
    obtain ⟨⟨y, rfl⟩, M2, pb⟩ := p
    refine J.wide (k' := k + 100) (n' := n + 1000) (by omega) (by omega) ?_
    obtain ⟨M3, R3, ho3⟩ := LW_step M2 R1 t11 ta1 uo ho1 M1
    have mo3 := M3.obj
    have e0 : uA s 0 _ 0 = _ := uA_eq s 0 (cdUsed ss kp (xs (i + 1)) (xs (i + 2)))
    refine j_istore E dL_law_850 (by decide) ?_
    refine j_aload_n E dL_law_852 rfl ?_
    refine j_callV (np := 0) (C := RX7) (T := TX7) (N := 27) (ci := 8) E (m_thrown 0 M3) gL_law_X7_thrown rfl ⟨rfl, by decide, by decide, by decide +kernel⟩ dL_law_853 (by omega) (by decide) rfl mo3 rfl rfl (Nat.le_of_ble_eq_true rfl) (by omega) (by omega) (fun r9 h9 p9 => J.pure p9 ?_)
    refine J.wide (k' := k + 100) (n' := n + 1000) (by omega) (by omega) ?_
    refine J.topi (x' := cdUsed ss kp (xs (i + 1)) (xs (i + 2))) e0 ?_
    refine j_iload E dL_law_856 rfl ?_
    refine j_icmp_eq E (tgt := 863) dL_law_858 (by decide) (fun c1 => ?_) (fun c1 => ?_)
    ·
      refine j_iload E dL_law_863 rfl ?_
      refine j_if_ne E (tgt := 887) dL_law_865 (by decide) (fun c2 => ?_) (fun c2 => ?_)
      · obtain ⟨-, rfl, rfl, rfl, rfl⟩ := hS.resolve_right (fun z => c2 z.1)
        have K3 := K.keep ⟨rfl, rfl, rfl, rfl, rfl⟩ ⟨rfl, rfl, rfl⟩ rfl (s1 := uA s 0 (cdUsed ss1 kp1 (xs (i + 1)) (xs (i + 2)))) (I1 := I) (G1 := G)
        have A3 : MA ss1 (uA s 0 (cdUsed ss1 kp1 (xs (i + 1)) (xs (i + 2)))) I G := A.keep rfl ⟨rfl, rfl, rfl, rfl⟩ ⟨rfl, rfl, rfl⟩
        refine j_goto E (tgt := 1049) dL_law_887 (by decide) ?_
        refine J.sub [(4, .int (nI i)), (3, .ref ou), (2, .ref m), (1, .ref x), (0, .ref b)] ⟨rfl, rfl, rfl, rfl, rfl, trivial⟩ ?_
        exact kk h2 T1 _ _ _ _ (LW_fin ⟨hw0, hkp, hu, hd⟩ R3 M3 A3 K3 ta1 t11 t12 uo ho3)
      · obtain ⟨-, hS3⟩ := hS.resolve_left (fun z => z.1 c2)
        clear hS
        obtain ⟨⟨j, q, ps, hj, hz, hq, hy, hk, hus, he⟩, rfl, rfl, rfl, rfl⟩ := hS3
        obtain ⟨ps2, g, e1, e2, e3, e4⟩ := id hus
        cases hk.symm.trans e1
        have ey := pb j q ps g hj hz (by omega) hy hk e2 e3 e4
        have ep : usB ps j q = ¬ kC ps (g + q) = kC ps (g + q + 1) := propext ⟨fun ⟨g2, u1, u2, u3, u4⟩ => (isF_one u1 e2) ▸ u4, fun z => ⟨g, e2, e3, e4, z⟩⟩
        rw [ep] at he
        cases ey
        have K3 := K.keep ⟨rfl, rfl, rfl, rfl, rfl⟩ ⟨rfl, rfl, rfl⟩ rfl (s1 := uA s 0 (cdUsed ss1 kp1 (xs (i + 1)) (xs (i + 2)))) (I1 := I) (G1 := G)
        have A3 : MA ss1 (uA s 0 (cdUsed ss1 kp1 (xs (i + 1)) (xs (i + 2)))) I G := A.keep rfl ⟨rfl, rfl, rfl, rfl⟩ ⟨rfl, rfl, rfl⟩
        have W3 : wfSS ss1 ∧ wfK kp1 ∧ UK kp1 ss1 ∧ 1 ≤ d ∧ d ≤ 65536 := ⟨hw0, hkp, hu, hd⟩
        have fin : J X B D 8 Q h2 (k + 100) (n + 1000) 1049 [(4, .int (nI i)), (3, .ref ou), (2, .ref m), (1, .ref x), (0, .ref b)] [] := kk h2 T1 _ _ _ _ (LW_fin W3 R3 M3 A3 K3 ta1 t11 t12 uo ho3)
        refine j_aload_n E dL_law_868 rfl ?_
        refine j_iconst (x := nI 0) E dL_law_869 (by decide) ?_
        refine j_laload E 0 dL_law_870 ho3 rfl (by omega) (by omega) ?_
        refine j_iload E dL_law_871 rfl ?_
        refine j_if_eq E (tgt := 880) dL_law_873 (by decide) (fun c4 => ?_) (fun c4 => ?_)
        ·
          refine j_lconst (x := lZ 0) E dL_law_880 (by decide) ?_
          refine j_lcmp E dL_law_881 ?_
          refine j_if_eq E (tgt := 887) dL_law_882 (by decide) (fun c3 => ?_) (fun c3 => ?_)
          ·
            refine j_goto E (tgt := 1049) dL_law_887 (by decide) ?_
            refine J.sub [(4, .int (nI i)), (3, .ref ou), (2, .ref m), (1, .ref x), (0, .ref b)] ⟨rfl, rfl, rfl, rfl, rfl, trivial⟩ ?_
            exact fin
          · exact absurd (cmp_eq.mpr (he.trans (lB_f (bI_z.mp c4)))) c3
        ·
          refine j_lconst (x := lZ 1) E dL_law_876 (by decide) ?_
          refine j_goto E (tgt := 881) dL_law_877 (by decide) ?_
          refine j_lcmp E dL_law_881 ?_
          refine j_if_eq E (tgt := 887) dL_law_882 (by decide) (fun c3 => ?_) (fun c3 => ?_)
          ·
            refine j_goto E (tgt := 1049) dL_law_887 (by decide) ?_
            refine J.sub [(4, .int (nI i)), (3, .ref ou), (2, .ref m), (1, .ref x), (0, .ref b)] ⟨rfl, rfl, rfl, rfl, rfl, trivial⟩ ?_
            exact fin
          · exact absurd (cmp_eq.mpr (he.trans (lB_t (bI_n.mp c4)))) c3
    · exact absurd rfl c1
  refine j_aload_n E dL_law_815 rfl ?_
  refine j_aload_n E dL_law_816 rfl ?_
  refine j_iload E dL_law_817 rfl ?_
  refine j_iconst (x := nI 1) E dL_law_819 (by decide) ?_
  refine j_iadd E dL_law_820 ?_
  refine j_sld E hX hb (i + 1) dL_law_821 (nI_add i 1) (by omega) (by omega) ?_
  refine j_aload_n E dL_law_822 rfl ?_
  refine j_iload E dL_law_823 rfl ?_
  refine j_iconst (x := nI 2) E dL_law_825 (by decide) ?_
  refine j_iadd E dL_law_826 ?_
  refine j_sld E hX hb (i + 2) dL_law_827 (nI_add i 2) (by omega) (by omega) ?_
  refine j_aload_n E dL_law_828 rfl ?_
  refine j_callW (np := 4) E hXN (w_used 0 R hw (xs (i + 1)) (xs (i + 2)) ho t2) gL_law_L_used rfl ⟨by decide, by decide, by decide +kernel⟩ dL_law_829 (by omega) (by decide) rfl rfl (Nat.le_of_ble_eq_true rfl) (by omega) (by omega) (fun r h1 p => ?_)
  obtain ⟨rfl, ⟨hc, rfl⟩ | ⟨hc, ans, ss1, kp1, rg1, cl1, T1, f1, hS, ho1, ha, F, R1⟩⟩ := p
  · exact mid h1 T f ss kp rg cl ⟨_, _, _, _, _, R⟩ M ta t1 t2 ho (Or.inl ⟨hc, rfl, rfl, rfl, rfl⟩)
  · obtain ⟨M1, ta1, t11⟩ := LW_over M ta t1 uo F
    exact mid h1 T1 f1 ss1 kp1 rg1 cl1 R1 M1 ta1 t11 F.2 ho1 (Or.inr ⟨hc, by rw [ha]; exact hS⟩)
theorem case_balance (E : JE X RL cL_law 8 wsL_law ret B E0 D l v mc ms) (hXN : XN (jx_s X)) (hX : va_X b N xs (jx_s X) (jx_s X).heap) (hb : b < (jx_s X).heap.size ∧ b < B) (hN : N ≤ 3073) (hv : 40 ≤ v) (hi : i + 5 < N) (S : LW E0 h T x m ou d ss kp rg cl) (hk2 : k + 100 ≤ mc) (hs2 : n + 1000 ≤ ms) (kk : ∀ (h2 : HM) (T2 : Nat → Nat) (ss2 : List SH) (kp2 : Option KPs) (rg2 : List Nat) (cl2 : Prop), LW E0 h2 T2 x m ou d ss2 kp2 rg2 cl2 → J X B D 8 Q h2 (k + 100) (n + 1000) 1049 [(4, .int (nI i)), (3, .ref ou), (2, .ref m), (1, .ref x), (0, .ref b)] []) : J X B D 8 Q h k n 890 [(4, .int (nI i)), (3, .ref ou), (2, .ref m), (1, .ref x), (0, .ref b)] [] := by
  obtain ⟨⟨hw, hkp, hu, hd⟩, ⟨gs, la, le, ra, kr, R⟩, ⟨a, s, I, G, M, A, K, ta⟩, t1, t2, uo, f, ho⟩ := S
  have hw0 := hw
  have mid : ∀ (h1 : HM) (T1 : Nat → Nat) (f1 : Nat → Int64) (ss1 : List SH) (kp1 : Option KPs) (rg1 : List Nat) (cl1 : Prop), CRx E0 h1 T1 x d ss1 kp1 rg1 cl1 → MR h1 h1 m a (lZ d) s I G → (∀ k, k ∈ mK → T1 (a k) = 0 ∧ a k ≠ ou) → T1 m = 0 → T1 ou = 0 → h1 ou = some (hJ 1 f1) → ((¬ cdBal (xs (i + 1)) (xs (i + 2)) = 0 ∧ ss1 = ss ∧ kp1 = kp ∧ rg1 = rg ∧ cl1 = cl) ∨ (cdBal (xs (i + 1)) (xs (i + 2)) = 0 ∧ (fun ans ss1 kp1 rg1 cl1 => ((kp = none ∧ ans = lZ 0) ∨ ∃ ps, kp = some ps ∧ ans = lZ (balU ps (xs (i + 1)) (xs (i + 2)) ps.length)) ∧ ss1 = ss ∧ kp1 = kp ∧ rg1 = rg ∧ cl1 = cl) (f1 0) ss1 kp1 rg1 cl1)) → J X B D 8 Q h1 (k + 1) (n + 6) 907 [(4, .int (nI i)), (3, .ref ou), (2, .ref m), (1, .ref x), (0, .ref b)] [.int (cdBal (xs (i + 1)) (xs (i + 2)))] := by
    intro h1 T1 f1 ss1 kp1 rg1 cl1 R1 M1 ta1 t11 t12 ho1 hS
    have mo := M1.obj
    refine j_istore E dL_law_907 (by decide) ?_
    refine j_aload_n E dL_law_909 rfl ?_
    refine j_aload_n E dL_law_910 rfl ?_
    refine j_iload E dL_law_911 rfl ?_
    refine j_iconst (x := nI 1) E dL_law_913 (by decide) ?_
    refine j_iadd E dL_law_914 ?_
    refine j_sld E hX hb (i + 1) dL_law_915 (nI_add i 1) (by omega) (by omega) ?_
    refine j_aload_n E dL_law_916 rfl ?_
    refine j_iload E dL_law_917 rfl ?_
    refine j_iconst (x := nI 2) E dL_law_919 (by decide) ?_
    refine j_iadd E dL_law_920 ?_
    refine j_sld E hX hb (i + 2) dL_law_921 (nI_add i 2) (by omega) (by omega) ?_
    refine j_callV (np := 2) (C := RX7) (T := TX7) (N := 27) (ci := 8) E (m_balance 0 M1 K hkp (xs (i + 1)) (xs (i + 2))) gL_law_X7_balance rfl ⟨rfl, by decide, by decide, by decide +kernel⟩ dL_law_922 (by omega) (by decide) rfl mo rfl rfl (Nat.le_of_ble_eq_true rfl) (by omega) (by omega) (fun r h2 p => ?_)
    obtain ⟨⟨y, rfl⟩, M2, pb⟩ := p
    refine J.wide (k' := k + 100) (n' := n + 1000) (by omega) (by omega) ?_
    obtain ⟨M3, R3, ho3⟩ := LW_step M2 R1 t11 ta1 uo ho1 M1
    have mo3 := M3.obj
    have e0 : uA s 0 _ 0 = _ := uA_eq s 0 (cdBal (xs (i + 1)) (xs (i + 2)))
    refine j_lstore E dL_law_925 (by decide) ?_
    refine j_aload_n E dL_law_927 rfl ?_
    refine j_callV (np := 0) (C := RX7) (T := TX7) (N := 27) (ci := 8) E (m_thrown 0 M3) gL_law_X7_thrown rfl ⟨rfl, by decide, by decide, by decide +kernel⟩ dL_law_928 (by omega) (by decide) rfl mo3 rfl rfl (Nat.le_of_ble_eq_true rfl) (by omega) (by omega) (fun r9 h9 p9 => J.pure p9 ?_)
    refine J.wide (k' := k + 100) (n' := n + 1000) (by omega) (by omega) ?_
    refine J.topi (x' := cdBal (xs (i + 1)) (xs (i + 2))) e0 ?_
    refine j_iload E dL_law_931 rfl ?_
    refine j_icmp_eq E (tgt := 938) dL_law_933 (by decide) (fun c1 => ?_) (fun c1 => ?_)
    ·
      refine j_iload E dL_law_938 rfl ?_
      refine j_if_ne E (tgt := 954) dL_law_940 (by decide) (fun c2 => ?_) (fun c2 => ?_)
      · obtain ⟨-, rfl, rfl, rfl, rfl⟩ := hS.resolve_right (fun z => c2 z.1)
        have K3 := K.keep ⟨rfl, rfl, rfl, rfl, rfl⟩ ⟨rfl, rfl, rfl⟩ rfl (s1 := uA s 0 (cdBal (xs (i + 1)) (xs (i + 2)))) (I1 := I) (G1 := G)
        have A3 : MA ss1 (uA s 0 (cdBal (xs (i + 1)) (xs (i + 2)))) I G := A.keep rfl ⟨rfl, rfl, rfl, rfl⟩ ⟨rfl, rfl, rfl⟩
        refine j_goto E (tgt := 1049) dL_law_954 (by decide) ?_
        refine J.sub [(4, .int (nI i)), (3, .ref ou), (2, .ref m), (1, .ref x), (0, .ref b)] ⟨rfl, rfl, rfl, rfl, rfl, trivial⟩ ?_
        exact kk h2 T1 _ _ _ _ (LW_fin ⟨hw0, hkp, hu, hd⟩ R3 M3 A3 K3 ta1 t11 t12 uo ho3)
      · obtain ⟨-, hS3⟩ := hS.resolve_left (fun z => z.1 c2)
        clear hS
        obtain ⟨hT, rfl, rfl, rfl, rfl⟩ := hS3
        obtain ⟨pb1, pb2⟩ := pb c2
        have he : f1 0 = y := by
          rcases hT with ⟨e1, e2⟩ | ⟨ps, e1, e2⟩
          · have ey := pb1 e1
            cases ey; exact e2
          · have ey := pb2 ps e1
            cases ey; exact e2
        have K3 := K.keep ⟨rfl, rfl, rfl, rfl, rfl⟩ ⟨rfl, rfl, rfl⟩ rfl (s1 := uA s 0 (cdBal (xs (i + 1)) (xs (i + 2)))) (I1 := I) (G1 := G)
        have A3 : MA ss1 (uA s 0 (cdBal (xs (i + 1)) (xs (i + 2)))) I G := A.keep rfl ⟨rfl, rfl, rfl, rfl⟩ ⟨rfl, rfl, rfl⟩
        have W3 : wfSS ss1 ∧ wfK kp1 ∧ UK kp1 ss1 ∧ 1 ≤ d ∧ d ≤ 65536 := ⟨hw0, hkp, hu, hd⟩
        have fin : J X B D 8 Q h2 (k + 100) (n + 1000) 1049 [(4, .int (nI i)), (3, .ref ou), (2, .ref m), (1, .ref x), (0, .ref b)] [] := kk h2 T1 _ _ _ _ (LW_fin W3 R3 M3 A3 K3 ta1 t11 t12 uo ho3)
        refine j_aload_n E dL_law_943 rfl ?_
        refine j_iconst (x := nI 0) E dL_law_944 (by decide) ?_
        refine j_laload E 0 dL_law_945 ho3 rfl (by omega) (by omega) ?_
        refine j_lload E dL_law_946 rfl ?_
        refine j_lcmp E dL_law_948 ?_
        refine j_if_eq E (tgt := 954) dL_law_949 (by decide) (fun c3 => ?_) (fun c3 => ?_)
        ·
          refine j_goto E (tgt := 1049) dL_law_954 (by decide) ?_
          refine J.sub [(4, .int (nI i)), (3, .ref ou), (2, .ref m), (1, .ref x), (0, .ref b)] ⟨rfl, rfl, rfl, rfl, rfl, trivial⟩ ?_
          exact fin
        · exact absurd (cmp_eq.mpr he) c3
    · exact absurd rfl c1
  refine j_aload_n E dL_law_890 rfl ?_
  refine j_aload_n E dL_law_891 rfl ?_
  refine j_iload E dL_law_892 rfl ?_
  refine j_iconst (x := nI 1) E dL_law_894 (by decide) ?_
  refine j_iadd E dL_law_895 ?_
  refine j_sld E hX hb (i + 1) dL_law_896 (nI_add i 1) (by omega) (by omega) ?_
  refine j_aload_n E dL_law_897 rfl ?_
  refine j_iload E dL_law_898 rfl ?_
  refine j_iconst (x := nI 2) E dL_law_900 (by decide) ?_
  refine j_iadd E dL_law_901 ?_
  refine j_sld E hX hb (i + 2) dL_law_902 (nI_add i 2) (by omega) (by omega) ?_
  refine j_aload_n E dL_law_903 rfl ?_
  refine j_callW (np := 4) E hXN (w_balance 0 R hw hkp (xs (i + 1)) (xs (i + 2)) ho t2) gL_law_L_balance rfl ⟨by decide, by decide, by decide +kernel⟩ dL_law_904 (by omega) (by decide) rfl rfl (Nat.le_of_ble_eq_true rfl) (by omega) (by omega) (fun r h1 p => ?_)
  obtain ⟨rfl, ⟨hc, rfl⟩ | ⟨hc, ans, ss1, kp1, rg1, cl1, T1, f1, hS, ho1, ha, F, R1⟩⟩ := p
  · exact mid h1 T f ss kp rg cl ⟨_, _, _, _, _, R⟩ M ta t1 t2 ho (Or.inl ⟨hc, rfl, rfl, rfl, rfl⟩)
  · obtain ⟨M1, ta1, t11⟩ := LW_over M ta t1 uo F
    exact mid h1 T1 f1 ss1 kp1 rg1 cl1 R1 M1 ta1 t11 F.2 ho1 (Or.inr ⟨hc, by rw [ha]; exact hS⟩)
theorem case_pair (E : JE X RL cL_law 8 wsL_law ret B E0 D l v mc ms) (hXN : XN (jx_s X)) (hX : va_X b N xs (jx_s X) (jx_s X).heap) (hb : b < (jx_s X).heap.size ∧ b < B) (hN : N ≤ 3073) (hv : 40 ≤ v) (hi : i + 5 < N) (S : LW E0 h T x m ou d ss kp rg cl) (hk2 : k + 100 ≤ mc) (hs2 : n + 1000 ≤ ms) (kk : ∀ (h2 : HM) (T2 : Nat → Nat) (ss2 : List SH) (kp2 : Option KPs) (rg2 : List Nat) (cl2 : Prop), LW E0 h2 T2 x m ou d ss2 kp2 rg2 cl2 → J X B D 8 Q h2 (k + 100) (n + 1000) 1049 [(4, .int (nI i)), (3, .ref ou), (2, .ref m), (1, .ref x), (0, .ref b)] []) : J X B D 8 Q h k n 957 [(4, .int (nI i)), (3, .ref ou), (2, .ref m), (1, .ref x), (0, .ref b)] [] := by
  obtain ⟨⟨hw, hkp, hu, hd⟩, ⟨gs, la, le, ra, kr, R⟩, ⟨a, s, I, G, M, A, K, ta⟩, t1, t2, uo, f, ho⟩ := S
  have hw0 := hw
  have mid : ∀ (h1 : HM) (T1 : Nat → Nat) (f1 : Nat → Int64) (ss1 : List SH) (kp1 : Option KPs) (rg1 : List Nat) (cl1 : Prop), CRx E0 h1 T1 x d ss1 kp1 rg1 cl1 → MR h1 h1 m a (lZ d) s I G → (∀ k, k ∈ mK → T1 (a k) = 0 ∧ a k ≠ ou) → T1 m = 0 → T1 ou = 0 → h1 ou = some (hJ 1 f1) → ((¬ cdPair ss (xs (i + 1)) (xs (i + 2)) = 0 ∧ ss1 = ss ∧ kp1 = kp ∧ rg1 = rg ∧ cl1 = cl) ∨ (cdPair ss (xs (i + 1)) (xs (i + 2)) = 0 ∧ (fun ans ss1 kp1 rg1 cl1 => (∃ K, (xs (i + 1)) = nI K ∧ K < 2 ^ 31 ∧ ((∃ p9 q9, kth (nW d ss) ss.length K p9 q9 ∧ ans = (if xs (i + 2) = 0 then nI p9 else nI q9).toInt64) ∨ (totC (nW d ss) ss.length ss.length ≤ K ∧ ans = (-1 : Int32).toInt64))) ∧ ss1 = ss ∧ kp1 = kp ∧ rg1 = rg ∧ cl1 = cl) (f1 0) ss1 kp1 rg1 cl1)) → J X B D 8 Q h1 (k + 1) (n + 6) 974 [(4, .int (nI i)), (3, .ref ou), (2, .ref m), (1, .ref x), (0, .ref b)] [.int (cdPair ss (xs (i + 1)) (xs (i + 2)))] := by
    intro h1 T1 f1 ss1 kp1 rg1 cl1 R1 M1 ta1 t11 t12 ho1 hS
    have mo := M1.obj
    refine j_istore E dL_law_974 (by decide) ?_
    refine j_aload_n E dL_law_976 rfl ?_
    refine j_aload_n E dL_law_977 rfl ?_
    refine j_iload E dL_law_978 rfl ?_
    refine j_iconst (x := nI 1) E dL_law_980 (by decide) ?_
    refine j_iadd E dL_law_981 ?_
    refine j_sld E hX hb (i + 1) dL_law_982 (nI_add i 1) (by omega) (by omega) ?_
    refine j_aload_n E dL_law_983 rfl ?_
    refine j_iload E dL_law_984 rfl ?_
    refine j_iconst (x := nI 2) E dL_law_986 (by decide) ?_
    refine j_iadd E dL_law_987 ?_
    refine j_sld E hX hb (i + 2) dL_law_988 (nI_add i 2) (by omega) (by omega) ?_
    refine j_callV (np := 2) (C := RX7) (T := TX7) (N := 27) (ci := 8) E (m_pair 0 M1 A hw hd (xs (i + 1)) (xs (i + 2))) gL_law_X7_pair rfl ⟨rfl, by decide, by decide, by decide +kernel⟩ dL_law_989 (by omega) (by decide) rfl mo rfl rfl (Nat.le_of_ble_eq_true rfl) (by omega) (by omega) (fun r h2 p => ?_)
    obtain ⟨⟨y, rfl⟩, s1, G1, M2, e0, q1, hG, pb⟩ := p
    refine J.wide (k' := k + 100) (n' := n + 1000) (by omega) (by omega) ?_
    obtain ⟨M3, R3, ho3⟩ := LW_step M2 R1 t11 ta1 uo ho1 M1
    have mo3 := M3.obj
    refine j_istore E dL_law_992 (by decide) ?_
    refine j_aload_n E dL_law_994 rfl ?_
    refine j_callV (np := 0) (C := RX7) (T := TX7) (N := 27) (ci := 8) E (m_thrown 0 M3) gL_law_X7_thrown rfl ⟨rfl, by decide, by decide, by decide +kernel⟩ dL_law_995 (by omega) (by decide) rfl mo3 rfl rfl (Nat.le_of_ble_eq_true rfl) (by omega) (by omega) (fun r9 h9 p9 => J.pure p9 ?_)
    refine J.wide (k' := k + 100) (n' := n + 1000) (by omega) (by omega) ?_
    refine J.topi (x' := cdPair ss (xs (i + 1)) (xs (i + 2))) e0 ?_
    refine j_iload E dL_law_998 rfl ?_
    refine j_icmp_eq E (tgt := 1005) dL_law_1000 (by decide) (fun c1 => ?_) (fun c1 => ?_)
    ·
      refine j_iload E dL_law_1005 rfl ?_
      refine j_if_ne E (tgt := 1022) dL_law_1007 (by decide) (fun c2 => ?_) (fun c2 => ?_)
      · obtain ⟨-, rfl, rfl, rfl, rfl⟩ := hS.resolve_right (fun z => c2 z.1)
        have K3 := K.keep ⟨q1 26 (by decide), q1 25 (by decide), q1 17 (by decide), q1 18 (by decide), q1 19 (by decide)⟩ ⟨rfl, rfl, rfl⟩ (hG 22 (by decide) (by decide))
        have A3 : MA ss1 s1 I G1 := (A.gk hG).keep (q1 2 (by decide)) ⟨rfl, rfl, rfl, rfl⟩ ⟨rfl, rfl, rfl⟩
        refine j_goto E (tgt := 1049) dL_law_1022 (by decide) ?_
        refine J.sub [(4, .int (nI i)), (3, .ref ou), (2, .ref m), (1, .ref x), (0, .ref b)] ⟨rfl, rfl, rfl, rfl, rfl, trivial⟩ ?_
        exact kk h2 T1 _ _ _ _ (LW_fin ⟨hw0, hkp, hu, hd⟩ R3 M3 A3 K3 ta1 t11 t12 uo ho3)
      · obtain ⟨-, hS3⟩ := hS.resolve_left (fun z => z.1 c2)
        clear hS
        obtain ⟨⟨K0, hz, hK0, hT⟩, rfl, rfl, rfl, rfl⟩ := hS3
        have he : f1 0 = y.toInt64 := by
          rcases hT with ⟨i1, j1, e1, e2⟩ | ⟨e1, e2⟩
          · rcases pb c2 K0 hK0 hz with ⟨i2, j2, e3, ey⟩ | ⟨e3, -⟩
            · obtain ⟨rfl, rfl⟩ := kth_one e1 ((kth_eq hw).mp e3)
              cases ey; exact e2
            · have := kth_no e1
              rw [tot_eq hw] at e3
              omega
          · rcases pb c2 K0 hK0 hz with ⟨i2, j2, e3, -⟩ | ⟨-, ey⟩
            · have := kth_no ((kth_eq hw).mp e3)
              omega
            · cases ey; exact e2
        have K3 := K.keep ⟨q1 26 (by decide), q1 25 (by decide), q1 17 (by decide), q1 18 (by decide), q1 19 (by decide)⟩ ⟨rfl, rfl, rfl⟩ (hG 22 (by decide) (by decide))
        have A3 : MA ss1 s1 I G1 := (A.gk hG).keep (q1 2 (by decide)) ⟨rfl, rfl, rfl, rfl⟩ ⟨rfl, rfl, rfl⟩
        have W3 : wfSS ss1 ∧ wfK kp1 ∧ UK kp1 ss1 ∧ 1 ≤ d ∧ d ≤ 65536 := ⟨hw0, hkp, hu, hd⟩
        have fin : J X B D 8 Q h2 (k + 100) (n + 1000) 1049 [(4, .int (nI i)), (3, .ref ou), (2, .ref m), (1, .ref x), (0, .ref b)] [] := kk h2 T1 _ _ _ _ (LW_fin W3 R3 M3 A3 K3 ta1 t11 t12 uo ho3)
        refine j_aload_n E dL_law_1010 rfl ?_
        refine j_iconst (x := nI 0) E dL_law_1011 (by decide) ?_
        refine j_laload E 0 dL_law_1012 ho3 rfl (by omega) (by omega) ?_
        refine j_iload E dL_law_1013 rfl ?_
        refine j_i2l E dL_law_1015 ?_
        refine j_lcmp E dL_law_1016 ?_
        refine j_if_eq E (tgt := 1022) dL_law_1017 (by decide) (fun c3 => ?_) (fun c3 => ?_)
        ·
          refine j_goto E (tgt := 1049) dL_law_1022 (by decide) ?_
          refine J.sub [(4, .int (nI i)), (3, .ref ou), (2, .ref m), (1, .ref x), (0, .ref b)] ⟨rfl, rfl, rfl, rfl, rfl, trivial⟩ ?_
          exact fin
        · exact absurd (cmp_eq.mpr he) c3
    · exact absurd rfl c1
  refine j_aload_n E dL_law_957 rfl ?_
  refine j_aload_n E dL_law_958 rfl ?_
  refine j_iload E dL_law_959 rfl ?_
  refine j_iconst (x := nI 1) E dL_law_961 (by decide) ?_
  refine j_iadd E dL_law_962 ?_
  refine j_sld E hX hb (i + 1) dL_law_963 (nI_add i 1) (by omega) (by omega) ?_
  refine j_aload_n E dL_law_964 rfl ?_
  refine j_iload E dL_law_965 rfl ?_
  refine j_iconst (x := nI 2) E dL_law_967 (by decide) ?_
  refine j_iadd E dL_law_968 ?_
  refine j_sld E hX hb (i + 2) dL_law_969 (nI_add i 2) (by omega) (by omega) ?_
  refine j_aload_n E dL_law_970 rfl ?_
  refine j_callW (np := 4) E hXN (w_pair 0 R hw (xs (i + 1)) (xs (i + 2)) ho t2) gL_law_L_pair rfl ⟨by decide, by decide, by decide +kernel⟩ dL_law_971 (by omega) (by decide) rfl rfl (Nat.le_of_ble_eq_true rfl) (by omega) (by omega) (fun r h1 p => ?_)
  obtain ⟨rfl, ⟨hc, rfl⟩ | ⟨hc, ans, ss1, kp1, rg1, cl1, T1, f1, hS, ho1, ha, F, R1⟩⟩ := p
  · exact mid h1 T f ss kp rg cl ⟨_, _, _, _, _, R⟩ M ta t1 t2 ho (Or.inl ⟨hc, rfl, rfl, rfl, rfl⟩)
  · obtain ⟨M1, ta1, t11⟩ := LW_over M ta t1 uo F
    exact mid h1 T1 f1 ss1 kp1 rg1 cl1 R1 M1 ta1 t11 F.2 ho1 (Or.inr ⟨hc, by rw [ha]; exact hS⟩)
end LCS
