/-! the law, case by case -/
section LCS
variable {X : JC} {ret : Option FieldType} {B E0 : Nat} {D : va_G} {l : Launch} {v mc ms : Nat} {Q : State → Prop} {h : HM} {k n : Nat} {b N : Nat} {xs : Nat → Int32} {i : Nat} {T : Nat → Nat} {x m ou : Nat} {d : Int} {ss : List SH} {kp : Option KPs} {rg : List Nat} {cl : Prop}
theorem case_near (E : JE X RL cL_law 8 wsL_law ret B E0 D l v mc ms) (hXN : XN (jx_s X)) (hX : va_X b N xs (jx_s X) (jx_s X).heap) (hb : b < (jx_s X).heap.size ∧ b < B) (hN : N ≤ 3073) (hv : 40 ≤ v) (hi : i + 5 < N) (S : LW E0 h T x m ou d ss kp rg cl) (hk2 : k + 100 ≤ mc) (hs2 : n + 1000 ≤ ms) (kk : ∀ (h2 : HM) (T2 : Nat → Nat) (ss2 : List SH) (kp2 : Option KPs) (rg2 : List Nat) (cl2 : Prop), LW E0 h2 T2 x m ou d ss2 kp2 rg2 cl2 → J X B D 8 Q h2 (k + 100) (n + 1000) 1049 [(4, .int (nI i)), (3, .ref ou), (2, .ref m), (1, .ref x), (0, .ref b)] []) : J X B D 8 Q h k n 323 [(4, .int (nI i)), (3, .ref ou), (2, .ref m), (1, .ref x), (0, .ref b)] [] := by
  obtain ⟨⟨hw, hkp, hu, hd⟩, ⟨gs, la, le, ra, kr, R⟩, ⟨a, s, I, G, M, A, K, ta⟩, t1, t2, uo, f, ho⟩ := S
  have hw0 := hw
  have mid : ∀ (h1 : HM) (T1 : Nat → Nat) (f1 : Nat → Int64) (ss1 : List SH) (kp1 : Option KPs) (rg1 : List Nat) (cl1 : Prop), CRx E0 h1 T1 x d ss1 kp1 rg1 cl1 → MR h1 h1 m a (lZ d) s I G → (∀ k, k ∈ mK → T1 (a k) = 0 ∧ a k ≠ ou) → T1 m = 0 → T1 ou = 0 → h1 ou = some (hJ 1 f1) → ((¬ cdNear ss = 0 ∧ ss1 = ss ∧ kp1 = kp ∧ rg1 = rg ∧ cl1 = cl) ∨ (cdNear ss = 0 ∧ (fun ans ss1 kp1 rg1 cl1 => ans = (nI (totC (nW d ss) ss.length ss.length)).toInt64 ∧ ss1 = ss ∧ kp1 = kp ∧ rg1 = rg ∧ cl1 = cl) (f1 0) ss1 kp1 rg1 cl1)) → J X B D 8 Q h1 (k + 1) (n + 6) 328 [(4, .int (nI i)), (3, .ref ou), (2, .ref m), (1, .ref x), (0, .ref b)] [.int (cdNear ss)] := by
    intro h1 T1 f1 ss1 kp1 rg1 cl1 R1 M1 ta1 t11 t12 ho1 hS
    have mo := M1.obj
    refine j_istore E dL_law_328 (by decide) ?_
    refine j_aload_n E dL_law_330 rfl ?_
    refine j_callV (np := 0) (C := RX7) (T := TX7) (N := 27) (ci := 8) E (m_near 0 M1 A hw hd) gL_law_X7_near rfl ⟨rfl, by decide, by decide, by decide +kernel⟩ dL_law_331 (by omega) (by decide) rfl mo rfl rfl (Nat.le_of_ble_eq_true rfl) (by omega) (by omega) (fun r h2 p => ?_)
    obtain ⟨⟨y, rfl⟩, s1, G1, M2, e0, q1, hG, pb⟩ := p
    refine J.wide (k' := k + 100) (n' := n + 1000) (by omega) (by omega) ?_
    obtain ⟨M3, R3, ho3⟩ := LW_step M2 R1 t11 ta1 uo ho1 M1
    have mo3 := M3.obj
    refine j_istore E dL_law_334 (by decide) ?_
    refine j_aload_n E dL_law_336 rfl ?_
    refine j_callV (np := 0) (C := RX7) (T := TX7) (N := 27) (ci := 8) E (m_thrown 0 M3) gL_law_X7_thrown rfl ⟨rfl, by decide, by decide, by decide +kernel⟩ dL_law_337 (by omega) (by decide) rfl mo3 rfl rfl (Nat.le_of_ble_eq_true rfl) (by omega) (by omega) (fun r9 h9 p9 => J.pure p9 ?_)
    refine J.wide (k' := k + 100) (n' := n + 1000) (by omega) (by omega) ?_
    refine J.topi (x' := cdNear ss) e0 ?_
    refine j_iload E dL_law_340 rfl ?_
    refine j_icmp_eq E (tgt := 347) dL_law_342 (by decide) (fun c1 => ?_) (fun c1 => ?_)
    ·
      refine j_iload E dL_law_347 rfl ?_
      refine j_if_ne E (tgt := 364) dL_law_349 (by decide) (fun c2 => ?_) (fun c2 => ?_)
      · obtain ⟨-, rfl, rfl, rfl, rfl⟩ := hS.resolve_right (fun z => c2 z.1)
        have K3 := K.keep ⟨q1 26 (by decide), q1 25 (by decide), q1 17 (by decide), q1 18 (by decide), q1 19 (by decide)⟩ ⟨rfl, rfl, rfl⟩ (hG 22 (by decide) (by decide))
        have A3 : MA ss1 s1 I G1 := (A.gk hG).keep (q1 2 (by decide)) ⟨rfl, rfl, rfl, rfl⟩ ⟨rfl, rfl, rfl⟩
        refine j_goto E (tgt := 1049) dL_law_364 (by decide) ?_
        refine J.sub [(4, .int (nI i)), (3, .ref ou), (2, .ref m), (1, .ref x), (0, .ref b)] ⟨rfl, rfl, rfl, rfl, rfl, trivial⟩ ?_
        exact kk h2 T1 _ _ _ _ (LW_fin ⟨hw0, hkp, hu, hd⟩ R3 M3 A3 K3 ta1 t11 t12 uo ho3)
      · obtain ⟨-, hS3⟩ := hS.resolve_left (fun z => z.1 c2)
        clear hS
        obtain ⟨he, rfl, rfl, rfl, rfl⟩ := hS3
        have ey := pb c2
        rw [tot_eq hw] at ey
        cases ey
        have K3 := K.keep ⟨q1 26 (by decide), q1 25 (by decide), q1 17 (by decide), q1 18 (by decide), q1 19 (by decide)⟩ ⟨rfl, rfl, rfl⟩ (hG 22 (by decide) (by decide))
        have A3 : MA ss1 s1 I G1 := (A.gk hG).keep (q1 2 (by decide)) ⟨rfl, rfl, rfl, rfl⟩ ⟨rfl, rfl, rfl⟩
        have W3 : wfSS ss1 ∧ wfK kp1 ∧ UK kp1 ss1 ∧ 1 ≤ d ∧ d ≤ 65536 := ⟨hw0, hkp, hu, hd⟩
        have fin : J X B D 8 Q h2 (k + 100) (n + 1000) 1049 [(4, .int (nI i)), (3, .ref ou), (2, .ref m), (1, .ref x), (0, .ref b)] [] := kk h2 T1 _ _ _ _ (LW_fin W3 R3 M3 A3 K3 ta1 t11 t12 uo ho3)
        refine j_aload_n E dL_law_352 rfl ?_
        refine j_iconst (x := nI 0) E dL_law_353 (by decide) ?_
        refine j_laload E 0 dL_law_354 ho3 rfl (by omega) (by omega) ?_
        refine j_iload E dL_law_355 rfl ?_
        refine j_i2l E dL_law_357 ?_
        refine j_lcmp E dL_law_358 ?_
        refine j_if_eq E (tgt := 364) dL_law_359 (by decide) (fun c3 => ?_) (fun c3 => ?_)
        ·
          refine j_goto E (tgt := 1049) dL_law_364 (by decide) ?_
          refine J.sub [(4, .int (nI i)), (3, .ref ou), (2, .ref m), (1, .ref x), (0, .ref b)] ⟨rfl, rfl, rfl, rfl, rfl, trivial⟩ ?_
          exact fin
        · exact absurd (cmp_eq.mpr he) c3
    · exact absurd rfl c1
  refine j_aload_n E dL_law_323 rfl ?_
  refine j_aload_n E dL_law_324 rfl ?_
  refine j_callW (np := 2) E hXN (w_near 0 R hw ho t2) gL_law_L_near rfl ⟨by decide, by decide, by decide +kernel⟩ dL_law_325 (by omega) (by decide) rfl rfl (Nat.le_of_ble_eq_true rfl) (by omega) (by omega) (fun r h1 p => ?_)
  obtain ⟨rfl, ⟨hc, rfl⟩ | ⟨hc, ans, ss1, kp1, rg1, cl1, T1, f1, hS, ho1, ha, F, R1⟩⟩ := p
  · exact mid h1 T f ss kp rg cl ⟨_, _, _, _, _, R⟩ M ta t1 t2 ho (Or.inl ⟨hc, rfl, rfl, rfl, rfl⟩)
  · obtain ⟨M1, ta1, t11⟩ := LW_over M ta t1 uo F
    exact mid h1 T1 f1 ss1 kp1 rg1 cl1 R1 M1 ta1 t11 F.2 ho1 (Or.inr ⟨hc, by rw [ha]; exact hS⟩)
theorem case_run (E : JE X RL cL_law 8 wsL_law ret B E0 D l v mc ms) (hXN : XN (jx_s X)) (hX : va_X b N xs (jx_s X) (jx_s X).heap) (hb : b < (jx_s X).heap.size ∧ b < B) (hN : N ≤ 3073) (hv : 40 ≤ v) (hi : i + 5 < N) (S : LW E0 h T x m ou d ss kp rg cl) (hk2 : k + 100 ≤ mc) (hs2 : n + 1000 ≤ ms) (kk : ∀ (h2 : HM) (T2 : Nat → Nat) (ss2 : List SH) (kp2 : Option KPs) (rg2 : List Nat) (cl2 : Prop), LW E0 h2 T2 x m ou d ss2 kp2 rg2 cl2 → J X B D 8 Q h2 (k + 100) (n + 1000) 1049 [(4, .int (nI i)), (3, .ref ou), (2, .ref m), (1, .ref x), (0, .ref b)] []) : J X B D 8 Q h k n 367 [(4, .int (nI i)), (3, .ref ou), (2, .ref m), (1, .ref x), (0, .ref b)] [] := by
  obtain ⟨⟨hw, hkp, hu, hd⟩, ⟨gs, la, le, ra, kr, R⟩, ⟨a, s, I, G, M, A, K, ta⟩, t1, t2, uo, f, ho⟩ := S
  have hw0 := hw
  have mid : ∀ (h1 : HM) (T1 : Nat → Nat) (f1 : Nat → Int64) (ss1 : List SH) (kp1 : Option KPs) (rg1 : List Nat) (cl1 : Prop), CRx E0 h1 T1 x d ss1 kp1 rg1 cl1 → MR h1 h1 m a (lZ d) s I G → (∀ k, k ∈ mK → T1 (a k) = 0 ∧ a k ≠ ou) → T1 m = 0 → T1 ou = 0 → h1 ou = some (hJ 1 f1) → ((¬ cdRun ss (xs (i + 1)) (lw2 (xs (i + 2)) (xs (i + 3))) = 0 ∧ ss1 = ss ∧ kp1 = kp ∧ rg1 = rg ∧ cl1 = cl) ∨ (cdRun ss (xs (i + 1)) (lw2 (xs (i + 2)) (xs (i + 3))) = 0 ∧ (fun ans ss1 kp1 rg1 cl1 => ss1 = ss ∧ ((¬ lZ (tS ss ss.length : Nat) ≤ (lw2 (xs (i + 2)) (xs (i + 3))) ∧ ans = (Int32.ofNat 2).toInt64 ∧ kp1 = kp ∧ rg1 = rg ∧ cl1 = False) ∨ (lZ (tS ss ss.length : Nat) ≤ (lw2 (xs (i + 2)) (xs (i + 3))) ∧ ∃ many, many ≤ 4 ∧ xs (i + 1) = nI many ∧ runR d ss many kp1 rg1 ∧ cl1 = True ∧ ((kp1 = none ∧ ans = (Int32.ofNat 1).toInt64) ∨ (¬ kp1 = none ∧ ans = (Int32.ofNat 0).toInt64))))) (f1 0) ss1 kp1 rg1 cl1)) → J X B D 8 Q h1 (k + 80) (n + 640) 400 [(4, .int (nI i)), (3, .ref ou), (2, .ref m), (1, .ref x), (0, .ref b)] [.int (cdRun ss (xs (i + 1)) (lw2 (xs (i + 2)) (xs (i + 3))))] := by
    intro h1 T1 f1 ss1 kp1 rg1 cl1 R1 M1 ta1 t11 t12 ho1 hS
    have mo := M1.obj
    refine j_istore E dL_law_400 (by decide) ?_
    refine j_aload_n E dL_law_402 rfl ?_
    refine j_aload_n E dL_law_403 rfl ?_
    refine j_iload E dL_law_404 rfl ?_
    refine j_iconst (x := nI 1) E dL_law_406 (by decide) ?_
    refine j_iadd E dL_law_407 ?_
    refine j_sld E hX hb (i + 1) dL_law_408 (nI_add i 1) (by omega) (by omega) ?_
    refine j_aload_n E dL_law_409 rfl ?_
    refine j_iload E dL_law_410 rfl ?_
    refine j_iconst (x := nI 2) E dL_law_412 (by decide) ?_
    refine j_iadd E dL_law_413 ?_
    refine j_sld E hX hb (i + 2) dL_law_414 (nI_add i 2) (by omega) (by omega) ?_
    refine j_i2l E dL_law_415 ?_
    refine j_bipush (x := nI 32) E dL_law_416 (by decide) ?_
    refine j_lshl E dL_law_418 rfl ?_
    refine j_aload_n E dL_law_419 rfl ?_
    refine j_iload E dL_law_420 rfl ?_
    refine j_iconst (x := nI 3) E dL_law_422 (by decide) ?_
    refine j_iadd E dL_law_423 ?_
    refine j_sld E hX hb (i + 3) dL_law_424 (nI_add i 3) (by omega) (by omega) ?_
    refine j_i2l E dL_law_425 ?_
    refine j_ldc2 E (x := lZ (4294967295)) dL_law_426 (show Cond.constantLong _ _ (4294967295) ∈ _ by decide +kernel) ?_
    refine j_land E dL_law_429 ?_
    refine j_lor E dL_law_430 ?_
    refine J.topl (x' := lw2 (xs (i + 2)) (xs (i + 3))) (rfl) ?_
    refine j_callV (np := 2) (C := RX7) (T := TX7) (N := 27) (ci := 8) E (m_run 0 M1 A hw hd K (xs (i + 1)) (lw2 (xs (i + 2)) (xs (i + 3)))) gL_law_X7_run rfl ⟨rfl, by decide, by decide, by decide +kernel⟩ dL_law_431 (by omega) (by decide) rfl mo rfl rfl (Nat.le_of_ble_eq_true rfl) (by omega) (by omega) (fun r h2 p => ?_)
    obtain ⟨⟨y, rfl⟩, s1, I1, G1, M2, A3, e0, pa, pb⟩ := p
    refine J.wide (k' := k + 100) (n' := n + 1000) (by omega) (by omega) ?_
    obtain ⟨M3, R3, ho3⟩ := LW_step M2 R1 t11 ta1 uo ho1 M1
    have mo3 := M3.obj
    refine j_istore E dL_law_434 (by decide) ?_
    refine j_aload_n E dL_law_436 rfl ?_
    refine j_callV (np := 0) (C := RX7) (T := TX7) (N := 27) (ci := 8) E (m_thrown 0 M3) gL_law_X7_thrown rfl ⟨rfl, by decide, by decide, by decide +kernel⟩ dL_law_437 (by omega) (by decide) rfl mo3 rfl rfl (Nat.le_of_ble_eq_true rfl) (by omega) (by omega) (fun r9 h9 p9 => J.pure p9 ?_)
    refine J.wide (k' := k + 100) (n' := n + 1000) (by omega) (by omega) ?_
    refine J.topi (x' := cdRun ss (xs (i + 1)) (lw2 (xs (i + 2)) (xs (i + 3)))) e0 ?_
    refine j_iload E dL_law_440 rfl ?_
    refine j_icmp_eq E (tgt := 447) dL_law_442 (by decide) (fun c1 => ?_) (fun c1 => ?_)
    ·
      refine j_iload E dL_law_447 rfl ?_
      refine j_if_ne E (tgt := 464) dL_law_449 (by decide) (fun c2 => ?_) (fun c2 => ?_)
      · obtain ⟨-, rfl, rfl, rfl, rfl⟩ := hS.resolve_right (fun z => c2 z.1)
        have K3 := pa c2
        refine j_goto E (tgt := 1049) dL_law_464 (by decide) ?_
        refine J.sub [(4, .int (nI i)), (3, .ref ou), (2, .ref m), (1, .ref x), (0, .ref b)] ⟨rfl, rfl, rfl, rfl, rfl, trivial⟩ ?_
        exact kk h2 T1 _ _ _ _ (LW_fin ⟨hw0, hkp, hu, hd⟩ R3 M3 A3 K3 ta1 t11 t12 uo ho3)
      · obtain ⟨-, hS3⟩ := hS.resolve_left (fun z => z.1 c2)
        clear hS
        obtain ⟨rfl, hT⟩ := hS3
        obtain ⟨pb1, pb2⟩ := pb c2
        have main : (wfSS ss1 ∧ wfK kp1 ∧ UK kp1 ss1 ∧ 1 ≤ d ∧ d ≤ 65536) ∧ MK kp1 rg1 cl1 s1 I1 G1 ∧ f1 0 = y.toInt64 := by
          rcases hT with ⟨hle, he, rfl, rfl, rfl⟩ | ⟨hle, many, m4, hz, run, rfl, hr⟩
          · obtain ⟨K3, ey⟩ := pb1 hle
            cases ey
            exact ⟨⟨hw0, hkp, hu, hd⟩, K3, he⟩
          · obtain ⟨kp2, rg2, run2, K3, hr2⟩ := pb2 hle many m4 hz
            obtain ⟨rfl, rfl⟩ := runR_one run run2
            obtain ⟨w1, w2⟩ := runR_wf hw m4 run
            refine ⟨⟨hw0, w1, w2, hd⟩, K3, ?_⟩
            rcases hr with ⟨k0, he⟩ | ⟨k0, he⟩
            · rcases hr2 with ⟨-, ey⟩ | ⟨k1, -⟩
              · cases ey; exact he
              · exact absurd k0 k1
            · rcases hr2 with ⟨k1, -⟩ | ⟨-, ey⟩
              · exact absurd k1 k0
              · cases ey; exact he
        obtain ⟨W3, K3, he⟩ := main
        have fin : J X B D 8 Q h2 (k + 100) (n + 1000) 1049 [(4, .int (nI i)), (3, .ref ou), (2, .ref m), (1, .ref x), (0, .ref b)] [] := kk h2 T1 _ _ _ _ (LW_fin W3 R3 M3 A3 K3 ta1 t11 t12 uo ho3)
        refine j_aload_n E dL_law_452 rfl ?_
        refine j_iconst (x := nI 0) E dL_law_453 (by decide) ?_
        refine j_laload E 0 dL_law_454 ho3 rfl (by omega) (by omega) ?_
        refine j_iload E dL_law_455 rfl ?_
        refine j_i2l E dL_law_457 ?_
        refine j_lcmp E dL_law_458 ?_
        refine j_if_eq E (tgt := 464) dL_law_459 (by decide) (fun c3 => ?_) (fun c3 => ?_)
        ·
          refine j_goto E (tgt := 1049) dL_law_464 (by decide) ?_
          refine J.sub [(4, .int (nI i)), (3, .ref ou), (2, .ref m), (1, .ref x), (0, .ref b)] ⟨rfl, rfl, rfl, rfl, rfl, trivial⟩ ?_
          exact fin
        · exact absurd (cmp_eq.mpr he) c3
    · exact absurd rfl c1
  refine j_aload_n E dL_law_367 rfl ?_
  refine j_aload_n E dL_law_368 rfl ?_
  refine j_iload E dL_law_369 rfl ?_
  refine j_iconst (x := nI 1) E dL_law_371 (by decide) ?_
  refine j_iadd E dL_law_372 ?_
  refine j_sld E hX hb (i + 1) dL_law_373 (nI_add i 1) (by omega) (by omega) ?_
  refine j_aload_n E dL_law_374 rfl ?_
  refine j_iload E dL_law_375 rfl ?_
  refine j_iconst (x := nI 2) E dL_law_377 (by decide) ?_
  refine j_iadd E dL_law_378 ?_
  refine j_sld E hX hb (i + 2) dL_law_379 (nI_add i 2) (by omega) (by omega) ?_
  refine j_i2l E dL_law_380 ?_
  refine j_bipush (x := nI 32) E dL_law_381 (by decide) ?_
  refine j_lshl E dL_law_383 rfl ?_
  refine j_aload_n E dL_law_384 rfl ?_
  refine j_iload E dL_law_385 rfl ?_
  refine j_iconst (x := nI 3) E dL_law_387 (by decide) ?_
  refine j_iadd E dL_law_388 ?_
  refine j_sld E hX hb (i + 3) dL_law_389 (nI_add i 3) (by omega) (by omega) ?_
  refine j_i2l E dL_law_390 ?_
  refine j_ldc2 E (x := lZ (4294967295)) dL_law_391 (show Cond.constantLong _ _ (4294967295) ∈ _ by decide +kernel) ?_
  refine j_land E dL_law_394 ?_
  refine j_lor E dL_law_395 ?_
  refine J.topl (x' := lw2 (xs (i + 2)) (xs (i + 3))) (rfl) ?_
  refine j_aload_n E dL_law_396 rfl ?_
  refine j_callW (np := 4) E hXN (w_run 0 R hw hd (xs (i + 1)) (lw2 (xs (i + 2)) (xs (i + 3))) ho t2) gL_law_L_run rfl ⟨by decide, by decide, by decide +kernel⟩ dL_law_397 (by omega) (by decide) rfl rfl (Nat.le_of_ble_eq_true rfl) (by omega) (by omega) (fun r h1 p => ?_)
  obtain ⟨rfl, ⟨hc, rfl⟩ | ⟨hc, ans, ss1, kp1, rg1, cl1, T1, f1, hS, ho1, ha, F, R1⟩⟩ := p
  · exact mid h1 T f ss kp rg cl ⟨_, _, _, _, _, R⟩ M ta t1 t2 ho (Or.inl ⟨hc, rfl, rfl, rfl, rfl⟩)
  · obtain ⟨M1, ta1, t11⟩ := LW_over M ta t1 uo F
    exact mid h1 T1 f1 ss1 kp1 rg1 cl1 R1 M1 ta1 t11 F.2 ho1 (Or.inr ⟨hc, by rw [ha]; exact hS⟩)
theorem case_colour (E : JE X RL cL_law 8 wsL_law ret B E0 D l v mc ms) (hXN : XN (jx_s X)) (hX : va_X b N xs (jx_s X) (jx_s X).heap) (hb : b < (jx_s X).heap.size ∧ b < B) (hN : N ≤ 3073) (hv : 40 ≤ v) (hi : i + 5 < N) (S : LW E0 h T x m ou d ss kp rg cl) (hk2 : k + 100 ≤ mc) (hs2 : n + 1000 ≤ ms) (kk : ∀ (h2 : HM) (T2 : Nat → Nat) (ss2 : List SH) (kp2 : Option KPs) (rg2 : List Nat) (cl2 : Prop), LW E0 h2 T2 x m ou d ss2 kp2 rg2 cl2 → J X B D 8 Q h2 (k + 100) (n + 1000) 1049 [(4, .int (nI i)), (3, .ref ou), (2, .ref m), (1, .ref x), (0, .ref b)] []) : J X B D 8 Q h k n 467 [(4, .int (nI i)), (3, .ref ou), (2, .ref m), (1, .ref x), (0, .ref b)] [] := by
  obtain ⟨⟨hw, hkp, hu, hd⟩, ⟨gs, la, le, ra, kr, R⟩, ⟨a, s, I, G, M, A, K, ta⟩, t1, t2, uo, f, ho⟩ := S
  have hw0 := hw
  have mid : ∀ (h1 : HM) (T1 : Nat → Nat) (f1 : Nat → Int64) (ss1 : List SH) (kp1 : Option KPs) (rg1 : List Nat) (cl1 : Prop), CRx E0 h1 T1 x d ss1 kp1 rg1 cl1 → MR h1 h1 m a (lZ d) s I G → (∀ k, k ∈ mK → T1 (a k) = 0 ∧ a k ≠ ou) → T1 m = 0 → T1 ou = 0 → h1 ou = some (hJ 1 f1) → ((¬ cdColour ss (xs (i + 1)) = 0 ∧ ss1 = ss ∧ kp1 = kp ∧ rg1 = rg ∧ cl1 = cl) ∨ (cdColour ss (xs (i + 1)) = 0 ∧ (fun ans ss1 kp1 rg1 cl1 => (∃ j, j < ss.length ∧ xs (i + 1) = nI j ∧ ((∃ ps f, kp = some ps ∧ isF ps j f ∧ ans = (nI (kC ps f)).toInt64) ∨ ((∀ ps f, kp = some ps → ¬ isF ps j f) ∧ ans = (-1 : Int32).toInt64))) ∧ ss1 = ss ∧ kp1 = kp ∧ rg1 = rg ∧ cl1 = cl) (f1 0) ss1 kp1 rg1 cl1)) → J X B D 8 Q h1 (k + 1) (n + 6) 478 [(4, .int (nI i)), (3, .ref ou), (2, .ref m), (1, .ref x), (0, .ref b)] [.int (cdColour ss (xs (i + 1)))] := by
    intro h1 T1 f1 ss1 kp1 rg1 cl1 R1 M1 ta1 t11 t12 ho1 hS
    have mo := M1.obj
    refine j_istore E dL_law_478 (by decide) ?_
    refine j_aload_n E dL_law_480 rfl ?_
    refine j_aload_n E dL_law_481 rfl ?_
    refine j_iload E dL_law_482 rfl ?_
    refine j_iconst (x := nI 1) E dL_law_484 (by decide) ?_
    refine j_iadd E dL_law_485 ?_
    refine j_sld E hX hb (i + 1) dL_law_486 (nI_add i 1) (by omega) (by omega) ?_
    refine j_callV (np := 1) (C := RX7) (T := TX7) (N := 27) (ci := 8) E (m_colour 0 M1 A hw K hkp (xs (i + 1))) gL_law_X7_colour rfl ⟨rfl, by decide, by decide, by decide +kernel⟩ dL_law_487 (by omega) (by decide) rfl mo rfl rfl (Nat.le_of_ble_eq_true rfl) (by omega) (by omega) (fun r h2 p => ?_)
    obtain ⟨⟨y, rfl⟩, M2, pb⟩ := p
    refine J.wide (k' := k + 100) (n' := n + 1000) (by omega) (by omega) ?_
    obtain ⟨M3, R3, ho3⟩ := LW_step M2 R1 t11 ta1 uo ho1 M1
    have mo3 := M3.obj
    have e0 : uA s 0 _ 0 = _ := uA_eq s 0 (cdColour ss (xs (i + 1)))
    refine j_istore E dL_law_490 (by decide) ?_
    refine j_aload_n E dL_law_492 rfl ?_
    refine j_callV (np := 0) (C := RX7) (T := TX7) (N := 27) (ci := 8) E (m_thrown 0 M3) gL_law_X7_thrown rfl ⟨rfl, by decide, by decide, by decide +kernel⟩ dL_law_493 (by omega) (by decide) rfl mo3 rfl rfl (Nat.le_of_ble_eq_true rfl) (by omega) (by omega) (fun r9 h9 p9 => J.pure p9 ?_)
    refine J.wide (k' := k + 100) (n' := n + 1000) (by omega) (by omega) ?_
    refine J.topi (x' := cdColour ss (xs (i + 1))) e0 ?_
    refine j_iload E dL_law_496 rfl ?_
    refine j_icmp_eq E (tgt := 503) dL_law_498 (by decide) (fun c1 => ?_) (fun c1 => ?_)
    ·
      refine j_iload E dL_law_503 rfl ?_
      refine j_if_ne E (tgt := 520) dL_law_505 (by decide) (fun c2 => ?_) (fun c2 => ?_)
      · obtain ⟨-, rfl, rfl, rfl, rfl⟩ := hS.resolve_right (fun z => c2 z.1)
        have K3 := K.keep ⟨rfl, rfl, rfl, rfl, rfl⟩ ⟨rfl, rfl, rfl⟩ rfl (s1 := uA s 0 (cdColour ss1 (xs (i + 1)))) (I1 := I) (G1 := G)
        have A3 : MA ss1 (uA s 0 (cdColour ss1 (xs (i + 1)))) I G := A.keep rfl ⟨rfl, rfl, rfl, rfl⟩ ⟨rfl, rfl, rfl⟩
        refine j_goto E (tgt := 1049) dL_law_520 (by decide) ?_
        refine J.sub [(4, .int (nI i)), (3, .ref ou), (2, .ref m), (1, .ref x), (0, .ref b)] ⟨rfl, rfl, rfl, rfl, rfl, trivial⟩ ?_
        exact kk h2 T1 _ _ _ _ (LW_fin ⟨hw0, hkp, hu, hd⟩ R3 M3 A3 K3 ta1 t11 t12 uo ho3)
      · obtain ⟨-, hS3⟩ := hS.resolve_left (fun z => z.1 c2)
        clear hS
        obtain ⟨⟨j, hj, hz, hT⟩, rfl, rfl, rfl, rfl⟩ := hS3
        have he : f1 0 = y.toInt64 := by
          rcases hT with ⟨ps, g, e1, e2, e3⟩ | ⟨e1, e3⟩
          · rcases pb j hj hz with ⟨ps2, g2, e4, e5, ey⟩ | ⟨e4, -⟩
            · cases e1.symm.trans e4
              cases isF_one e2 e5
              cases ey; exact e3
            · exact absurd e2 (e4 ps g e1)
          · rcases pb j hj hz with ⟨ps2, g2, e4, e5, -⟩ | ⟨-, ey⟩
            · exact absurd e5 (e1 ps2 g2 e4)
            · cases ey; exact e3
        have K3 := K.keep ⟨rfl, rfl, rfl, rfl, rfl⟩ ⟨rfl, rfl, rfl⟩ rfl (s1 := uA s 0 (cdColour ss1 (xs (i + 1)))) (I1 := I) (G1 := G)
        have A3 : MA ss1 (uA s 0 (cdColour ss1 (xs (i + 1)))) I G := A.keep rfl ⟨rfl, rfl, rfl, rfl⟩ ⟨rfl, rfl, rfl⟩
        have W3 : wfSS ss1 ∧ wfK kp1 ∧ UK kp1 ss1 ∧ 1 ≤ d ∧ d ≤ 65536 := ⟨hw0, hkp, hu, hd⟩
        have fin : J X B D 8 Q h2 (k + 100) (n + 1000) 1049 [(4, .int (nI i)), (3, .ref ou), (2, .ref m), (1, .ref x), (0, .ref b)] [] := kk h2 T1 _ _ _ _ (LW_fin W3 R3 M3 A3 K3 ta1 t11 t12 uo ho3)
        refine j_aload_n E dL_law_508 rfl ?_
        refine j_iconst (x := nI 0) E dL_law_509 (by decide) ?_
        refine j_laload E 0 dL_law_510 ho3 rfl (by omega) (by omega) ?_
        refine j_iload E dL_law_511 rfl ?_
        refine j_i2l E dL_law_513 ?_
        refine j_lcmp E dL_law_514 ?_
        refine j_if_eq E (tgt := 520) dL_law_515 (by decide) (fun c3 => ?_) (fun c3 => ?_)
        ·
          refine j_goto E (tgt := 1049) dL_law_520 (by decide) ?_
          refine J.sub [(4, .int (nI i)), (3, .ref ou), (2, .ref m), (1, .ref x), (0, .ref b)] ⟨rfl, rfl, rfl, rfl, rfl, trivial⟩ ?_
          exact fin
        · exact absurd (cmp_eq.mpr he) c3
    · exact absurd rfl c1
  refine j_aload_n E dL_law_467 rfl ?_
  refine j_aload_n E dL_law_468 rfl ?_
  refine j_iload E dL_law_469 rfl ?_
  refine j_iconst (x := nI 1) E dL_law_471 (by decide) ?_
  refine j_iadd E dL_law_472 ?_
  refine j_sld E hX hb (i + 1) dL_law_473 (nI_add i 1) (by omega) (by omega) ?_
  refine j_aload_n E dL_law_474 rfl ?_
  refine j_callW (np := 3) E hXN (w_colour 0 R hw (xs (i + 1)) ho t2) gL_law_L_colour rfl ⟨by decide, by decide, by decide +kernel⟩ dL_law_475 (by omega) (by decide) rfl rfl (Nat.le_of_ble_eq_true rfl) (by omega) (by omega) (fun r h1 p => ?_)
  obtain ⟨rfl, ⟨hc, rfl⟩ | ⟨hc, ans, ss1, kp1, rg1, cl1, T1, f1, hS, ho1, ha, F, R1⟩⟩ := p
  · exact mid h1 T f ss kp rg cl ⟨_, _, _, _, _, R⟩ M ta t1 t2 ho (Or.inl ⟨hc, rfl, rfl, rfl, rfl⟩)
  · obtain ⟨M1, ta1, t11⟩ := LW_over M ta t1 uo F
    exact mid h1 T1 f1 ss1 kp1 rg1 cl1 R1 M1 ta1 t11 F.2 ho1 (Or.inr ⟨hc, by rw [ha]; exact hS⟩)
end LCS
