/-! the law, case by case -/
section LCS
variable {X : JC} {ret : Option FieldType} {B E0 : Nat} {D : va_G} {l : Launch} {v mc ms : Nat} {Q : State → Prop} {h : HM} {k n : Nat} {b N : Nat} {xs : Nat → Int32} {i : Nat} {T : Nat → Nat} {x m ou : Nat} {d : Int} {ss : List SH} {kp : Option KPs} {rg : List Nat} {cl : Prop}
theorem case_shape (E : JE X RL cL_law 8 wsL_law ret B E0 D l v mc ms) (hXN : XN (jx_s X)) (hX : va_X b N xs (jx_s X) (jx_s X).heap) (hb : b < (jx_s X).heap.size ∧ b < B) (hN : N ≤ 3073) (hv : 40 ≤ v) (hi : i + 5 < N) (S : LW E0 h T x m ou d ss kp rg cl) (hk2 : k + 100 ≤ mc) (hs2 : n + 1000 ≤ ms) (kk : ∀ (h2 : HM) (T2 : Nat → Nat) (ss2 : List SH) (kp2 : Option KPs) (rg2 : List Nat) (cl2 : Prop), LW E0 h2 T2 x m ou d ss2 kp2 rg2 cl2 → J X B D 8 Q h2 (k + 100) (n + 1000) 1049 [(4, .int (nI i)), (3, .ref ou), (2, .ref m), (1, .ref x), (0, .ref b)] []) : J X B D 8 Q h k n 128 [(4, .int (nI i)), (3, .ref ou), (2, .ref m), (1, .ref x), (0, .ref b)] [] := by
  obtain ⟨⟨hw, hkp, hu, hd⟩, ⟨gs, la, le, ra, kr, R⟩, ⟨a, s, I, G, M, A, K, ta⟩, t1, t2, uo, f, ho⟩ := S
  have hw0 := hw
  have mid : ∀ (h1 : HM) (T1 : Nat → Nat) (f1 : Nat → Int64) (ss1 : List SH) (kp1 : Option KPs) (rg1 : List Nat) (cl1 : Prop), CRx E0 h1 T1 x d ss1 kp1 rg1 cl1 → MR h1 h1 m a (lZ d) s I G → (∀ k, k ∈ mK → T1 (a k) = 0 ∧ a k ≠ ou) → T1 m = 0 → T1 ou = 0 → h1 ou = some (hJ 1 f1) → ((¬ cdShape ss = 0 ∧ ss1 = ss ∧ kp1 = kp ∧ rg1 = rg ∧ cl1 = cl) ∨ (cdShape ss = 0 ∧ (fun ans ss1 kp1 rg1 cl1 => ans = (nI ss.length).toInt64 ∧ ss1 = ss ++ [dS] ∧ kp1 = kp ∧ rg1 = rg ∧ cl1 = cl) (f1 0) ss1 kp1 rg1 cl1)) → J X B D 8 Q h1 (k + 4) (n + 30) 133 [(4, .int (nI i)), (3, .ref ou), (2, .ref m), (1, .ref x), (0, .ref b)] [.int (cdShape ss)] := by
    intro h1 T1 f1 ss1 kp1 rg1 cl1 R1 M1 ta1 t11 t12 ho1 hS
    have mo := M1.obj
    refine j_istore E dL_law_133 (by decide) ?_
    refine j_aload_n E dL_law_135 rfl ?_
    refine j_callV (np := 0) (C := RX7) (T := TX7) (N := 27) (ci := 8) E (m_shape 0 M1 A hw) gL_law_X7_shape rfl ⟨rfl, by decide, by decide, by decide +kernel⟩ dL_law_136 (by omega) (by decide) rfl mo rfl rfl (Nat.le_of_ble_eq_true rfl) (by omega) (by omega) (fun r h2 p => ?_)
    obtain ⟨⟨y, rfl⟩, s1, I1, M2, e0, q1, q2, pa, pb⟩ := p
    refine J.wide (k' := k + 100) (n' := n + 1000) (by omega) (by omega) ?_
    obtain ⟨M3, R3, ho3⟩ := LW_step M2 R1 t11 ta1 uo ho1 M1
    have mo3 := M3.obj
    refine j_istore E dL_law_139 (by decide) ?_
    refine j_aload_n E dL_law_141 rfl ?_
    refine j_callV (np := 0) (C := RX7) (T := TX7) (N := 27) (ci := 8) E (m_thrown 0 M3) gL_law_X7_thrown rfl ⟨rfl, by decide, by decide, by decide +kernel⟩ dL_law_142 (by omega) (by decide) rfl mo3 rfl rfl (Nat.le_of_ble_eq_true rfl) (by omega) (by omega) (fun r9 h9 p9 => J.pure p9 ?_)
    refine J.wide (k' := k + 100) (n' := n + 1000) (by omega) (by omega) ?_
    refine J.topi (x' := cdShape ss) e0 ?_
    refine j_iload E dL_law_145 rfl ?_
    refine j_icmp_eq E (tgt := 152) dL_law_147 (by decide) (fun c1 => ?_) (fun c1 => ?_)
    ·
      refine j_iload E dL_law_152 rfl ?_
      refine j_if_ne E (tgt := 169) dL_law_154 (by decide) (fun c2 => ?_) (fun c2 => ?_)
      · obtain ⟨-, rfl, rfl, rfl, rfl⟩ := hS.resolve_right (fun z => c2 z.1)
        have A3 := pa c2
        have K3 := K.keep ⟨q1 26 (by decide) (by decide), q1 25 (by decide) (by decide), q1 17 (by decide) (by decide), q1 18 (by decide) (by decide), q1 19 (by decide) (by decide)⟩ ⟨q2 24 (by decide) (by decide) (by decide), q2 20 (by decide) (by decide) (by decide), q2 21 (by decide) (by decide) (by decide)⟩ (show G 22 = G 22 from rfl)
        refine j_goto E (tgt := 1049) dL_law_169 (by decide) ?_
        refine J.sub [(4, .int (nI i)), (3, .ref ou), (2, .ref m), (1, .ref x), (0, .ref b)] ⟨rfl, rfl, rfl, rfl, rfl, trivial⟩ ?_
        exact kk h2 T1 _ _ _ _ (LW_fin ⟨hw0, hkp, hu, hd⟩ R3 M3 A3 K3 ta1 t11 t12 uo ho3)
      · obtain ⟨-, hS3⟩ := hS.resolve_left (fun z => z.1 c2)
        clear hS
        obtain ⟨he, rfl, rfl, rfl, rfl⟩ := hS3
        obtain ⟨ey, A3⟩ := pb c2
        cases ey
        have K3 := K.keep ⟨q1 26 (by decide) (by decide), q1 25 (by decide) (by decide), q1 17 (by decide) (by decide), q1 18 (by decide) (by decide), q1 19 (by decide) (by decide)⟩ ⟨q2 24 (by decide) (by decide) (by decide), q2 20 (by decide) (by decide) (by decide), q2 21 (by decide) (by decide) (by decide)⟩ (show G 22 = G 22 from rfl)
        have W3 : wfSS (ss ++ [dS]) ∧ wfK kp1 ∧ UK kp1 (ss ++ [dS]) ∧ 1 ≤ d ∧ d ≤ 65536 := ⟨wf_app hw c2, hkp, hu.mono (by rw [List.length_append]; omega) (fun j hj => by rw [gS_app, if_pos hj]; exact Nat.le_refl _), hd⟩
        have fin : J X B D 8 Q h2 (k + 100) (n + 1000) 1049 [(4, .int (nI i)), (3, .ref ou), (2, .ref m), (1, .ref x), (0, .ref b)] [] := kk h2 T1 _ _ _ _ (LW_fin W3 R3 M3 A3 K3 ta1 t11 t12 uo ho3)
        refine j_aload_n E dL_law_157 rfl ?_
        refine j_iconst (x := nI 0) E dL_law_158 (by decide) ?_
        refine j_laload E 0 dL_law_159 ho3 rfl (by omega) (by omega) ?_
        refine j_iload E dL_law_160 rfl ?_
        refine j_i2l E dL_law_162 ?_
        refine j_lcmp E dL_law_163 ?_
        refine j_if_eq E (tgt := 169) dL_law_164 (by decide) (fun c3 => ?_) (fun c3 => ?_)
        ·
          refine j_goto E (tgt := 1049) dL_law_169 (by decide) ?_
          refine J.sub [(4, .int (nI i)), (3, .ref ou), (2, .ref m), (1, .ref x), (0, .ref b)] ⟨rfl, rfl, rfl, rfl, rfl, trivial⟩ ?_
          exact fin
        · exact absurd (cmp_eq.mpr he) c3
    · exact absurd rfl c1
  refine j_aload_n E dL_law_128 rfl ?_
  refine j_aload_n E dL_law_129 rfl ?_
  refine j_callW (np := 2) E hXN (w_shape 0 R hw ho t2) gL_law_L_shape rfl ⟨by decide, by decide, by decide +kernel⟩ dL_law_130 (by omega) (by decide) rfl rfl (Nat.le_of_ble_eq_true rfl) (by omega) (by omega) (fun r h1 p => ?_)
  obtain ⟨rfl, ⟨hc, rfl⟩ | ⟨hc, ans, ss1, kp1, rg1, cl1, T1, f1, hS, ho1, ha, F, R1⟩⟩ := p
  · exact mid h1 T f ss kp rg cl ⟨_, _, _, _, _, R⟩ M ta t1 t2 ho (Or.inl ⟨hc, rfl, rfl, rfl, rfl⟩)
  · obtain ⟨M1, ta1, t11⟩ := LW_over M ta t1 uo F
    exact mid h1 T1 f1 ss1 kp1 rg1 cl1 R1 M1 ta1 t11 F.2 ho1 (Or.inr ⟨hc, by rw [ha]; exact hS⟩)
theorem case_corner (E : JE X RL cL_law 8 wsL_law ret B E0 D l v mc ms) (hXN : XN (jx_s X)) (hX : va_X b N xs (jx_s X) (jx_s X).heap) (hb : b < (jx_s X).heap.size ∧ b < B) (hN : N ≤ 3073) (hv : 40 ≤ v) (hi : i + 5 < N) (S : LW E0 h T x m ou d ss kp rg cl) (hk2 : k + 100 ≤ mc) (hs2 : n + 1000 ≤ ms) (kk : ∀ (h2 : HM) (T2 : Nat → Nat) (ss2 : List SH) (kp2 : Option KPs) (rg2 : List Nat) (cl2 : Prop), LW E0 h2 T2 x m ou d ss2 kp2 rg2 cl2 → J X B D 8 Q h2 (k + 100) (n + 1000) 1049 [(4, .int (nI i)), (3, .ref ou), (2, .ref m), (1, .ref x), (0, .ref b)] []) : J X B D 8 Q h k n 172 [(4, .int (nI i)), (3, .ref ou), (2, .ref m), (1, .ref x), (0, .ref b)] [] := by
  obtain ⟨⟨hw, hkp, hu, hd⟩, ⟨gs, la, le, ra, kr, R⟩, ⟨a, s, I, G, M, A, K, ta⟩, t1, t2, uo, f, ho⟩ := S
  have hw0 := hw
  have mid : ∀ (h1 : HM) (T1 : Nat → Nat) (f1 : Nat → Int64) (ss1 : List SH) (kp1 : Option KPs) (rg1 : List Nat) (cl1 : Prop), CRx E0 h1 T1 x d ss1 kp1 rg1 cl1 → MR h1 h1 m a (lZ d) s I G → (∀ k, k ∈ mK → T1 (a k) = 0 ∧ a k ≠ ou) → T1 m = 0 → T1 ou = 0 → h1 ou = some (hJ 1 f1) → ((¬ cdCorner ss (xs (i + 1)) (lw2 (xs (i + 2)) (xs (i + 3))) (lw2 (xs (i + 4)) (xs (i + 5))) = 0 ∧ ss1 = ss ∧ kp1 = kp ∧ rg1 = rg ∧ cl1 = cl) ∨ (cdCorner ss (xs (i + 1)) (lw2 (xs (i + 2)) (xs (i + 3))) (lw2 (xs (i + 4)) (xs (i + 5))) = 0 ∧ (fun ans ss1 kp1 rg1 cl1 => ∃ j, j < ss.length ∧ xs (i + 1) = nI j ∧ ans = lB ((nc (gS ss j) + 1) % 2 = 0) ∧ wfSS ss1 ∧ ss1 = addK ss j (lw2 (xs (i + 2)) (xs (i + 3))).toInt (lw2 (xs (i + 4)) (xs (i + 5))).toInt ∧ kp1 = kp ∧ rg1 = rg ∧ cl1 = cl) (f1 0) ss1 kp1 rg1 cl1)) → J X B D 8 Q h1 (k + 3) (n + 25) 227 [(4, .int (nI i)), (3, .ref ou), (2, .ref m), (1, .ref x), (0, .ref b)] [.int (cdCorner ss (xs (i + 1)) (lw2 (xs (i + 2)) (xs (i + 3))) (lw2 (xs (i + 4)) (xs (i + 5))))] := by
    intro h1 T1 f1 ss1 kp1 rg1 cl1 R1 M1 ta1 t11 t12 ho1 hS
    have mo := M1.obj
    refine j_istore E dL_law_227 (by decide) ?_
    refine j_aload_n E dL_law_229 rfl ?_
    refine j_aload_n E dL_law_230 rfl ?_
    refine j_iload E dL_law_231 rfl ?_
    refine j_iconst (x := nI 1) E dL_law_233 (by decide) ?_
    refine j_iadd E dL_law_234 ?_
    refine j_sld E hX hb (i + 1) dL_law_235 (nI_add i 1) (by omega) (by omega) ?_
    refine j_aload_n E dL_law_236 rfl ?_
    refine j_iload E dL_law_237 rfl ?_
    refine j_iconst (x := nI 2) E dL_law_239 (by decide) ?_
    refine j_iadd E dL_law_240 ?_
    refine j_sld E hX hb (i + 2) dL_law_241 (nI_add i 2) (by omega) (by omega) ?_
    refine j_i2l E dL_law_242 ?_
    refine j_bipush (x := nI 32) E dL_law_243 (by decide) ?_
    refine j_lshl E dL_law_245 rfl ?_
    refine j_aload_n E dL_law_246 rfl ?_
    refine j_iload E dL_law_247 rfl ?_
    refine j_iconst (x := nI 3) E dL_law_249 (by decide) ?_
    refine j_iadd E dL_law_250 ?_
    refine j_sld E hX hb (i + 3) dL_law_251 (nI_add i 3) (by omega) (by omega) ?_
    refine j_i2l E dL_law_252 ?_
    refine j_ldc2 E (x := lZ (4294967295)) dL_law_253 (show Cond.constantLong _ _ (4294967295) ∈ _ by decide +kernel) ?_
    refine j_land E dL_law_256 ?_
    refine j_lor E dL_law_257 ?_
    refine J.topl (x' := lw2 (xs (i + 2)) (xs (i + 3))) (rfl) ?_
    refine j_aload_n E dL_law_258 rfl ?_
    refine j_iload E dL_law_259 rfl ?_
    refine j_iconst (x := nI 4) E dL_law_261 (by decide) ?_
    refine j_iadd E dL_law_262 ?_
    refine j_sld E hX hb (i + 4) dL_law_263 (nI_add i 4) (by omega) (by omega) ?_
    refine j_i2l E dL_law_264 ?_
    refine j_bipush (x := nI 32) E dL_law_265 (by decide) ?_
    refine j_lshl E dL_law_267 rfl ?_
    refine j_aload_n E dL_law_268 rfl ?_
    refine j_iload E dL_law_269 rfl ?_
    refine j_iconst (x := nI 5) E dL_law_271 (by decide) ?_
    refine j_iadd E dL_law_272 ?_
    refine j_sld E hX hb (i + 5) dL_law_273 (nI_add i 5) (by omega) (by omega) ?_
    refine j_i2l E dL_law_274 ?_
    refine j_ldc2 E (x := lZ (4294967295)) dL_law_275 (show Cond.constantLong _ _ (4294967295) ∈ _ by decide +kernel) ?_
    refine j_land E dL_law_278 ?_
    refine j_lor E dL_law_279 ?_
    refine J.topl (x' := lw2 (xs (i + 4)) (xs (i + 5))) (rfl) ?_
    refine j_callV (np := 3) (C := RX7) (T := TX7) (N := 27) (ci := 8) E (m_corner 0 M1 A hw (xs (i + 1)) (lw2 (xs (i + 2)) (xs (i + 3))) (lw2 (xs (i + 4)) (xs (i + 5)))) gL_law_X7_corner rfl ⟨rfl, by decide, by decide, by decide +kernel⟩ dL_law_280 (by omega) (by decide) rfl mo rfl rfl (Nat.le_of_ble_eq_true rfl) (by omega) (by omega) (fun r h2 p => ?_)
    obtain ⟨⟨y, rfl⟩, s1, I1, G1, M2, e0, q1, q2, q3, pa, pb⟩ := p
    refine J.wide (k' := k + 100) (n' := n + 1000) (by omega) (by omega) ?_
    obtain ⟨M3, R3, ho3⟩ := LW_step M2 R1 t11 ta1 uo ho1 M1
    have mo3 := M3.obj
    refine j_istore E dL_law_283 (by decide) ?_
    refine j_aload_n E dL_law_285 rfl ?_
    refine j_callV (np := 0) (C := RX7) (T := TX7) (N := 27) (ci := 8) E (m_thrown 0 M3) gL_law_X7_thrown rfl ⟨rfl, by decide, by decide, by decide +kernel⟩ dL_law_286 (by omega) (by decide) rfl mo3 rfl rfl (Nat.le_of_ble_eq_true rfl) (by omega) (by omega) (fun r9 h9 p9 => J.pure p9 ?_)
    refine J.wide (k' := k + 100) (n' := n + 1000) (by omega) (by omega) ?_
    refine J.topi (x' := cdCorner ss (xs (i + 1)) (lw2 (xs (i + 2)) (xs (i + 3))) (lw2 (xs (i + 4)) (xs (i + 5)))) e0 ?_
    refine j_iload E dL_law_289 rfl ?_
    refine j_icmp_eq E (tgt := 296) dL_law_291 (by decide) (fun c1 => ?_) (fun c1 => ?_)
    ·
      refine j_iload E dL_law_296 rfl ?_
      refine j_if_ne E (tgt := 320) dL_law_298 (by decide) (fun c2 => ?_) (fun c2 => ?_)
      · obtain ⟨-, rfl, rfl, rfl, rfl⟩ := hS.resolve_right (fun z => c2 z.1)
        have A3 := pa c2
        have K3 := K.keep ⟨q1 26 (by decide), q1 25 (by decide), q1 17 (by decide), q1 18 (by decide), q1 19 (by decide)⟩ ⟨q2 24 (by decide), q2 20 (by decide), q2 21 (by decide)⟩ (q3 22 (by decide) (by decide))
        refine j_goto E (tgt := 1049) dL_law_320 (by decide) ?_
        refine J.sub [(4, .int (nI i)), (3, .ref ou), (2, .ref m), (1, .ref x), (0, .ref b)] ⟨rfl, rfl, rfl, rfl, rfl, trivial⟩ ?_
        exact kk h2 T1 _ _ _ _ (LW_fin ⟨hw0, hkp, hu, hd⟩ R3 M3 A3 K3 ta1 t11 t12 uo ho3)
      · obtain ⟨-, hS3⟩ := hS.resolve_left (fun z => z.1 c2)
        clear hS
        obtain ⟨j, hj, hz, he, hwf, rfl, rfl, rfl, rfl⟩ := hS3
        obtain ⟨ey, A3⟩ := pb c2 j hj hz
        cases ey
        have K3 := K.keep ⟨q1 26 (by decide), q1 25 (by decide), q1 17 (by decide), q1 18 (by decide), q1 19 (by decide)⟩ ⟨q2 24 (by decide), q2 20 (by decide), q2 21 (by decide)⟩ (q3 22 (by decide) (by decide))
        have W3 : wfSS (addK ss j (lw2 (xs (i + 2)) (xs (i + 3))).toInt (lw2 (xs (i + 4)) (xs (i + 5))).toInt) ∧ wfK kp1 ∧ UK kp1 (addK ss j (lw2 (xs (i + 2)) (xs (i + 3))).toInt (lw2 (xs (i + 4)) (xs (i + 5))).toInt) ∧ 1 ≤ d ∧ d ≤ 65536 := ⟨hwf, hkp, hu.mono (by unfold addK; rw [List.length_set]; exact Nat.le_refl _) (fun q hq => by
          unfold addK
          rw [gS_set hj]
          by_cases e : q = j
          · rw [if_pos e, e]; exact Nat.le_refl _
          · rw [if_neg e]; exact Nat.le_refl _), hd⟩
        have fin : J X B D 8 Q h2 (k + 100) (n + 1000) 1049 [(4, .int (nI i)), (3, .ref ou), (2, .ref m), (1, .ref x), (0, .ref b)] [] := kk h2 T1 _ _ _ _ (LW_fin W3 R3 M3 A3 K3 ta1 t11 t12 uo ho3)
        refine j_aload_n E dL_law_301 rfl ?_
        refine j_iconst (x := nI 0) E dL_law_302 (by decide) ?_
        refine j_laload E 0 dL_law_303 ho3 rfl (by omega) (by omega) ?_
        refine j_iload E dL_law_304 rfl ?_
        refine j_if_eq E (tgt := 313) dL_law_306 (by decide) (fun c4 => ?_) (fun c4 => ?_)
        ·
          refine j_lconst (x := lZ 0) E dL_law_313 (by decide) ?_
          refine j_lcmp E dL_law_314 ?_
          refine j_if_eq E (tgt := 320) dL_law_315 (by decide) (fun c3 => ?_) (fun c3 => ?_)
          ·
            refine j_goto E (tgt := 1049) dL_law_320 (by decide) ?_
            refine J.sub [(4, .int (nI i)), (3, .ref ou), (2, .ref m), (1, .ref x), (0, .ref b)] ⟨rfl, rfl, rfl, rfl, rfl, trivial⟩ ?_
            exact fin
          · exact absurd (cmp_eq.mpr (he.trans (lB_f (bI_z.mp c4)))) c3
        ·
          refine j_lconst (x := lZ 1) E dL_law_309 (by decide) ?_
          refine j_goto E (tgt := 314) dL_law_310 (by decide) ?_
          refine j_lcmp E dL_law_314 ?_
          refine j_if_eq E (tgt := 320) dL_law_315 (by decide) (fun c3 => ?_) (fun c3 => ?_)
          ·
            refine j_goto E (tgt := 1049) dL_law_320 (by decide) ?_
            refine J.sub [(4, .int (nI i)), (3, .ref ou), (2, .ref m), (1, .ref x), (0, .ref b)] ⟨rfl, rfl, rfl, rfl, rfl, trivial⟩ ?_
            exact fin
          · exact absurd (cmp_eq.mpr (he.trans (lB_t (bI_n.mp c4)))) c3
    · exact absurd rfl c1
  refine j_aload_n E dL_law_172 rfl ?_
  refine j_aload_n E dL_law_173 rfl ?_
  refine j_iload E dL_law_174 rfl ?_
  refine j_iconst (x := nI 1) E dL_law_176 (by decide) ?_
  refine j_iadd E dL_law_177 ?_
  refine j_sld E hX hb (i + 1) dL_law_178 (nI_add i 1) (by omega) (by omega) ?_
  refine j_aload_n E dL_law_179 rfl ?_
  refine j_iload E dL_law_180 rfl ?_
  refine j_iconst (x := nI 2) E dL_law_182 (by decide) ?_
  refine j_iadd E dL_law_183 ?_
  refine j_sld E hX hb (i + 2) dL_law_184 (nI_add i 2) (by omega) (by omega) ?_
  refine j_i2l E dL_law_185 ?_
  refine j_bipush (x := nI 32) E dL_law_186 (by decide) ?_
  refine j_lshl E dL_law_188 rfl ?_
  refine j_aload_n E dL_law_189 rfl ?_
  refine j_iload E dL_law_190 rfl ?_
  refine j_iconst (x := nI 3) E dL_law_192 (by decide) ?_
  refine j_iadd E dL_law_193 ?_
  refine j_sld E hX hb (i + 3) dL_law_194 (nI_add i 3) (by omega) (by omega) ?_
  refine j_i2l E dL_law_195 ?_
  refine j_ldc2 E (x := lZ (4294967295)) dL_law_196 (show Cond.constantLong _ _ (4294967295) ∈ _ by decide +kernel) ?_
  refine j_land E dL_law_199 ?_
  refine j_lor E dL_law_200 ?_
  refine J.topl (x' := lw2 (xs (i + 2)) (xs (i + 3))) (rfl) ?_
  refine j_aload_n E dL_law_201 rfl ?_
  refine j_iload E dL_law_202 rfl ?_
  refine j_iconst (x := nI 4) E dL_law_204 (by decide) ?_
  refine j_iadd E dL_law_205 ?_
  refine j_sld E hX hb (i + 4) dL_law_206 (nI_add i 4) (by omega) (by omega) ?_
  refine j_i2l E dL_law_207 ?_
  refine j_bipush (x := nI 32) E dL_law_208 (by decide) ?_
  refine j_lshl E dL_law_210 rfl ?_
  refine j_aload_n E dL_law_211 rfl ?_
  refine j_iload E dL_law_212 rfl ?_
  refine j_iconst (x := nI 5) E dL_law_214 (by decide) ?_
  refine j_iadd E dL_law_215 ?_
  refine j_sld E hX hb (i + 5) dL_law_216 (nI_add i 5) (by omega) (by omega) ?_
  refine j_i2l E dL_law_217 ?_
  refine j_ldc2 E (x := lZ (4294967295)) dL_law_218 (show Cond.constantLong _ _ (4294967295) ∈ _ by decide +kernel) ?_
  refine j_land E dL_law_221 ?_
  refine j_lor E dL_law_222 ?_
  refine J.topl (x' := lw2 (xs (i + 4)) (xs (i + 5))) (rfl) ?_
  refine j_aload_n E dL_law_223 rfl ?_
  refine j_callW (np := 5) E hXN (w_corner 0 R hw hd (xs (i + 1)) (lw2 (xs (i + 2)) (xs (i + 3))) (lw2 (xs (i + 4)) (xs (i + 5))) ho t2) gL_law_L_corner rfl ⟨by decide, by decide, by decide +kernel⟩ dL_law_224 (by omega) (by decide) rfl rfl (Nat.le_of_ble_eq_true rfl) (by omega) (by omega) (fun r h1 p => ?_)
  obtain ⟨rfl, ⟨hc, rfl⟩ | ⟨hc, ans, ss1, kp1, rg1, cl1, T1, f1, hS, ho1, ha, F, R1⟩⟩ := p
  · exact mid h1 T f ss kp rg cl ⟨_, _, _, _, _, R⟩ M ta t1 t2 ho (Or.inl ⟨hc, rfl, rfl, rfl, rfl⟩)
  · obtain ⟨M1, ta1, t11⟩ := LW_over M ta t1 uo F
    exact mid h1 T1 f1 ss1 kp1 rg1 cl1 R1 M1 ta1 t11 F.2 ho1 (Or.inr ⟨hc, by rw [ha]; exact hS⟩)
end LCS
