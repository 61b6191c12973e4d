/-! the law, case by case: those that do not throw -/
section MC
variable {l : Launch} {B E0 : Nat} {D : va_G} {h0 h : HM} {m : Nat} {a : Nat → Nat} {d : Int} {s : Nat → Int32} {I : Nat → Nat → Int32} {G : Nat → Nat → Int64}
theorem m_clear0 (v : Nat) (hM : MR h0 h m a (lZ d) s I G) : CM l B E0 D yX7_clear wsX7_clear (v + 1) 0 0 [.ref m] h (fun r h1 => r = none ∧ ∃ s1, MR h0 h1 m a (lZ d) s1 I G ∧ MA [] s1 I G ∧ MK none [] False s1 I G) := by
  refine CM.of (cc := cX7_clear) (maxL := 1) (ret := none) (by decide) rfl (Nat.le_of_ble_eq_true rfl) (fun X E hin => ?_)
  show J X B D 1 _ h 0 0 0 [(0, .ref m)] []
  generalize hQ : jQ X B D _ _ _ = Q
  refine j_aload_n E dX7_clear_0 rfl ?_
  refine j_iconst (x := nI 0) E dX7_clear_1 (by decide) ?_
  refine j_putfield (ref := "ColourPartsModel") (C := RX7) (T := TX7) (N := 27) (ci := 8) E 0 dX7_clear_2 iw_X7_clear_X7 tyX7 tyX7_ok nmX7 rfl (by decide) (by decide +kernel) rfl rfl rfl rfl hM.obj (Nat.le_of_ble_eq_true rfl) ?_
  refine MR.gen (hM.pS 0 _ (by decide) rfl) (fun h hM => ?_)
  refine j_aload_n E dX7_clear_5 rfl ?_
  refine j_iconst (x := nI 0) E dX7_clear_6 (by decide) ?_
  refine j_putfield (ref := "ColourPartsModel") (C := RX7) (T := TX7) (N := 27) (ci := 8) E 2 dX7_clear_7 iw_X7_clear_X7 tyX7 tyX7_ok nmX7 rfl (by decide) (by decide +kernel) rfl rfl rfl rfl hM.obj (Nat.le_of_ble_eq_true rfl) ?_
  refine MR.gen (hM.pS 2 _ (by decide) rfl) (fun h hM => ?_)
  refine j_aload_n E dX7_clear_10 rfl ?_
  refine j_iconst (x := nI 0) E dX7_clear_11 (by decide) ?_
  refine j_putfield (ref := "ColourPartsModel") (C := RX7) (T := TX7) (N := 27) (ci := 8) E 17 dX7_clear_12 iw_X7_clear_X7 tyX7 tyX7_ok nmX7 rfl (by decide) (by decide +kernel) rfl rfl rfl rfl hM.obj (Nat.le_of_ble_eq_true rfl) ?_
  refine MR.gen (hM.pS 17 _ (by decide) rfl) (fun h hM => ?_)
  refine j_aload_n E dX7_clear_15 rfl ?_
  refine j_iconst (x := nI 0) E dX7_clear_16 (by decide) ?_
  refine j_putfield (ref := "ColourPartsModel") (C := RX7) (T := TX7) (N := 27) (ci := 8) E 25 dX7_clear_17 iw_X7_clear_X7 tyX7 tyX7_ok nmX7 rfl (by decide) (by decide +kernel) rfl rfl rfl rfl hM.obj (Nat.le_of_ble_eq_true rfl) ?_
  refine MR.gen (hM.pS 25 _ (by decide) rfl) (fun h hM => ?_)
  refine j_aload_n E dX7_clear_20 rfl ?_
  refine j_iconst (x := nI 0) E dX7_clear_21 (by decide) ?_
  refine j_putfield (ref := "ColourPartsModel") (C := RX7) (T := TX7) (N := 27) (ci := 8) E 26 dX7_clear_22 iw_X7_clear_X7 tyX7 tyX7_ok nmX7 rfl (by decide) (by decide +kernel) rfl rfl rfl rfl hM.obj (Nat.le_of_ble_eq_true rfl) ?_
  refine MR.gen (hM.pS 26 _ (by decide) rfl) (fun h hM => ?_)
  rw [← hQ]
  exact j_vret E dX7_clear_25 rfl (by omega) (by omega) ⟨rfl, _, hM, ⟨rfl, fun j hj => absurd hj (Nat.not_lt_zero j)⟩, by rw [bI_f id]; rfl, rfl, fun j hj => absurd hj (Nat.not_lt_zero j), fun _ => rfl, fun ps e => by cases e⟩
end MC
section LCS
variable {X : JC} {ret : Option FieldType} {B E0 : Nat} {D : va_G} {l : Launch} {v mc ms : Nat} {Q : State → Prop} {h : HM} {k n : Nat} {b N : Nat} {xs : Nat → Int32} {i : Nat} {T : Nat → Nat} {x m ou : Nat} {d : Int} {ss : List SH} {kp : Option KPs} {rg : List Nat} {cl : Prop}
theorem case_length (E : JE X RL cL_law 8 wsL_law ret B E0 D l v mc ms) (hXN : XN (jx_s X)) (hX : va_X b N xs (jx_s X) (jx_s X).heap) (hb : b < (jx_s X).heap.size ∧ b < B) (hN : N ≤ 3073) (hv : 40 ≤ v) (hi : i + 5 < N) (S : LW E0 h T x m ou d ss kp rg cl) (hk2 : k + 100 ≤ mc) (hs2 : n + 1000 ≤ ms) (kk : ∀ (h2 : HM) (T2 : Nat → Nat) (ss2 : List SH) (kp2 : Option KPs) (rg2 : List Nat) (cl2 : Prop), LW E0 h2 T2 x m ou d ss2 kp2 rg2 cl2 → J X B D 8 Q h2 (k + 100) (n + 1000) 1049 [(4, .int (nI i)), (3, .ref ou), (2, .ref m), (1, .ref x), (0, .ref b)] []) : J X B D 8 Q h k n 579 [(4, .int (nI i)), (3, .ref ou), (2, .ref m), (1, .ref x), (0, .ref b)] [] := by
  obtain ⟨⟨hw, hkp, hu, hd⟩, ⟨gs, la, le, ra, kr, R⟩, ⟨a, s, I, G, M, A, K, ta⟩, t1, t2, uo, f, ho⟩ := S
  have R1 := R.2.1
  have mo := M.obj
  refine j_aload_n E dL_law_579 rfl ?_
  refine j_callV (np := 0) (C := RX6) (T := TX6) (N := 6) (ci := 7) E (c_length 0 R) gL_law_X6_length rfl ⟨rfl, by decide, by decide, by decide +kernel⟩ dL_law_580 (by omega) (by decide) rfl R1 rfl rfl (Nat.le_of_ble_eq_true rfl) (by omega) (by omega) (fun r9 h9 p9 => J.pure p9 ?_)
  refine J.wide (k' := k + 100) (n' := n + 1000) (by omega) (by omega) ?_
  refine j_aload_n E dL_law_583 rfl ?_
  refine j_callV (np := 0) (C := RX7) (T := TX7) (N := 27) (ci := 8) E (m_length 0 M K) gL_law_X7_length rfl ⟨rfl, by decide, by decide, by decide +kernel⟩ dL_law_584 (by omega) (by decide) rfl mo rfl rfl (Nat.le_of_ble_eq_true rfl) (by omega) (by omega) (fun r h2 p => ?_)
  obtain ⟨M2, rfl⟩ := p
  refine J.wide (k' := k + 100) (n' := n + 1000) (by omega) (by omega) ?_
  obtain ⟨M3, R3, ho3⟩ := LW_step M2 ⟨_, _, _, _, _, R⟩ t1 ta uo ho M
  refine j_icmp_eq E (tgt := 1049) dL_law_587 (by decide) (fun c1 => ?_) (fun c1 => ?_)
  · exact kk h2 T _ _ _ _ (LW_fin ⟨hw, hkp, hu, hd⟩ R3 M3 (A.keep rfl ⟨rfl, rfl, rfl, rfl⟩ ⟨rfl, rfl, rfl⟩) (K.keep ⟨rfl, rfl, rfl, rfl, rfl⟩ ⟨rfl, rfl, rfl⟩ rfl) ta t1 t2 uo ho3)
  · exact absurd rfl c1
theorem case_closed (E : JE X RL cL_law 8 wsL_law ret B E0 D l v mc ms) (hXN : XN (jx_s X)) (hX : va_X b N xs (jx_s X) (jx_s X).heap) (hb : b < (jx_s X).heap.size ∧ b < B) (hN : N ≤ 3073) (hv : 40 ≤ v) (hi : i + 5 < N) (S : LW E0 h T x m ou d ss kp rg cl) (hk2 : k + 100 ≤ mc) (hs2 : n + 1000 ≤ ms) (kk : ∀ (h2 : HM) (T2 : Nat → Nat) (ss2 : List SH) (kp2 : Option KPs) (rg2 : List Nat) (cl2 : Prop), LW E0 h2 T2 x m ou d ss2 kp2 rg2 cl2 → J X B D 8 Q h2 (k + 100) (n + 1000) 1049 [(4, .int (nI i)), (3, .ref ou), (2, .ref m), (1, .ref x), (0, .ref b)] []) : J X B D 8 Q h k n 1025 [(4, .int (nI i)), (3, .ref ou), (2, .ref m), (1, .ref x), (0, .ref b)] [] := by
  obtain ⟨⟨hw, hkp, hu, hd⟩, ⟨gs, la, le, ra, kr, R⟩, ⟨a, s, I, G, M, A, K, ta⟩, t1, t2, uo, f, ho⟩ := S
  have R1 := R.2.1
  have mo := M.obj
  refine j_aload_n E dL_law_1025 rfl ?_
  refine j_callV (np := 0) (C := RX6) (T := TX6) (N := 6) (ci := 7) E (c_closed 0 R) gL_law_X6_closed rfl ⟨rfl, by decide, by decide, by decide +kernel⟩ dL_law_1026 (by omega) (by decide) rfl R1 rfl rfl (Nat.le_of_ble_eq_true rfl) (by omega) (by omega) (fun r9 h9 p9 => J.pure p9 ?_)
  refine J.wide (k' := k + 100) (n' := n + 1000) (by omega) (by omega) ?_
  refine j_aload_n E dL_law_1029 rfl ?_
  refine j_callV (np := 0) (C := RX7) (T := TX7) (N := 27) (ci := 8) E (m_closed 0 M K) gL_law_X7_closed rfl ⟨rfl, by decide, by decide, by decide +kernel⟩ dL_law_1030 (by omega) (by decide) rfl mo rfl rfl (Nat.le_of_ble_eq_true rfl) (by omega) (by omega) (fun r h2 p => ?_)
  obtain ⟨M2, rfl⟩ := p
  refine J.wide (k' := k + 100) (n' := n + 1000) (by omega) (by omega) ?_
  obtain ⟨M3, R3, ho3⟩ := LW_step M2 ⟨_, _, _, _, _, R⟩ t1 ta uo ho M
  refine j_icmp_eq E (tgt := 1049) dL_law_1033 (by decide) (fun c1 => ?_) (fun c1 => ?_)
  · exact kk h2 T _ _ _ _ (LW_fin ⟨hw, hkp, hu, hd⟩ R3 M3 (A.keep rfl ⟨rfl, rfl, rfl, rfl⟩ ⟨rfl, rfl, rfl⟩) (K.keep ⟨rfl, rfl, rfl, rfl, rfl⟩ ⟨rfl, rfl, rfl⟩ rfl) ta t1 t2 uo ho3)
  · exact absurd rfl c1
theorem case_stitches (E : JE X RL cL_law 8 wsL_law ret B E0 D l v mc ms) (hXN : XN (jx_s X)) (hX : va_X b N xs (jx_s X) (jx_s X).heap) (hb : b < (jx_s X).heap.size ∧ b < B) (hN : N ≤ 3073) (hv : 40 ≤ v) (hi : i + 5 < N) (S : LW E0 h T x m ou d ss kp rg cl) (hk2 : k + 100 ≤ mc) (hs2 : n + 1000 ≤ ms) (kk : ∀ (h2 : HM) (T2 : Nat → Nat) (ss2 : List SH) (kp2 : Option KPs) (rg2 : List Nat) (cl2 : Prop), LW E0 h2 T2 x m ou d ss2 kp2 rg2 cl2 → J X B D 8 Q h2 (k + 100) (n + 1000) 1049 [(4, .int (nI i)), (3, .ref ou), (2, .ref m), (1, .ref x), (0, .ref b)] []) : J X B D 8 Q h k n 802 [(4, .int (nI i)), (3, .ref ou), (2, .ref m), (1, .ref x), (0, .ref b)] [] := by
  obtain ⟨⟨hw, hkp, hu, hd⟩, ⟨gs, la, le, ra, kr, R⟩, ⟨a, s, I, G, M, A, K, ta⟩, t1, t2, uo, f, ho⟩ := S
  have R1 := R.2.1
  have mo := M.obj
  have hv2 : ∃ z : Int32, (kp = none → z = 0) ∧ ∀ ps, kp = some ps → z = nI (uC (kS ps) (kC ps) ps.length) := by
    cases kp with
    | none => exact ⟨0, fun _ => rfl, fun ps e => (by cases e)⟩
    | some ps => exact ⟨_, fun e => (by cases e), fun ps2 e => (by cases e; rfl)⟩
  have hcase : kp = none ∨ ∃ ps, kp = some ps := by
    cases kp with
    | none => exact Or.inl rfl
    | some ps => exact Or.inr ⟨ps, rfl⟩
  obtain ⟨z, z1, z2⟩ := hv2
  have typ : ∀ r : Option Value, (kp = none → r = some (.int 0)) → (∀ ps, kp = some ps → r = some (.int (nI (uC (kS ps) (kC ps) ps.length)))) → r = some (.int z) := by
    intro r r1 r2
    rcases hcase with e | ⟨ps, e⟩
    · rw [r1 e, z1 e]
    · rw [r2 ps e, z2 ps e]
  refine j_aload_n E dL_law_802 rfl ?_
  refine j_callV (np := 0) (C := RX6) (T := TX6) (N := 6) (ci := 7) E (c_stitches 0 R) gL_law_X6_stitches rfl ⟨rfl, by decide, by decide, by decide +kernel⟩ dL_law_803 (by omega) (by decide) rfl R1 rfl rfl (Nat.le_of_ble_eq_true rfl) (by omega) (by omega) (fun r h1 p => ?_)
  obtain ⟨rfl, p1, p2⟩ := p
  obtain rfl := typ r p1 p2
  refine J.wide (k' := k + 100) (n' := n + 1000) (by omega) (by omega) ?_
  refine j_aload_n E dL_law_806 rfl ?_
  refine j_callV (np := 0) (C := RX7) (T := TX7) (N := 27) (ci := 8) E (m_stitches 0 M K) gL_law_X7_stitches rfl ⟨rfl, by decide, by decide, by decide +kernel⟩ dL_law_807 (by omega) (by decide) rfl mo rfl rfl (Nat.le_of_ble_eq_true rfl) (by omega) (by omega) (fun r h2 p => ?_)
  obtain ⟨M2, p3, p4⟩ := p
  obtain rfl := typ r p3 p4
  refine J.wide (k' := k + 100) (n' := n + 1000) (by omega) (by omega) ?_
  obtain ⟨M3, R3, ho3⟩ := LW_step M2 ⟨_, _, _, _, _, R⟩ t1 ta uo ho M
  refine j_icmp_eq E (tgt := 1049) dL_law_810 (by decide) (fun c1 => ?_) (fun c1 => ?_)
  · exact kk h2 T _ _ _ _ (LW_fin ⟨hw, hkp, hu, hd⟩ R3 M3 (A.keep rfl ⟨rfl, rfl, rfl, rfl⟩ ⟨rfl, rfl, rfl⟩) (K.keep ⟨rfl, rfl, rfl, rfl, rfl⟩ ⟨rfl, rfl, rfl⟩ rfl) ta t1 t2 uo ho3)
  · exact absurd rfl c1
theorem case_clear (E : JE X RL cL_law 8 wsL_law ret B E0 D l v mc ms) (hXN : XN (jx_s X)) (hX : va_X b N xs (jx_s X) (jx_s X).heap) (hb : b < (jx_s X).heap.size ∧ b < B) (hN : N ≤ 3073) (hv : 40 ≤ v) (hi : i + 5 < N) (S : LW E0 h T x m ou d ss kp rg cl) (hk2 : k + 100 ≤ mc) (hs2 : n + 1000 ≤ ms) (kk : ∀ (h2 : HM) (T2 : Nat → Nat) (ss2 : List SH) (kp2 : Option KPs) (rg2 : List Nat) (cl2 : Prop), LW E0 h2 T2 x m ou d ss2 kp2 rg2 cl2 → J X B D 8 Q h2 (k + 100) (n + 1000) 1049 [(4, .int (nI i)), (3, .ref ou), (2, .ref m), (1, .ref x), (0, .ref b)] []) : J X B D 8 Q h k n 1038 [(4, .int (nI i)), (3, .ref ou), (2, .ref m), (1, .ref x), (0, .ref b)] [] := by
  obtain ⟨⟨hw, hkp, hu, hd⟩, ⟨gs, la, le, ra, kr, R⟩, ⟨a, s, I, G, M, A, K, ta⟩, t1, t2, uo, f, ho⟩ := S
  have R1 := R.2.1
  refine j_aload_n E dL_law_1038 rfl ?_
  refine j_callV (np := 0) (C := RX6) (T := TX6) (N := 6) (ci := 7) E (c_clear 0 R) gL_law_X6_clear rfl ⟨rfl, by decide, by decide, by decide +kernel⟩ dL_law_1039 (by omega) (by decide) rfl R1 rfl rfl (Nat.le_of_ble_eq_true rfl) (by omega) (by omega) (fun r h1 p => ?_)
  obtain ⟨rfl, R2, F⟩ := p
  refine J.wide (k' := k + 100) (n' := n + 1000) (by omega) (by omega) ?_
  have F2 : CFo h T h1 T ou := ⟨fun q q0 qt _ => F q q0 qt, t2⟩
  have ho1 : h1 ou = some (hJ 1 f) := (F ou (by rw [ho]; intro w; cases w) t2).1.trans ho
  obtain ⟨M1, ta1, t11⟩ := LW_over M ta t1 uo F2
  have mo := M1.obj
  refine j_aload_n E dL_law_1042 rfl ?_
  refine j_callV (np := 0) (C := RX7) (T := TX7) (N := 27) (ci := 8) E (m_clear0 0 M1) gL_law_X7_clear rfl ⟨rfl, by decide, by decide, by decide +kernel⟩ dL_law_1043 (by omega) (by decide) rfl mo rfl rfl (Nat.le_of_ble_eq_true rfl) (by omega) (by omega) (fun r h2 p => ?_)
  obtain ⟨rfl, s1, M2, A2, K2⟩ := p
  refine J.wide (k' := k + 100) (n' := n + 1000) (by omega) (by omega) ?_
  obtain ⟨M3, R3, ho3⟩ := LW_step M2 ⟨_, _, _, _, _, R2⟩ t11 ta1 uo ho1 M1
  refine j_goto E (tgt := 1049) dL_law_1046 (by decide) ?_
  exact kk h2 T _ _ _ _ (LW_fin ⟨⟨Nat.zero_le _, Nat.zero_le _, fun j hj => absurd hj (Nat.not_lt_zero _)⟩, fun ps e => (by cases e), UK.none [], hd⟩ R3 M3 A2 K2 ta1 t11 t2 uo ho3)
end LCS
