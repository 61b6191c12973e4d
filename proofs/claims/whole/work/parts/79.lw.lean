/-! the law's methods that catch -/
noncomputable def lB (p : Prop) : Int64 := cI p (lZ 1) (lZ 0)
noncomputable def cdRing (rg : List Nat) (z : Int32) : Int32 := cI (isx z rg.length) (0 : Int32) 1
def CRx (E0 : Nat) (h : HM) (T : Nat → Nat) (x : Nat) (d : Int) (ss : List SH) (kp : Option KPs) (rg : List Nat) (cl : Prop) : Prop := ∃ gs la le ra kr, CR E0 h T x d ss kp rg cl gs la le ra kr
def CFo (h : HM) (T : Nat → Nat) (h1 : HM) (T1 : Nat → Nat) (ou : Nat) : Prop := (∀ q, h q ≠ none → T q = 0 → q ≠ ou → h1 q = h q ∧ T1 q = 0) ∧ T1 ou = 0
def wP (E0 : Nat) (h : HM) (T : Nat → Nat) (ou x : Nat) (d : Int) (cd : Int32) (S : Int64 → List SH → Option KPs → List Nat → Prop → Prop) : Option Value → HM → Prop := fun r h1 => r = some (.int cd) ∧ ((¬ cd = 0 ∧ h1 = h) ∨ (cd = 0 ∧ ∃ ans ss1 kp1 rg1 cl1 T1 f1, S ans ss1 kp1 rg1 cl1 ∧ h1 ou = some (hJ 1 f1) ∧ f1 0 = ans ∧ CFo h T h1 T1 ou ∧ CRx E0 h1 T1 x d ss1 kp1 rg1 cl1))
theorem CF.rf {h : HM} {T : Nat → Nat} : CF h T h T := fun q _ t => ⟨rfl, t⟩
theorem CR.mv {E0 : Nat} {h : HM} {T : Nat → Nat} {c : Nat} {d : Int} {ss : List SH} {kp : Option KPs} {rg : List Nat} {cl : Prop} {gs : List SG} {la le ra : Nat} {kr : Value} (R : CR E0 h T c d ss kp rg cl gs la le ra kr) {h1 : HM} (hK : ∀ q, h q ≠ none → T q ≠ 0 → h1 q = h q) (hE : h1 E0 = h E0) : CR E0 h1 T c d ss kp rg cl gs la le ra kr := by
  have R0 := R
  obtain ⟨⟨f0, r0⟩, r1, r2, r3, r4, ⟨f, r5, r6, r7⟩, r8, t0, t1, t2, t3, t4⟩ := R
  have nn : ∀ {q o}, h q = some o → h q ≠ none := fun e w => by rw [e] at w; cases w
  exact R0.re (fun q q0 qt _ _ => hK q q0 qt) (fun _ _ => rfl) hE ((hK c (nn r1) (by omega)).trans r1) ⟨f, (hK ra (nn r5) (by omega)).trans r5, r6, r7⟩ (r8.keep (fun q q0 q6 => ⟨hK q q0 (by omega), rfl⟩))
theorem CRx.st {E0 : Nat} {h h1 : HM} {T T1 : Nat → Nat} {x ou : Nat} {d : Int} {ss : List SH} {kp : Option KPs} {rg : List Nat} {cl : Prop} {f : Nat → Int64} (R : CRx E0 h1 T1 x d ss kp rg cl) (F : CF h T h1 T1) (hou : h ou = some (hJ 1 f)) (t0 : T ou = 0) (g : Nat → Int64) : h1 ou = some (hJ 1 f) ∧ CFo h T (hput h1 ou (hJ 1 g)) T1 ou ∧ CRx E0 (hput h1 ou (hJ 1 g)) T1 x d ss kp rg cl := by
  obtain ⟨gs, la, le, ra, kr, R⟩ := R
  have hn : h ou ≠ none := by rw [hou]; intro w; cases w
  obtain ⟨e1, e2⟩ := F ou hn t0
  obtain ⟨f0, r0⟩ := R.1
  have h1o := e1.trans hou
  have ne : E0 ≠ ou := hm_ne r0 h1o (by intro z; cases z)
  refine ⟨h1o, ⟨fun q q0 qt qo => ⟨(hput_ne _ qo).trans (F q q0 qt).1, (F q q0 qt).2⟩, e2⟩, gs, la, le, ra, kr, R.mv (fun q q0 qt => hput_ne _ (fun e => qt (by rw [e]; exact e2))) (hput_ne _ ne)⟩
section LW
variable {l : Launch} {B E0 : Nat} {D : va_G} {h : HM} {T : Nat → Nat} {x ou : Nat} {d : Int} {ss : List SH} {kp : Option KPs} {rg : List Nat} {cl : Prop} {gs : List SG} {la le ra : Nat} {kr : Value} {f : Nat → Int64}
theorem w_shape (v : Nat) (R : CR E0 h T x d ss kp rg cl gs la le ra kr) (hw : wfSS ss) (hou : h ou = some (hJ 1 f)) (t0 : T ou = 0) : CW l B E0 D yL_shape wsL_shape (v + 8) 4 30 [.ref x, .ref ou] h (wP E0 h T ou x d (cdShape ss) (fun ans ss1 kp1 rg1 cl1 => ans = (nI ss.length).toInt64 ∧ ss1 = ss ++ [dS] ∧ kp1 = kp ∧ rg1 = rg ∧ cl1 = cl)) := by
  have R1 := R.2.1
  refine CW.of (cc := cL_shape) (maxL := 3) (ret := (some .int)) (hh := [(0, 8, 11, 13)]) (by decide) rfl (Nat.le_of_ble_eq_true rfl) (fun X E htab hXN => ?_)
  show J X B D 3 _ h 0 0 0 [(0, .ref x), (1, .ref ou)] []
  generalize hQ : jQ X B D _ _ _ = Q
  have fin : ∀ (h1 : HM) (T1 : Nat → Nat) (ans : Int64) (ss1 : List SH) (kp1 : Option KPs) (rg1 : List Nat) (cl1 : Prop), CRx E0 h1 T1 x d ss1 kp1 rg1 cl1 → CF h T h1 T1 → cdShape ss = 0 → (fun ans ss1 kp1 rg1 cl1 => ans = (nI ss.length).toInt64 ∧ ss1 = ss ++ [dS] ∧ kp1 = kp ∧ rg1 = rg ∧ cl1 = cl) ans ss1 kp1 rg1 cl1 → J X B D 3 Q h1 4 30 7 [(0, .ref x), (1, .ref ou)] [.long ans, .int (nI 0), .ref ou] := by
    intro h1 T1 ans ss1 kp1 rg1 cl1 R1 F1 hcd hS
    obtain ⟨hou1, F2, R2⟩ := R1.st F1 hou t0 (vp_updL f 0 ans)
    refine j_lastore E 0 dL_shape_7 hou1 rfl (by omega) (by omega) ?_
    refine j_goto E (tgt := 14) dL_shape_8 (by decide) ?_
    refine j_iconst (x := nI 0) E dL_shape_14 (by decide) ?_
    refine J.topi (x' := cdShape ss) (hcd.symm) ?_
    rw [← hQ]
    exact j_iret E dL_shape_15 rfl rfl (by omega) (by omega) ⟨rfl, Or.inr ⟨hcd, ans, ss1, kp1, rg1, cl1, T1, _, hS, hput_eq _ _ _, if_pos rfl, F2, R2⟩⟩
  have hd0 : cdShape ss = 1 → ∀ q : Nat, J X B D 3 Q h 4 30 11 [(0, .ref x), (1, .ref ou)] [.ref q] := by
    intro hcd q
    refine j_astore_n E dL_shape_11 (by decide) ?_
    refine j_iconst (x := nI 1) E dL_shape_12 (by decide) ?_
    refine J.topi (x' := cdShape ss) (hcd.symm) ?_
    rw [← hQ]
    exact j_iret E dL_shape_13 rfl rfl (by omega) (by omega) ⟨rfl, Or.inl ⟨fun z => absurd (hcd.symm.trans z) (by decide), rfl⟩⟩
  refine j_aload_n E dL_shape_0 rfl ?_
  refine j_iconst (x := nI 0) E dL_shape_1 (by decide) ?_
  refine j_aload_n E dL_shape_2 rfl ?_
  refine j_callX (np := 0) (C := RX6) (T := TX6) (N := 6) (ci := 7) E (c_shape v R hw) gL_shape_X6_shape rfl ⟨rfl, by decide, by decide, by decide +kernel⟩ dL_shape_3 (by omega) (by decide) rfl R1 rfl rfl (Nat.le_of_ble_eq_true rfl) (by omega) (by omega) (fun Ex h1 p => ?_) (fun r h1 p => ?_)
  · obtain ⟨rfl, rfl, hcd⟩ := p
    refine j_catch E htab [] [] (0, 8, 11, 13) rfl (fun z hz => absurd hz List.not_mem_nil) rfl (by decide) (by decide +kernel) (by decide) (fun q => J.wide (k' := 4) (n' := 30) (by omega) (by omega) (hd0 hcd q))
  · refine J.wide (k' := 4) (n' := 30) (by omega) (by omega) ?_
    obtain ⟨hcd, rfl, T1, gs1, le1, R1, F1⟩ := p
    refine j_i2l E dL_shape_6 ?_
    exact fin h1 T1 _ _ _ _ _ ⟨_, _, _, _, _, R1⟩ F1 hcd ⟨rfl, rfl, rfl, rfl, rfl⟩
theorem w_corner (v : Nat) (R : CR E0 h T x d ss kp rg cl gs la le ra kr) (hw : wfSS ss) (hd : 1 ≤ d ∧ d ≤ 65536) (z : Int32) (y1 y2 : Int64) (hou : h ou = some (hJ 1 f)) (t0 : T ou = 0) : CW l B E0 D yL_corner wsL_corner (v + 9) 3 25 [.ref x, .int z, .long y1, .long y2, .ref ou] h (wP E0 h T ou x d (cdCorner ss z y1 y2) (fun ans ss1 kp1 rg1 cl1 => ∃ j, j < ss.length ∧ z = nI j ∧ ans = lB ((nc (gS ss j) + 1) % 2 = 0) ∧ wfSS ss1 ∧ ss1 = addK ss j y1.toInt y2.toInt ∧ kp1 = kp ∧ rg1 = rg ∧ cl1 = cl)) := by
  have R1 := R.2.1
  refine CW.of (cc := cL_corner) (maxL := 8) (ret := (some .int)) (hh := [(0, 20, 23, 19), (0, 20, 27, 13), (0, 20, 31, 21)]) (by decide) rfl (Nat.le_of_ble_eq_true rfl) (fun X E htab hXN => ?_)
  show J X B D 8 _ h 0 0 0 [(0, .ref x), (1, .int z), (2, .long y1), (4, .long y2), (6, .ref ou)] []
  generalize hQ : jQ X B D _ _ _ = Q
  have fin : ∀ (h1 : HM) (T1 : Nat → Nat) (ans : Int64) (ss1 : List SH) (kp1 : Option KPs) (rg1 : List Nat) (cl1 : Prop), CRx E0 h1 T1 x d ss1 kp1 rg1 cl1 → CF h T h1 T1 → cdCorner ss z y1 y2 = 0 → (fun ans ss1 kp1 rg1 cl1 => ∃ j, j < ss.length ∧ z = nI j ∧ ans = lB ((nc (gS ss j) + 1) % 2 = 0) ∧ wfSS ss1 ∧ ss1 = addK ss j y1.toInt y2.toInt ∧ kp1 = kp ∧ rg1 = rg ∧ cl1 = cl) ans ss1 kp1 rg1 cl1 → J X B D 8 Q h1 3 25 19 [(0, .ref x), (1, .int z), (2, .long y1), (4, .long y2), (6, .ref ou)] [.long ans, .int (nI 0), .ref ou] := by
    intro h1 T1 ans ss1 kp1 rg1 cl1 R1 F1 hcd hS
    obtain ⟨hou1, F2, R2⟩ := R1.st F1 hou t0 (vp_updL f 0 ans)
    refine j_lastore E 0 dL_corner_19 hou1 rfl (by omega) (by omega) ?_
    refine j_goto E (tgt := 35) dL_corner_20 (by decide) ?_
    refine j_iconst (x := nI 0) E dL_corner_35 (by decide) ?_
    refine J.topi (x' := cdCorner ss z y1 y2) (hcd.symm) ?_
    rw [← hQ]
    exact j_iret E dL_corner_36 rfl rfl (by omega) (by omega) ⟨rfl, Or.inr ⟨hcd, ans, ss1, kp1, rg1, cl1, T1, _, hS, hput_eq _ _ _, if_pos rfl, F2, R2⟩⟩
  have bool : ∀ (p : Prop) (h1 : HM), (∀ ans, ans = lB p → J X B D 8 Q h1 3 25 19 [(0, .ref x), (1, .int z), (2, .long y1), (4, .long y2), (6, .ref ou)] [.long ans, .int (nI 0), .ref ou]) → J X B D 8 Q h1 3 25 11 [(0, .ref x), (1, .int z), (2, .long y1), (4, .long y2), (6, .ref ou)] [.int (bI p), .int (nI 0), .ref ou] := by
    intro p h1 kk
    refine j_if_eq E (tgt := 18) dL_corner_11 (by decide) (fun c1 => ?_) (fun c1 => ?_)
    ·
      refine j_lconst (x := lZ 0) E dL_corner_18 (by decide) ?_
      exact kk _ (cI_f (bI_z.mp c1)).symm
    ·
      refine j_lconst (x := lZ 1) E dL_corner_14 (by decide) ?_
      refine j_goto E (tgt := 19) dL_corner_15 (by decide) ?_
      exact kk _ (cI_t (bI_n.mp c1)).symm
  have hd0 : cdCorner ss z y1 y2 = 1 → ∀ q : Nat, J X B D 8 Q h 3 25 23 [(0, .ref x), (1, .int z), (2, .long y1), (4, .long y2), (6, .ref ou)] [.ref q] := by
    intro hcd q
    refine j_astore E dL_corner_23 (by decide) ?_
    refine j_iconst (x := nI 1) E dL_corner_25 (by decide) ?_
    refine J.topi (x' := cdCorner ss z y1 y2) (hcd.symm) ?_
    rw [← hQ]
    exact j_iret E dL_corner_26 rfl rfl (by omega) (by omega) ⟨rfl, Or.inl ⟨fun z => absurd (hcd.symm.trans z) (by decide), rfl⟩⟩
  have hd1 : cdCorner ss z y1 y2 = 2 → ∀ q : Nat, J X B D 8 Q h 3 25 27 [(0, .ref x), (1, .int z), (2, .long y1), (4, .long y2), (6, .ref ou)] [.ref q] := by
    intro hcd q
    refine j_astore E dL_corner_27 (by decide) ?_
    refine j_iconst (x := nI 2) E dL_corner_29 (by decide) ?_
    refine J.topi (x' := cdCorner ss z y1 y2) (hcd.symm) ?_
    rw [← hQ]
    exact j_iret E dL_corner_30 rfl rfl (by omega) (by omega) ⟨rfl, Or.inl ⟨fun z => absurd (hcd.symm.trans z) (by decide), rfl⟩⟩
  have hd2 : cdCorner ss z y1 y2 = 3 → ∀ q : Nat, J X B D 8 Q h 3 25 31 [(0, .ref x), (1, .int z), (2, .long y1), (4, .long y2), (6, .ref ou)] [.ref q] := by
    intro hcd q
    refine j_astore E dL_corner_31 (by decide) ?_
    refine j_iconst (x := nI 3) E dL_corner_33 (by decide) ?_
    refine J.topi (x' := cdCorner ss z y1 y2) (hcd.symm) ?_
    rw [← hQ]
    exact j_iret E dL_corner_34 rfl rfl (by omega) (by omega) ⟨rfl, Or.inl ⟨fun z => absurd (hcd.symm.trans z) (by decide), rfl⟩⟩
  refine j_aload E dL_corner_0 rfl ?_
  refine j_iconst (x := nI 0) E dL_corner_2 (by decide) ?_
  refine j_aload_n E dL_corner_3 rfl ?_
  refine j_iload_n E dL_corner_4 rfl ?_
  refine j_lload_n E dL_corner_5 rfl ?_
  refine j_lload E dL_corner_6 rfl ?_
  refine j_callX (np := 3) (C := RX6) (T := TX6) (N := 6) (ci := 7) E (c_corner v R hw hd z y1 y2) gL_corner_X6_corner rfl ⟨rfl, by decide, by decide, by decide +kernel⟩ dL_corner_8 (by omega) (by decide) rfl R1 rfl rfl (Nat.le_of_ble_eq_true rfl) (by omega) (by omega) (fun Ex h1 p => ?_) (fun r h1 p => ?_)
  · obtain ⟨rfl, p⟩ := p
    rcases p with ⟨rfl, hcd⟩ | ⟨rfl, hcd⟩ | ⟨rfl, hcd⟩
    · refine j_catch E htab [] [(0, 20, 27, 13), (0, 20, 31, 21)] (0, 20, 23, 19) rfl (fun z hz => absurd hz List.not_mem_nil) rfl (by decide) (by decide +kernel) (by decide) (fun q => J.wide (k' := 3) (n' := 25) (by omega) (by omega) (hd0 hcd q))
    · refine j_catch E htab [(0, 20, 23, 19)] [(0, 20, 31, 21)] (0, 20, 27, 13) rfl (fun z hz => ?_) rfl (by decide) (by decide +kernel) (by decide) (fun q => J.wide (k' := 3) (n' := 25) (by omega) (by omega) (hd1 hcd q))
      rw [List.mem_singleton] at hz
      subst hz
      exact ⟨eI, by decide +kernel, by decide, hXN.1⟩
    · refine j_catch E htab [(0, 20, 23, 19), (0, 20, 27, 13)] [] (0, 20, 31, 21) rfl (fun z hz => ?_) rfl (by decide) (by decide +kernel) (by decide) (fun q => J.wide (k' := 3) (n' := 25) (by omega) (by omega) (hd2 hcd q))
      rcases List.mem_cons.mp hz with rfl | hz
      · exact ⟨eI, by decide +kernel, by decide, hXN.2.1⟩
      · rw [List.mem_singleton] at hz
        subst hz
        exact ⟨eS, by decide +kernel, by decide, hXN.2.2⟩
  · refine J.wide (k' := 3) (n' := 25) (by omega) (by omega) ?_
    obtain ⟨hcd, j, hj, hz, rfl, hwf, T1, gs1, R1, F1⟩ := p
    exact bool _ h1 (fun ans ha => fin h1 T1 _ _ _ _ _ ⟨_, _, _, _, _, R1⟩ F1 hcd ⟨j, hj, hz, ha, hwf, rfl, rfl, rfl, rfl⟩)
theorem w_near (v : Nat) (R : CR E0 h T x d ss kp rg cl gs la le ra kr) (hw : wfSS ss) (hou : h ou = some (hJ 1 f)) (t0 : T ou = 0) : CW l B E0 D yL_near wsL_near (v + 8) 1 6 [.ref x, .ref ou] h (wP E0 h T ou x d (cdNear ss) (fun ans ss1 kp1 rg1 cl1 => ans = (nI (totC (nW d ss) ss.length ss.length)).toInt64 ∧ ss1 = ss ∧ kp1 = kp ∧ rg1 = rg ∧ cl1 = cl)) := by
  have R1 := R.2.1
  refine CW.of (cc := cL_near) (maxL := 3) (ret := (some .int)) (hh := [(0, 8, 11, 13)]) (by decide) rfl (Nat.le_of_ble_eq_true rfl) (fun X E htab hXN => ?_)
  show J X B D 3 _ h 0 0 0 [(0, .ref x), (1, .ref ou)] []
  generalize hQ : jQ X B D _ _ _ = Q
  have fin : ∀ (h1 : HM) (T1 : Nat → Nat) (ans : Int64) (ss1 : List SH) (kp1 : Option KPs) (rg1 : List Nat) (cl1 : Prop), CRx E0 h1 T1 x d ss1 kp1 rg1 cl1 → CF h T h1 T1 → cdNear ss = 0 → (fun ans ss1 kp1 rg1 cl1 => ans = (nI (totC (nW d ss) ss.length ss.length)).toInt64 ∧ ss1 = ss ∧ kp1 = kp ∧ rg1 = rg ∧ cl1 = cl) ans ss1 kp1 rg1 cl1 → J X B D 3 Q h1 1 6 7 [(0, .ref x), (1, .ref ou)] [.long ans, .int (nI 0), .ref ou] := by
    intro h1 T1 ans ss1 kp1 rg1 cl1 R1 F1 hcd hS
    obtain ⟨hou1, F2, R2⟩ := R1.st F1 hou t0 (vp_updL f 0 ans)
    refine j_lastore E 0 dL_near_7 hou1 rfl (by omega) (by omega) ?_
    refine j_goto E (tgt := 14) dL_near_8 (by decide) ?_
    refine j_iconst (x := nI 0) E dL_near_14 (by decide) ?_
    refine J.topi (x' := cdNear ss) (hcd.symm) ?_
    rw [← hQ]
    exact j_iret E dL_near_15 rfl rfl (by omega) (by omega) ⟨rfl, Or.inr ⟨hcd, ans, ss1, kp1, rg1, cl1, T1, _, hS, hput_eq _ _ _, if_pos rfl, F2, R2⟩⟩
  have hd0 : cdNear ss = 1 → ∀ q : Nat, J X B D 3 Q h 1 6 11 [(0, .ref x), (1, .ref ou)] [.ref q] := by
    intro hcd q
    refine j_astore_n E dL_near_11 (by decide) ?_
    refine j_iconst (x := nI 1) E dL_near_12 (by decide) ?_
    refine J.topi (x' := cdNear ss) (hcd.symm) ?_
    rw [← hQ]
    exact j_iret E dL_near_13 rfl rfl (by omega) (by omega) ⟨rfl, Or.inl ⟨fun z => absurd (hcd.symm.trans z) (by decide), rfl⟩⟩
  refine j_aload_n E dL_near_0 rfl ?_
  refine j_iconst (x := nI 0) E dL_near_1 (by decide) ?_
  refine j_aload_n E dL_near_2 rfl ?_
  refine j_callX (np := 0) (C := RX6) (T := TX6) (N := 6) (ci := 7) E (c_near v R hw) gL_near_X6_near rfl ⟨rfl, by decide, by decide, by decide +kernel⟩ dL_near_3 (by omega) (by decide) rfl R1 rfl rfl (Nat.le_of_ble_eq_true rfl) (by omega) (by omega) (fun Ex h1 p => ?_) (fun r h1 p => ?_)
  · obtain ⟨rfl, rfl, hop⟩ := p
    have hcd : cdNear ss = 1 := bI_t hop
    refine j_catch E htab [] [] (0, 8, 11, 13) rfl (fun z hz => absurd hz List.not_mem_nil) rfl (by decide) (by decide +kernel) (by decide) (fun q => J.wide (k' := 1) (n' := 6) (by omega) (by omega) (hd0 hcd q))
  · refine J.wide (k' := 1) (n' := 6) (by omega) (by omega) ?_
    obtain ⟨rfl, nop, rfl⟩ := p
    refine j_i2l E dL_near_6 ?_
    exact fin h1 T _ _ _ _ _ ⟨_, _, _, _, _, R⟩ CF.rf (bI_f nop) ⟨rfl, rfl, rfl, rfl, rfl⟩
theorem w_run (v : Nat) (R : CR E0 h T x d ss kp rg cl gs la le ra kr) (hw : wfSS ss) (hd : 1 ≤ d ∧ d ≤ 65536) (z : Int32) (y1 : Int64) (hou : h ou = some (hJ 1 f)) (t0 : T ou = 0) : CW l B E0 D yL_run wsL_run (v + 31) 80 640 [.ref x, .int z, .long y1, .ref ou] h (wP E0 h T ou x d (cdRun ss z y1) (fun ans ss1 kp1 rg1 cl1 => ss1 = ss ∧ ((¬ lZ (tS ss ss.length : Nat) ≤ y1 ∧ ans = (Int32.ofNat 2).toInt64 ∧ kp1 = kp ∧ rg1 = rg ∧ cl1 = False) ∨ (lZ (tS ss ss.length : Nat) ≤ y1 ∧ ∃ many, many ≤ 4 ∧ z = nI many ∧ runR d ss many kp1 rg1 ∧ cl1 = True ∧ ((kp1 = none ∧ ans = (Int32.ofNat 1).toInt64) ∨ (¬ kp1 = none ∧ ans = (Int32.ofNat 0).toInt64)))))) := by
  have R1 := R.2.1
  refine CW.of (cc := cL_run) (maxL := 6) (ret := (some .int)) (hh := [(0, 11, 14, 13), (0, 11, 18, 21)]) (by decide) rfl (Nat.le_of_ble_eq_true rfl) (fun X E htab hXN => ?_)
  show J X B D 6 _ h 0 0 0 [(0, .ref x), (1, .int z), (2, .long y1), (4, .ref ou)] []
  generalize hQ : jQ X B D _ _ _ = Q
  have fin : ∀ (h1 : HM) (T1 : Nat → Nat) (ans : Int64) (ss1 : List SH) (kp1 : Option KPs) (rg1 : List Nat) (cl1 : Prop), CRx E0 h1 T1 x d ss1 kp1 rg1 cl1 → CF h T h1 T1 → cdRun ss z y1 = 0 → (fun ans ss1 kp1 rg1 cl1 => ss1 = ss ∧ ((¬ lZ (tS ss ss.length : Nat) ≤ y1 ∧ ans = (Int32.ofNat 2).toInt64 ∧ kp1 = kp ∧ rg1 = rg ∧ cl1 = False) ∨ (lZ (tS ss ss.length : Nat) ≤ y1 ∧ ∃ many, many ≤ 4 ∧ z = nI many ∧ runR d ss many kp1 rg1 ∧ cl1 = True ∧ ((kp1 = none ∧ ans = (Int32.ofNat 1).toInt64) ∨ (¬ kp1 = none ∧ ans = (Int32.ofNat 0).toInt64))))) ans ss1 kp1 rg1 cl1 → J X B D 6 Q h1 80 640 10 [(0, .ref x), (1, .int z), (2, .long y1), (4, .ref ou)] [.long ans, .int (nI 0), .ref ou] := by
    intro h1 T1 ans ss1 kp1 rg1 cl1 R1 F1 hcd hS
    obtain ⟨hou1, F2, R2⟩ := R1.st F1 hou t0 (vp_updL f 0 ans)
    refine j_lastore E 0 dL_run_10 hou1 rfl (by omega) (by omega) ?_
    refine j_goto E (tgt := 22) dL_run_11 (by decide) ?_
    refine j_iconst (x := nI 0) E dL_run_22 (by decide) ?_
    refine J.topi (x' := cdRun ss z y1) (hcd.symm) ?_
    rw [← hQ]
    exact j_iret E dL_run_23 rfl rfl (by omega) (by omega) ⟨rfl, Or.inr ⟨hcd, ans, ss1, kp1, rg1, cl1, T1, _, hS, hput_eq _ _ _, if_pos rfl, F2, R2⟩⟩
  have hd0 : cdRun ss z y1 = 1 → ∀ q : Nat, J X B D 6 Q h 80 640 14 [(0, .ref x), (1, .int z), (2, .long y1), (4, .ref ou)] [.ref q] := by
    intro hcd q
    refine j_astore E dL_run_14 (by decide) ?_
    refine j_iconst (x := nI 1) E dL_run_16 (by decide) ?_
    refine J.topi (x' := cdRun ss z y1) (hcd.symm) ?_
    rw [← hQ]
    exact j_iret E dL_run_17 rfl rfl (by omega) (by omega) ⟨rfl, Or.inl ⟨fun z => absurd (hcd.symm.trans z) (by decide), rfl⟩⟩
  have hd1 : cdRun ss z y1 = 2 → ∀ q : Nat, J X B D 6 Q h 80 640 18 [(0, .ref x), (1, .int z), (2, .long y1), (4, .ref ou)] [.ref q] := by
    intro hcd q
    refine j_astore E dL_run_18 (by decide) ?_
    refine j_iconst (x := nI 2) E dL_run_20 (by decide) ?_
    refine J.topi (x' := cdRun ss z y1) (hcd.symm) ?_
    rw [← hQ]
    exact j_iret E dL_run_21 rfl rfl (by omega) (by omega) ⟨rfl, Or.inl ⟨fun z => absurd (hcd.symm.trans z) (by decide), rfl⟩⟩
  refine j_aload E dL_run_0 rfl ?_
  refine j_iconst (x := nI 0) E dL_run_2 (by decide) ?_
  refine j_aload_n E dL_run_3 rfl ?_
  refine j_iload_n E dL_run_4 rfl ?_
  refine j_lload_n E dL_run_5 rfl ?_
  refine j_callX (np := 2) (C := RX6) (T := TX6) (N := 6) (ci := 7) E (c_run v R hw hd z y1) gL_run_X6_run rfl ⟨rfl, by decide, by decide, by decide +kernel⟩ dL_run_6 (by omega) (by decide) rfl R1 rfl rfl (Nat.le_of_ble_eq_true rfl) (by omega) (by omega) (fun Ex h1 p => ?_) (fun r h1 p => ?_)
  · obtain ⟨rfl, p⟩ := p
    rcases p with ⟨rfl, hcd⟩ | ⟨rfl, hcd⟩
    · refine j_catch E htab [] [(0, 11, 18, 21)] (0, 11, 14, 13) rfl (fun z hz => absurd hz List.not_mem_nil) rfl (by decide) (by decide +kernel) (by decide) (fun q => J.wide (k' := 80) (n' := 640) (by omega) (by omega) (hd0 hcd q))
    · refine j_catch E htab [(0, 11, 14, 13)] [] (0, 11, 18, 21) rfl (fun z hz => ?_) rfl (by decide) (by decide +kernel) (by decide) (fun q => J.wide (k' := 80) (n' := 640) (by omega) (by omega) (hd1 hcd q))
      rw [List.mem_singleton] at hz
      subst hz
      exact ⟨eS, by decide +kernel, by decide, hXN.2.2⟩
  · refine J.wide (k' := 80) (n' := 640) (by omega) (by omega) ?_
    obtain ⟨hcd, pa, pb⟩ := p
    by_cases hle : lZ (tS ss ss.length : Nat) ≤ y1
    · obtain ⟨many, kp1, rg1, T1, kr1, m4, hz, run, R1, F1, pr⟩ := pb hle
      rcases pr with ⟨k0, rfl⟩ | ⟨k0, rfl⟩
      ·
        refine j_i2l E dL_run_9 ?_
        exact fin h1 T1 _ _ _ _ _ ⟨_, _, _, _, _, R1⟩ F1 hcd ⟨rfl, Or.inr ⟨hle, many, m4, hz, run, rfl, Or.inl ⟨k0, rfl⟩⟩⟩
      ·
        refine j_i2l E dL_run_9 ?_
        exact fin h1 T1 _ _ _ _ _ ⟨_, _, _, _, _, R1⟩ F1 hcd ⟨rfl, Or.inr ⟨hle, many, m4, hz, run, rfl, Or.inr ⟨k0, rfl⟩⟩⟩
    · obtain ⟨rfl, R1, F1⟩ := pa hle
      refine j_i2l E dL_run_9 ?_
      exact fin h1 T _ _ _ _ _ ⟨_, _, _, _, _, R1⟩ F1 hcd ⟨rfl, Or.inl ⟨hle, rfl, rfl, rfl, rfl⟩⟩
theorem w_colour (v : Nat) (R : CR E0 h T x d ss kp rg cl gs la le ra kr) (hw : wfSS ss) (z : Int32) (hou : h ou = some (hJ 1 f)) (t0 : T ou = 0) : CW l B E0 D yL_colour wsL_colour (v + 8) 1 6 [.ref x, .int z, .ref ou] h (wP E0 h T ou x d (cdColour ss z) (fun ans ss1 kp1 rg1 cl1 => (∃ j, j < ss.length ∧ z = nI j ∧ ((∃ ps f, kp = some ps ∧ isF ps j f ∧ ans = (nI (kC ps f)).toInt64) ∨ ((∀ ps f, kp = some ps → ¬ isF ps j f) ∧ ans = (-1 : Int32).toInt64))) ∧ ss1 = ss ∧ kp1 = kp ∧ rg1 = rg ∧ cl1 = cl)) := by
  have R1 := R.2.1
  refine CW.of (cc := cL_colour) (maxL := 4) (ret := (some .int)) (hh := [(0, 9, 12, 19)]) (by decide) rfl (Nat.le_of_ble_eq_true rfl) (fun X E htab hXN => ?_)
  show J X B D 4 _ h 0 0 0 [(0, .ref x), (1, .int z), (2, .ref ou)] []
  generalize hQ : jQ X B D _ _ _ = Q
  have fin : ∀ (h1 : HM) (T1 : Nat → Nat) (ans : Int64) (ss1 : List SH) (kp1 : Option KPs) (rg1 : List Nat) (cl1 : Prop), CRx E0 h1 T1 x d ss1 kp1 rg1 cl1 → CF h T h1 T1 → cdColour ss z = 0 → (fun ans ss1 kp1 rg1 cl1 => (∃ j, j < ss.length ∧ z = nI j ∧ ((∃ ps f, kp = some ps ∧ isF ps j f ∧ ans = (nI (kC ps f)).toInt64) ∨ ((∀ ps f, kp = some ps → ¬ isF ps j f) ∧ ans = (-1 : Int32).toInt64))) ∧ ss1 = ss ∧ kp1 = kp ∧ rg1 = rg ∧ cl1 = cl) ans ss1 kp1 rg1 cl1 → J X B D 4 Q h1 1 6 8 [(0, .ref x), (1, .int z), (2, .ref ou)] [.long ans, .int (nI 0), .ref ou] := by
    intro h1 T1 ans ss1 kp1 rg1 cl1 R1 F1 hcd hS
    obtain ⟨hou1, F2, R2⟩ := R1.st F1 hou t0 (vp_updL f 0 ans)
    refine j_lastore E 0 dL_colour_8 hou1 rfl (by omega) (by omega) ?_
    refine j_goto E (tgt := 15) dL_colour_9 (by decide) ?_
    refine j_iconst (x := nI 0) E dL_colour_15 (by decide) ?_
    refine J.topi (x' := cdColour ss z) (hcd.symm) ?_
    rw [← hQ]
    exact j_iret E dL_colour_16 rfl rfl (by omega) (by omega) ⟨rfl, Or.inr ⟨hcd, ans, ss1, kp1, rg1, cl1, T1, _, hS, hput_eq _ _ _, if_pos rfl, F2, R2⟩⟩
  have hd0 : cdColour ss z = 1 → ∀ q : Nat, J X B D 4 Q h 1 6 12 [(0, .ref x), (1, .int z), (2, .ref ou)] [.ref q] := by
    intro hcd q
    refine j_astore_n E dL_colour_12 (by decide) ?_
    refine j_iconst (x := nI 1) E dL_colour_13 (by decide) ?_
    refine J.topi (x' := cdColour ss z) (hcd.symm) ?_
    rw [← hQ]
    exact j_iret E dL_colour_14 rfl rfl (by omega) (by omega) ⟨rfl, Or.inl ⟨fun z => absurd (hcd.symm.trans z) (by decide), rfl⟩⟩
  refine j_aload_n E dL_colour_0 rfl ?_
  refine j_iconst (x := nI 0) E dL_colour_1 (by decide) ?_
  refine j_aload_n E dL_colour_2 rfl ?_
  refine j_iload_n E dL_colour_3 rfl ?_
  refine j_callX (np := 1) (C := RX6) (T := TX6) (N := 6) (ci := 7) E (c_colour v R hw z) gL_colour_X6_colour rfl ⟨rfl, by decide, by decide, by decide +kernel⟩ dL_colour_4 (by omega) (by decide) rfl R1 rfl rfl (Nat.le_of_ble_eq_true rfl) (by omega) (by omega) (fun Ex h1 p => ?_) (fun r h1 p => ?_)
  · obtain ⟨rfl, rfl, hno⟩ := p
    have hcd : cdColour ss z = 1 := cI_f hno
    refine j_catch E htab [] [] (0, 9, 12, 19) rfl (fun z hz => absurd hz List.not_mem_nil) rfl (by decide) (by decide +kernel) (by decide) (fun q => J.wide (k' := 1) (n' := 6) (by omega) (by omega) (hd0 hcd q))
  · refine J.wide (k' := 1) (n' := 6) (by omega) (by omega) ?_
    obtain ⟨rfl, j, hj, hz, pr⟩ := p
    have hcd : cdColour ss z = 0 := cI_t ⟨j, hj, hz⟩
    rcases pr with ⟨ps, f, e1, e2, rfl⟩ | ⟨e1, rfl⟩
    ·
      refine j_i2l E dL_colour_7 ?_
      exact fin h1 T _ _ _ _ _ ⟨_, _, _, _, _, R⟩ CF.rf hcd ⟨⟨j, hj, hz, Or.inl ⟨ps, f, e1, e2, rfl⟩⟩, rfl, rfl, rfl, rfl⟩
    ·
      refine j_i2l E dL_colour_7 ?_
      exact fin h1 T _ _ _ _ _ ⟨_, _, _, _, _, R⟩ CF.rf hcd ⟨⟨j, hj, hz, Or.inr ⟨e1, rfl⟩⟩, rfl, rfl, rfl, rfl⟩
theorem w_ring (v : Nat) (R : CR E0 h T x d ss kp rg cl gs la le ra kr) (hw : wfSS ss) (z : Int32) (hou : h ou = some (hJ 1 f)) (t0 : T ou = 0) : CW l B E0 D yL_ring wsL_ring (v + 7) 1 6 [.ref x, .int z, .ref ou] h (wP E0 h T ou x d (cdRing rg z) (fun ans ss1 kp1 rg1 cl1 => (∃ j, j < rg.length ∧ z = nI j ∧ ans = (nI (rg.getD j 0)).toInt64) ∧ ss1 = ss ∧ kp1 = kp ∧ rg1 = rg ∧ cl1 = cl)) := by
  have R1 := R.2.1
  refine CW.of (cc := cL_ring) (maxL := 4) (ret := (some .int)) (hh := [(0, 9, 12, 19)]) (by decide) rfl (Nat.le_of_ble_eq_true rfl) (fun X E htab hXN => ?_)
  show J X B D 4 _ h 0 0 0 [(0, .ref x), (1, .int z), (2, .ref ou)] []
  generalize hQ : jQ X B D _ _ _ = Q
  have fin : ∀ (h1 : HM) (T1 : Nat → Nat) (ans : Int64) (ss1 : List SH) (kp1 : Option KPs) (rg1 : List Nat) (cl1 : Prop), CRx E0 h1 T1 x d ss1 kp1 rg1 cl1 → CF h T h1 T1 → cdRing rg z = 0 → (fun ans ss1 kp1 rg1 cl1 => (∃ j, j < rg.length ∧ z = nI j ∧ ans = (nI (rg.getD j 0)).toInt64) ∧ ss1 = ss ∧ kp1 = kp ∧ rg1 = rg ∧ cl1 = cl) ans ss1 kp1 rg1 cl1 → J X B D 4 Q h1 1 6 8 [(0, .ref x), (1, .int z), (2, .ref ou)] [.long ans, .int (nI 0), .ref ou] := by
    intro h1 T1 ans ss1 kp1 rg1 cl1 R1 F1 hcd hS
    obtain ⟨hou1, F2, R2⟩ := R1.st F1 hou t0 (vp_updL f 0 ans)
    refine j_lastore E 0 dL_ring_8 hou1 rfl (by omega) (by omega) ?_
    refine j_goto E (tgt := 15) dL_ring_9 (by decide) ?_
    refine j_iconst (x := nI 0) E dL_ring_15 (by decide) ?_
    refine J.topi (x' := cdRing rg z) (hcd.symm) ?_
    rw [← hQ]
    exact j_iret E dL_ring_16 rfl rfl (by omega) (by omega) ⟨rfl, Or.inr ⟨hcd, ans, ss1, kp1, rg1, cl1, T1, _, hS, hput_eq _ _ _, if_pos rfl, F2, R2⟩⟩
  have hd0 : cdRing rg z = 1 → ∀ q : Nat, J X B D 4 Q h 1 6 12 [(0, .ref x), (1, .int z), (2, .ref ou)] [.ref q] := by
    intro hcd q
    refine j_astore_n E dL_ring_12 (by decide) ?_
    refine j_iconst (x := nI 1) E dL_ring_13 (by decide) ?_
    refine J.topi (x' := cdRing rg z) (hcd.symm) ?_
    rw [← hQ]
    exact j_iret E dL_ring_14 rfl rfl (by omega) (by omega) ⟨rfl, Or.inl ⟨fun z => absurd (hcd.symm.trans z) (by decide), rfl⟩⟩
  refine j_aload_n E dL_ring_0 rfl ?_
  refine j_iconst (x := nI 0) E dL_ring_1 (by decide) ?_
  refine j_aload_n E dL_ring_2 rfl ?_
  refine j_iload_n E dL_ring_3 rfl ?_
  refine j_callX (np := 1) (C := RX6) (T := TX6) (N := 6) (ci := 7) E (c_ring v R z) gL_ring_X6_ring rfl ⟨rfl, by decide, by decide, by decide +kernel⟩ dL_ring_4 (by omega) (by decide) rfl R1 rfl rfl (Nat.le_of_ble_eq_true rfl) (by omega) (by omega) (fun Ex h1 p => ?_) (fun r h1 p => ?_)
  · obtain ⟨rfl, rfl, hno⟩ := p
    have hcd : cdRing rg z = 1 := cI_f hno
    refine j_catch E htab [] [] (0, 9, 12, 19) rfl (fun z hz => absurd hz List.not_mem_nil) rfl (by decide) (by decide +kernel) (by decide) (fun q => J.wide (k' := 1) (n' := 6) (by omega) (by omega) (hd0 hcd q))
  · refine J.wide (k' := 1) (n' := 6) (by omega) (by omega) ?_
    obtain ⟨rfl, j, hj, hz, rfl⟩ := p
    refine j_i2l E dL_ring_7 ?_
    exact fin h1 T _ _ _ _ _ ⟨_, _, _, _, _, R⟩ CF.rf (cI_t ⟨j, hj, hz⟩) ⟨⟨j, hj, hz, rfl⟩, rfl, rfl, rfl, rfl⟩
theorem w_pre (v : Nat) (R : CR E0 h T x d ss kp rg cl gs la le ra kr) (hw : wfSS ss) (z y1 : Int32) (hou : h ou = some (hJ 1 f)) (t0 : T ou = 0) : CW l B E0 D yL_pre wsL_pre (v + 8) 3 18 [.ref x, .int z, .int y1, .ref ou] h (wP E0 h T ou x d (cdPre ss z y1) (fun ans ss1 kp1 rg1 cl1 => ∃ j, j < ss.length ∧ z = nI j ∧ ans = lB (¬ tl (gS ss j) = y1.toInt) ∧ ss1 = setT ss j y1.toInt ∧ kp1 = kp ∧ rg1 = rg ∧ cl1 = cl)) := by
  have R1 := R.2.1
  refine CW.of (cc := cL_pre) (maxL := 5) (ret := (some .int)) (hh := [(0, 17, 20, 19), (0, 17, 24, 13), (0, 17, 28, 21)]) (by decide) rfl (Nat.le_of_ble_eq_true rfl) (fun X E htab hXN => ?_)
  show J X B D 5 _ h 0 0 0 [(0, .ref x), (1, .int z), (2, .int y1), (3, .ref ou)] []
  generalize hQ : jQ X B D _ _ _ = Q
  have fin : ∀ (h1 : HM) (T1 : Nat → Nat) (ans : Int64) (ss1 : List SH) (kp1 : Option KPs) (rg1 : List Nat) (cl1 : Prop), CRx E0 h1 T1 x d ss1 kp1 rg1 cl1 → CF h T h1 T1 → cdPre ss z y1 = 0 → (fun ans ss1 kp1 rg1 cl1 => ∃ j, j < ss.length ∧ z = nI j ∧ ans = lB (¬ tl (gS ss j) = y1.toInt) ∧ ss1 = setT ss j y1.toInt ∧ kp1 = kp ∧ rg1 = rg ∧ cl1 = cl) ans ss1 kp1 rg1 cl1 → J X B D 5 Q h1 3 18 16 [(0, .ref x), (1, .int z), (2, .int y1), (3, .ref ou)] [.long ans, .int (nI 0), .ref ou] := by
    intro h1 T1 ans ss1 kp1 rg1 cl1 R1 F1 hcd hS
    obtain ⟨hou1, F2, R2⟩ := R1.st F1 hou t0 (vp_updL f 0 ans)
    refine j_lastore E 0 dL_pre_16 hou1 rfl (by omega) (by omega) ?_
    refine j_goto E (tgt := 32) dL_pre_17 (by decide) ?_
    refine j_iconst (x := nI 0) E dL_pre_32 (by decide) ?_
    refine J.topi (x' := cdPre ss z y1) (hcd.symm) ?_
    rw [← hQ]
    exact j_iret E dL_pre_33 rfl rfl (by omega) (by omega) ⟨rfl, Or.inr ⟨hcd, ans, ss1, kp1, rg1, cl1, T1, _, hS, hput_eq _ _ _, if_pos rfl, F2, R2⟩⟩
  have bool : ∀ (p : Prop) (h1 : HM), (∀ ans, ans = lB p → J X B D 5 Q h1 3 18 16 [(0, .ref x), (1, .int z), (2, .int y1), (3, .ref ou)] [.long ans, .int (nI 0), .ref ou]) → J X B D 5 Q h1 3 18 8 [(0, .ref x), (1, .int z), (2, .int y1), (3, .ref ou)] [.int (bI p), .int (nI 0), .ref ou] := by
    intro p h1 kk
    refine j_if_eq E (tgt := 15) dL_pre_8 (by decide) (fun c1 => ?_) (fun c1 => ?_)
    ·
      refine j_lconst (x := lZ 0) E dL_pre_15 (by decide) ?_
      exact kk _ (cI_f (bI_z.mp c1)).symm
    ·
      refine j_lconst (x := lZ 1) E dL_pre_11 (by decide) ?_
      refine j_goto E (tgt := 16) dL_pre_12 (by decide) ?_
      exact kk _ (cI_t (bI_n.mp c1)).symm
  have hd0 : cdPre ss z y1 = 1 → ∀ q : Nat, J X B D 5 Q h 3 18 20 [(0, .ref x), (1, .int z), (2, .int y1), (3, .ref ou)] [.ref q] := by
    intro hcd q
    refine j_astore E dL_pre_20 (by decide) ?_
    refine j_iconst (x := nI 1) E dL_pre_22 (by decide) ?_
    refine J.topi (x' := cdPre ss z y1) (hcd.symm) ?_
    rw [← hQ]
    exact j_iret E dL_pre_23 rfl rfl (by omega) (by omega) ⟨rfl, Or.inl ⟨fun z => absurd (hcd.symm.trans z) (by decide), rfl⟩⟩
  have hd1 : cdPre ss z y1 = 2 → ∀ q : Nat, J X B D 5 Q h 3 18 24 [(0, .ref x), (1, .int z), (2, .int y1), (3, .ref ou)] [.ref q] := by
    intro hcd q
    refine j_astore E dL_pre_24 (by decide) ?_
    refine j_iconst (x := nI 2) E dL_pre_26 (by decide) ?_
    refine J.topi (x' := cdPre ss z y1) (hcd.symm) ?_
    rw [← hQ]
    exact j_iret E dL_pre_27 rfl rfl (by omega) (by omega) ⟨rfl, Or.inl ⟨fun z => absurd (hcd.symm.trans z) (by decide), rfl⟩⟩
  have hd2 : cdPre ss z y1 = 3 → ∀ q : Nat, J X B D 5 Q h 3 18 28 [(0, .ref x), (1, .int z), (2, .int y1), (3, .ref ou)] [.ref q] := by
    intro hcd q
    refine j_astore E dL_pre_28 (by decide) ?_
    refine j_iconst (x := nI 3) E dL_pre_30 (by decide) ?_
    refine J.topi (x' := cdPre ss z y1) (hcd.symm) ?_
    rw [← hQ]
    exact j_iret E dL_pre_31 rfl rfl (by omega) (by omega) ⟨rfl, Or.inl ⟨fun z => absurd (hcd.symm.trans z) (by decide), rfl⟩⟩
  refine j_aload_n E dL_pre_0 rfl ?_
  refine j_iconst (x := nI 0) E dL_pre_1 (by decide) ?_
  refine j_aload_n E dL_pre_2 rfl ?_
  refine j_iload_n E dL_pre_3 rfl ?_
  refine j_iload_n E dL_pre_4 rfl ?_
  refine j_callX (np := 2) (C := RX6) (T := TX6) (N := 6) (ci := 7) E (c_pre v R hw z y1) gL_pre_X6_pre rfl ⟨rfl, by decide, by decide, by decide +kernel⟩ dL_pre_5 (by omega) (by decide) rfl R1 rfl rfl (Nat.le_of_ble_eq_true rfl) (by omega) (by omega) (fun Ex h1 p => ?_) (fun r h1 p => ?_)
  · obtain ⟨rfl, p⟩ := p
    rcases p with ⟨rfl, hcd⟩ | ⟨rfl, hcd⟩ | ⟨rfl, hcd⟩
    · refine j_catch E htab [] [(0, 17, 24, 13), (0, 17, 28, 21)] (0, 17, 20, 19) rfl (fun z hz => absurd hz List.not_mem_nil) rfl (by decide) (by decide +kernel) (by decide) (fun q => J.wide (k' := 3) (n' := 18) (by omega) (by omega) (hd0 hcd q))
    · refine j_catch E htab [(0, 17, 20, 19)] [(0, 17, 28, 21)] (0, 17, 24, 13) rfl (fun z hz => ?_) rfl (by decide) (by decide +kernel) (by decide) (fun q => J.wide (k' := 3) (n' := 18) (by omega) (by omega) (hd1 hcd q))
      rw [List.mem_singleton] at hz
      subst hz
      exact ⟨eI, by decide +kernel, by decide, hXN.1⟩
    · refine j_catch E htab [(0, 17, 20, 19), (0, 17, 24, 13)] [] (0, 17, 28, 21) rfl (fun z hz => ?_) rfl (by decide) (by decide +kernel) (by decide) (fun q => J.wide (k' := 3) (n' := 18) (by omega) (by omega) (hd2 hcd q))
      rcases List.mem_cons.mp hz with rfl | hz
      · exact ⟨eI, by decide +kernel, by decide, hXN.2.1⟩
      · rw [List.mem_singleton] at hz
        subst hz
        exact ⟨eS, by decide +kernel, by decide, hXN.2.2⟩
  · refine J.wide (k' := 3) (n' := 18) (by omega) (by omega) ?_
    obtain ⟨hcd, j, hj, hz, rfl, R1, F1⟩ := p
    exact bool _ h1 (fun ans ha => fin h1 T _ _ _ _ _ ⟨_, _, _, _, _, R1⟩ F1 hcd ⟨j, hj, hz, ha, rfl, rfl, rfl, rfl⟩)
theorem w_stitch (v : Nat) (R : CR E0 h T x d ss kp rg cl gs la le ra kr) (hw : wfSS ss) (z : Int32) (y1 : Int64) {w : Int} (hww : w = 0 ∨ w = 1) (hou : h ou = some (hJ 1 f)) (t0 : T ou = 0) : CW l B E0 D yL_stitch wsL_stitch (v + 8) 3 18 [.ref x, .int z, .long y1, .int (iZ w), .ref ou] h (wP E0 h T ou x d (cdStitch ss z y1 w) (fun ans ss1 kp1 rg1 cl1 => ∃ j, j < ss.length ∧ z = nI j ∧ ans = lB (¬ hasC (gS ss j) w y1) ∧ (hasC (gS ss j) w y1 → ss1 = ss) ∧ (¬ hasC (gS ss j) w y1 → ss1 = insS ss j y1.toInt w) ∧ kp1 = kp ∧ rg1 = rg ∧ cl1 = cl)) := by
  have R1 := R.2.1
  refine CW.of (cc := cL_stitch) (maxL := 7) (ret := (some .int)) (hh := [(0, 20, 23, 19), (0, 20, 27, 13), (0, 20, 31, 21)]) (by decide) rfl (Nat.le_of_ble_eq_true rfl) (fun X E htab hXN => ?_)
  show J X B D 7 _ h 0 0 0 [(0, .ref x), (1, .int z), (2, .long y1), (4, .int (iZ w)), (5, .ref ou)] []
  generalize hQ : jQ X B D _ _ _ = Q
  have fin : ∀ (h1 : HM) (T1 : Nat → Nat) (ans : Int64) (ss1 : List SH) (kp1 : Option KPs) (rg1 : List Nat) (cl1 : Prop), CRx E0 h1 T1 x d ss1 kp1 rg1 cl1 → CF h T h1 T1 → cdStitch ss z y1 w = 0 → (fun ans ss1 kp1 rg1 cl1 => ∃ j, j < ss.length ∧ z = nI j ∧ ans = lB (¬ hasC (gS ss j) w y1) ∧ (hasC (gS ss j) w y1 → ss1 = ss) ∧ (¬ hasC (gS ss j) w y1 → ss1 = insS ss j y1.toInt w) ∧ kp1 = kp ∧ rg1 = rg ∧ cl1 = cl) ans ss1 kp1 rg1 cl1 → J X B D 7 Q h1 3 18 19 [(0, .ref x), (1, .int z), (2, .long y1), (4, .int (iZ w)), (5, .ref ou)] [.long ans, .int (nI 0), .ref ou] := by
    intro h1 T1 ans ss1 kp1 rg1 cl1 R1 F1 hcd hS
    obtain ⟨hou1, F2, R2⟩ := R1.st F1 hou t0 (vp_updL f 0 ans)
    refine j_lastore E 0 dL_stitch_19 hou1 rfl (by omega) (by omega) ?_
    refine j_goto E (tgt := 35) dL_stitch_20 (by decide) ?_
    refine j_iconst (x := nI 0) E dL_stitch_35 (by decide) ?_
    refine J.topi (x' := cdStitch ss z y1 w) (hcd.symm) ?_
    rw [← hQ]
    exact j_iret E dL_stitch_36 rfl rfl (by omega) (by omega) ⟨rfl, Or.inr ⟨hcd, ans, ss1, kp1, rg1, cl1, T1, _, hS, hput_eq _ _ _, if_pos rfl, F2, R2⟩⟩
  have bool : ∀ (p : Prop) (h1 : HM), (∀ ans, ans = lB p → J X B D 7 Q h1 3 18 19 [(0, .ref x), (1, .int z), (2, .long y1), (4, .int (iZ w)), (5, .ref ou)] [.long ans, .int (nI 0), .ref ou]) → J X B D 7 Q h1 3 18 11 [(0, .ref x), (1, .int z), (2, .long y1), (4, .int (iZ w)), (5, .ref ou)] [.int (bI p), .int (nI 0), .ref ou] := by
    intro p h1 kk
    refine j_if_eq E (tgt := 18) dL_stitch_11 (by decide) (fun c1 => ?_) (fun c1 => ?_)
    ·
      refine j_lconst (x := lZ 0) E dL_stitch_18 (by decide) ?_
      exact kk _ (cI_f (bI_z.mp c1)).symm
    ·
      refine j_lconst (x := lZ 1) E dL_stitch_14 (by decide) ?_
      refine j_goto E (tgt := 19) dL_stitch_15 (by decide) ?_
      exact kk _ (cI_t (bI_n.mp c1)).symm
  have hd0 : cdStitch ss z y1 w = 1 → ∀ q : Nat, J X B D 7 Q h 3 18 23 [(0, .ref x), (1, .int z), (2, .long y1), (4, .int (iZ w)), (5, .ref ou)] [.ref q] := by
    intro hcd q
    refine j_astore E dL_stitch_23 (by decide) ?_
    refine j_iconst (x := nI 1) E dL_stitch_25 (by decide) ?_
    refine J.topi (x' := cdStitch ss z y1 w) (hcd.symm) ?_
    rw [← hQ]
    exact j_iret E dL_stitch_26 rfl rfl (by omega) (by omega) ⟨rfl, Or.inl ⟨fun z => absurd (hcd.symm.trans z) (by decide), rfl⟩⟩
  have hd1 : cdStitch ss z y1 w = 2 → ∀ q : Nat, J X B D 7 Q h 3 18 27 [(0, .ref x), (1, .int z), (2, .long y1), (4, .int (iZ w)), (5, .ref ou)] [.ref q] := by
    intro hcd q
    refine j_astore E dL_stitch_27 (by decide) ?_
    refine j_iconst (x := nI 2) E dL_stitch_29 (by decide) ?_
    refine J.topi (x' := cdStitch ss z y1 w) (hcd.symm) ?_
    rw [← hQ]
    exact j_iret E dL_stitch_30 rfl rfl (by omega) (by omega) ⟨rfl, Or.inl ⟨fun z => absurd (hcd.symm.trans z) (by decide), rfl⟩⟩
  have hd2 : cdStitch ss z y1 w = 3 → ∀ q : Nat, J X B D 7 Q h 3 18 31 [(0, .ref x), (1, .int z), (2, .long y1), (4, .int (iZ w)), (5, .ref ou)] [.ref q] := by
    intro hcd q
    refine j_astore E dL_stitch_31 (by decide) ?_
    refine j_iconst (x := nI 3) E dL_stitch_33 (by decide) ?_
    refine J.topi (x' := cdStitch ss z y1 w) (hcd.symm) ?_
    rw [← hQ]
    exact j_iret E dL_stitch_34 rfl rfl (by omega) (by omega) ⟨rfl, Or.inl ⟨fun z => absurd (hcd.symm.trans z) (by decide), rfl⟩⟩
  refine j_aload E dL_stitch_0 rfl ?_
  refine j_iconst (x := nI 0) E dL_stitch_2 (by decide) ?_
  refine j_aload_n E dL_stitch_3 rfl ?_
  refine j_iload_n E dL_stitch_4 rfl ?_
  refine j_lload_n E dL_stitch_5 rfl ?_
  refine j_iload E dL_stitch_6 rfl ?_
  refine j_callX (np := 3) (C := RX6) (T := TX6) (N := 6) (ci := 7) E (c_stitch v R hw z y1 hww) gL_stitch_X6_stitch rfl ⟨rfl, by decide, by decide, by decide +kernel⟩ dL_stitch_8 (by omega) (by decide) rfl R1 rfl rfl (Nat.le_of_ble_eq_true rfl) (by omega) (by omega) (fun Ex h1 p => ?_) (fun r h1 p => ?_)
  · obtain ⟨rfl, p⟩ := p
    rcases p with ⟨rfl, hcd⟩ | ⟨rfl, hcd⟩ | ⟨rfl, hcd⟩
    · refine j_catch E htab [] [(0, 20, 27, 13), (0, 20, 31, 21)] (0, 20, 23, 19) rfl (fun z hz => absurd hz List.not_mem_nil) rfl (by decide) (by decide +kernel) (by decide) (fun q => J.wide (k' := 3) (n' := 18) (by omega) (by omega) (hd0 hcd q))
    · refine j_catch E htab [(0, 20, 23, 19)] [(0, 20, 31, 21)] (0, 20, 27, 13) rfl (fun z hz => ?_) rfl (by decide) (by decide +kernel) (by decide) (fun q => J.wide (k' := 3) (n' := 18) (by omega) (by omega) (hd1 hcd q))
      rw [List.mem_singleton] at hz
      subst hz
      exact ⟨eI, by decide +kernel, by decide, hXN.1⟩
    · refine j_catch E htab [(0, 20, 23, 19), (0, 20, 27, 13)] [] (0, 20, 31, 21) rfl (fun z hz => ?_) rfl (by decide) (by decide +kernel) (by decide) (fun q => J.wide (k' := 3) (n' := 18) (by omega) (by omega) (hd2 hcd q))
      rcases List.mem_cons.mp hz with rfl | hz
      · exact ⟨eI, by decide +kernel, by decide, hXN.2.1⟩
      · rw [List.mem_singleton] at hz
        subst hz
        exact ⟨eS, by decide +kernel, by decide, hXN.2.2⟩
  · refine J.wide (k' := 3) (n' := 18) (by omega) (by omega) ?_
    obtain ⟨hcd, j, hj, hz, rfl, F1, pa, pb⟩ := p
    by_cases hh : hasC (gS ss j) w y1
    · exact bool _ h1 (fun ans ha => fin h1 T _ _ _ _ _ ⟨_, _, _, _, _, pa hh⟩ F1 hcd ⟨j, hj, hz, ha, fun _ => rfl, fun q => absurd hh q, rfl, rfl, rfl⟩)
    · exact bool _ h1 (fun ans ha => fin h1 T _ _ _ _ _ ⟨_, _, _, _, _, pb hh⟩ F1 hcd ⟨j, hj, hz, ha, fun q => absurd q hh, fun _ => rfl, rfl, rfl, rfl⟩)
theorem w_used (v : Nat) (R : CR E0 h T x d ss kp rg cl gs la le ra kr) (hw : wfSS ss) (z y1 : Int32) (hou : h ou = some (hJ 1 f)) (t0 : T ou = 0) : CW l B E0 D yL_used wsL_used (v + 8) 2 12 [.ref x, .int z, .int y1, .ref ou] h (wP E0 h T ou x d (cdUsed ss kp z y1) (fun ans ss1 kp1 rg1 cl1 => (∃ j q ps, j < ss.length ∧ z = nI j ∧ q < 12 ∧ y1 = nI q ∧ kp = some ps ∧ usedOK kp j q ∧ ans = lB (usB ps j q)) ∧ ss1 = ss ∧ kp1 = kp ∧ rg1 = rg ∧ cl1 = cl)) := by
  have R1 := R.2.1
  refine CW.of (cc := cL_used) (maxL := 5) (ret := (some .int)) (hh := [(0, 17, 20, 19)]) (by decide) rfl (Nat.le_of_ble_eq_true rfl) (fun X E htab hXN => ?_)
  show J X B D 5 _ h 0 0 0 [(0, .ref x), (1, .int z), (2, .int y1), (3, .ref ou)] []
  generalize hQ : jQ X B D _ _ _ = Q
  have fin : ∀ (h1 : HM) (T1 : Nat → Nat) (ans : Int64) (ss1 : List SH) (kp1 : Option KPs) (rg1 : List Nat) (cl1 : Prop), CRx E0 h1 T1 x d ss1 kp1 rg1 cl1 → CF h T h1 T1 → cdUsed ss kp z y1 = 0 → (fun ans ss1 kp1 rg1 cl1 => (∃ j q ps, j < ss.length ∧ z = nI j ∧ q < 12 ∧ y1 = nI q ∧ kp = some ps ∧ usedOK kp j q ∧ ans = lB (usB ps j q)) ∧ ss1 = ss ∧ kp1 = kp ∧ rg1 = rg ∧ cl1 = cl) ans ss1 kp1 rg1 cl1 → J X B D 5 Q h1 2 12 16 [(0, .ref x), (1, .int z), (2, .int y1), (3, .ref ou)] [.long ans, .int (nI 0), .ref ou] := by
    intro h1 T1 ans ss1 kp1 rg1 cl1 R1 F1 hcd hS
    obtain ⟨hou1, F2, R2⟩ := R1.st F1 hou t0 (vp_updL f 0 ans)
    refine j_lastore E 0 dL_used_16 hou1 rfl (by omega) (by omega) ?_
    refine j_goto E (tgt := 24) dL_used_17 (by decide) ?_
    refine j_iconst (x := nI 0) E dL_used_24 (by decide) ?_
    refine J.topi (x' := cdUsed ss kp z y1) (hcd.symm) ?_
    rw [← hQ]
    exact j_iret E dL_used_25 rfl rfl (by omega) (by omega) ⟨rfl, Or.inr ⟨hcd, ans, ss1, kp1, rg1, cl1, T1, _, hS, hput_eq _ _ _, if_pos rfl, F2, R2⟩⟩
  have bool : ∀ (p : Prop) (h1 : HM), (∀ ans, ans = lB p → J X B D 5 Q h1 2 12 16 [(0, .ref x), (1, .int z), (2, .int y1), (3, .ref ou)] [.long ans, .int (nI 0), .ref ou]) → J X B D 5 Q h1 2 12 8 [(0, .ref x), (1, .int z), (2, .int y1), (3, .ref ou)] [.int (bI p), .int (nI 0), .ref ou] := by
    intro p h1 kk
    refine j_if_eq E (tgt := 15) dL_used_8 (by decide) (fun c1 => ?_) (fun c1 => ?_)
    ·
      refine j_lconst (x := lZ 0) E dL_used_15 (by decide) ?_
      exact kk _ (cI_f (bI_z.mp c1)).symm
    ·
      refine j_lconst (x := lZ 1) E dL_used_11 (by decide) ?_
      refine j_goto E (tgt := 16) dL_used_12 (by decide) ?_
      exact kk _ (cI_t (bI_n.mp c1)).symm
  have hd0 : cdUsed ss kp z y1 = 1 → ∀ q : Nat, J X B D 5 Q h 2 12 20 [(0, .ref x), (1, .int z), (2, .int y1), (3, .ref ou)] [.ref q] := by
    intro hcd q
    refine j_astore E dL_used_20 (by decide) ?_
    refine j_iconst (x := nI 1) E dL_used_22 (by decide) ?_
    refine J.topi (x' := cdUsed ss kp z y1) (hcd.symm) ?_
    rw [← hQ]
    exact j_iret E dL_used_23 rfl rfl (by omega) (by omega) ⟨rfl, Or.inl ⟨fun z => absurd (hcd.symm.trans z) (by decide), rfl⟩⟩
  refine j_aload_n E dL_used_0 rfl ?_
  refine j_iconst (x := nI 0) E dL_used_1 (by decide) ?_
  refine j_aload_n E dL_used_2 rfl ?_
  refine j_iload_n E dL_used_3 rfl ?_
  refine j_iload_n E dL_used_4 rfl ?_
  refine j_callX (np := 2) (C := RX6) (T := TX6) (N := 6) (ci := 7) E (c_used v R hw z y1) gL_used_X6_used rfl ⟨rfl, by decide, by decide, by decide +kernel⟩ dL_used_5 (by omega) (by decide) rfl R1 rfl rfl (Nat.le_of_ble_eq_true rfl) (by omega) (by omega) (fun Ex h1 p => ?_) (fun r h1 p => ?_)
  · obtain ⟨rfl, rfl, hno⟩ := p
    have hcd : cdUsed ss kp z y1 = 1 := cI_f hno
    refine j_catch E htab [] [] (0, 17, 20, 19) rfl (fun z hz => absurd hz List.not_mem_nil) rfl (by decide) (by decide +kernel) (by decide) (fun q => J.wide (k' := 2) (n' := 12) (by omega) (by omega) (hd0 hcd q))
  · refine J.wide (k' := 2) (n' := 12) (by omega) (by omega) ?_
    obtain ⟨rfl, j, q, ps, hj, hz, hq, hy, hk, hu, rfl⟩ := p
    have hcd : cdUsed ss kp z y1 = 0 := cI_t ⟨j, q, hj, hz, by omega, hy, hu⟩
    exact bool _ h1 (fun ans ha => fin h1 T _ _ _ _ _ ⟨_, _, _, _, _, R⟩ CF.rf hcd ⟨⟨j, q, ps, hj, hz, hq, hy, hk, hu, ha⟩, rfl, rfl, rfl, rfl⟩)
theorem w_balance (v : Nat) (R : CR E0 h T x d ss kp rg cl gs la le ra kr) (hw : wfSS ss) (hk : wfK kp) (z y1 : Int32) (hou : h ou = some (hJ 1 f)) (t0 : T ou = 0) : CW l B E0 D yL_balance wsL_balance (v + 7) 1 6 [.ref x, .int z, .int y1, .ref ou] h (wP E0 h T ou x d (cdBal z y1) (fun ans ss1 kp1 rg1 cl1 => ((kp = none ∧ ans = lZ 0) ∨ ∃ ps, kp = some ps ∧ ans = lZ (balU ps z y1 ps.length)) ∧ ss1 = ss ∧ kp1 = kp ∧ rg1 = rg ∧ cl1 = cl)) := by
  have R1 := R.2.1
  refine CW.of (cc := cL_balance) (maxL := 5) (ret := (some .int)) (hh := [(0, 9, 12, 19), (0, 9, 16, 21)]) (by decide) rfl (Nat.le_of_ble_eq_true rfl) (fun X E htab hXN => ?_)
  show J X B D 5 _ h 0 0 0 [(0, .ref x), (1, .int z), (2, .int y1), (3, .ref ou)] []
  generalize hQ : jQ X B D _ _ _ = Q
  have fin : ∀ (h1 : HM) (T1 : Nat → Nat) (ans : Int64) (ss1 : List SH) (kp1 : Option KPs) (rg1 : List Nat) (cl1 : Prop), CRx E0 h1 T1 x d ss1 kp1 rg1 cl1 → CF h T h1 T1 → cdBal z y1 = 0 → (fun ans ss1 kp1 rg1 cl1 => ((kp = none ∧ ans = lZ 0) ∨ ∃ ps, kp = some ps ∧ ans = lZ (balU ps z y1 ps.length)) ∧ ss1 = ss ∧ kp1 = kp ∧ rg1 = rg ∧ cl1 = cl) ans ss1 kp1 rg1 cl1 → J X B D 5 Q h1 1 6 8 [(0, .ref x), (1, .int z), (2, .int y1), (3, .ref ou)] [.long ans, .int (nI 0), .ref ou] := by
    intro h1 T1 ans ss1 kp1 rg1 cl1 R1 F1 hcd hS
    obtain ⟨hou1, F2, R2⟩ := R1.st F1 hou t0 (vp_updL f 0 ans)
    refine j_lastore E 0 dL_balance_8 hou1 rfl (by omega) (by omega) ?_
    refine j_goto E (tgt := 20) dL_balance_9 (by decide) ?_
    refine j_iconst (x := nI 0) E dL_balance_20 (by decide) ?_
    refine J.topi (x' := cdBal z y1) (hcd.symm) ?_
    rw [← hQ]
    exact j_iret E dL_balance_21 rfl rfl (by omega) (by omega) ⟨rfl, Or.inr ⟨hcd, ans, ss1, kp1, rg1, cl1, T1, _, hS, hput_eq _ _ _, if_pos rfl, F2, R2⟩⟩
  have hd0 : cdBal z y1 = 1 → ∀ q : Nat, J X B D 5 Q h 1 6 12 [(0, .ref x), (1, .int z), (2, .int y1), (3, .ref ou)] [.ref q] := by
    intro hcd q
    refine j_astore E dL_balance_12 (by decide) ?_
    refine j_iconst (x := nI 1) E dL_balance_14 (by decide) ?_
    refine J.topi (x' := cdBal z y1) (hcd.symm) ?_
    rw [← hQ]
    exact j_iret E dL_balance_15 rfl rfl (by omega) (by omega) ⟨rfl, Or.inl ⟨fun z => absurd (hcd.symm.trans z) (by decide), rfl⟩⟩
  have hd1 : cdBal z y1 = 2 → ∀ q : Nat, J X B D 5 Q h 1 6 16 [(0, .ref x), (1, .int z), (2, .int y1), (3, .ref ou)] [.ref q] := by
    intro hcd q
    refine j_astore E dL_balance_16 (by decide) ?_
    refine j_iconst (x := nI 2) E dL_balance_18 (by decide) ?_
    refine J.topi (x' := cdBal z y1) (hcd.symm) ?_
    rw [← hQ]
    exact j_iret E dL_balance_19 rfl rfl (by omega) (by omega) ⟨rfl, Or.inl ⟨fun z => absurd (hcd.symm.trans z) (by decide), rfl⟩⟩
  refine j_aload_n E dL_balance_0 rfl ?_
  refine j_iconst (x := nI 0) E dL_balance_1 (by decide) ?_
  refine j_aload_n E dL_balance_2 rfl ?_
  refine j_iload_n E dL_balance_3 rfl ?_
  refine j_iload_n E dL_balance_4 rfl ?_
  refine j_callX (np := 2) (C := RX6) (T := TX6) (N := 6) (ci := 7) E (c_balance v R hk z y1) gL_balance_X6_balance rfl ⟨rfl, by decide, by decide, by decide +kernel⟩ dL_balance_5 (by omega) (by decide) rfl R1 rfl rfl (Nat.le_of_ble_eq_true rfl) (by omega) (by omega) (fun Ex h1 p => ?_) (fun r h1 p => ?_)
  · obtain ⟨rfl, p⟩ := p
    rcases p with ⟨rfl, hcd⟩ | ⟨rfl, hcd⟩
    · refine j_catch E htab [] [(0, 9, 16, 21)] (0, 9, 12, 19) rfl (fun z hz => absurd hz List.not_mem_nil) rfl (by decide) (by decide +kernel) (by decide) (fun q => J.wide (k' := 1) (n' := 6) (by omega) (by omega) (hd0 hcd q))
    · refine j_catch E htab [(0, 9, 12, 19)] [] (0, 9, 16, 21) rfl (fun z hz => ?_) rfl (by decide) (by decide +kernel) (by decide) (fun q => J.wide (k' := 1) (n' := 6) (by omega) (by omega) (hd1 hcd q))
      rw [List.mem_singleton] at hz
      subst hz
      exact ⟨eI, by decide +kernel, by decide, hXN.2.1⟩
  · refine J.wide (k' := 1) (n' := 6) (by omega) (by omega) ?_
    obtain ⟨rfl, hcd, pa, pb⟩ := p
    have hkp : kp = none ∨ ∃ ps, kp = some ps := by
      cases kp with
      | none => exact Or.inl rfl
      | some ps => exact Or.inr ⟨ps, rfl⟩
    rcases hkp with e | ⟨ps, e⟩
    · obtain rfl := pa e
      exact fin h1 T _ _ _ _ _ ⟨_, _, _, _, _, R⟩ CF.rf hcd ⟨Or.inl ⟨e, rfl⟩, rfl, rfl, rfl, rfl⟩
    · obtain rfl := pb ps e
      exact fin h1 T _ _ _ _ _ ⟨_, _, _, _, _, R⟩ CF.rf hcd ⟨Or.inr ⟨ps, e, rfl⟩, rfl, rfl, rfl, rfl⟩
theorem w_pair (v : Nat) (R : CR E0 h T x d ss kp rg cl gs la le ra kr) (hw : wfSS ss) (z y1 : Int32) (hou : h ou = some (hJ 1 f)) (t0 : T ou = 0) : CW l B E0 D yL_pair wsL_pair (v + 8) 1 6 [.ref x, .int z, .int y1, .ref ou] h (wP E0 h T ou x d (cdPair ss z y1) (fun ans ss1 kp1 rg1 cl1 => (∃ K, z = nI K ∧ K < 2 ^ 31 ∧ ((∃ i j, kth (nW d ss) ss.length K i j ∧ ans = (if y1 = 0 then nI i else nI j).toInt64) ∨ (totC (nW d ss) ss.length ss.length ≤ K ∧ ans = (-1 : Int32).toInt64))) ∧ ss1 = ss ∧ kp1 = kp ∧ rg1 = rg ∧ cl1 = cl)) := by
  have R1 := R.2.1
  refine CW.of (cc := cL_pair) (maxL := 5) (ret := (some .int)) (hh := [(0, 10, 13, 19), (0, 10, 17, 13)]) (by decide) rfl (Nat.le_of_ble_eq_true rfl) (fun X E htab hXN => ?_)
  show J X B D 5 _ h 0 0 0 [(0, .ref x), (1, .int z), (2, .int y1), (3, .ref ou)] []
  generalize hQ : jQ X B D _ _ _ = Q
  have fin : ∀ (h1 : HM) (T1 : Nat → Nat) (ans : Int64) (ss1 : List SH) (kp1 : Option KPs) (rg1 : List Nat) (cl1 : Prop), CRx E0 h1 T1 x d ss1 kp1 rg1 cl1 → CF h T h1 T1 → cdPair ss z y1 = 0 → (fun ans ss1 kp1 rg1 cl1 => (∃ K, z = nI K ∧ K < 2 ^ 31 ∧ ((∃ i j, kth (nW d ss) ss.length K i j ∧ ans = (if y1 = 0 then nI i else nI j).toInt64) ∨ (totC (nW d ss) ss.length ss.length ≤ K ∧ ans = (-1 : Int32).toInt64))) ∧ ss1 = ss ∧ kp1 = kp ∧ rg1 = rg ∧ cl1 = cl) ans ss1 kp1 rg1 cl1 → J X B D 5 Q h1 1 6 9 [(0, .ref x), (1, .int z), (2, .int y1), (3, .ref ou)] [.long ans, .int (nI 0), .ref ou] := by
    intro h1 T1 ans ss1 kp1 rg1 cl1 R1 F1 hcd hS
    obtain ⟨hou1, F2, R2⟩ := R1.st F1 hou t0 (vp_updL f 0 ans)
    refine j_lastore E 0 dL_pair_9 hou1 rfl (by omega) (by omega) ?_
    refine j_goto E (tgt := 21) dL_pair_10 (by decide) ?_
    refine j_iconst (x := nI 0) E dL_pair_21 (by decide) ?_
    refine J.topi (x' := cdPair ss z y1) (hcd.symm) ?_
    rw [← hQ]
    exact j_iret E dL_pair_22 rfl rfl (by omega) (by omega) ⟨rfl, Or.inr ⟨hcd, ans, ss1, kp1, rg1, cl1, T1, _, hS, hput_eq _ _ _, if_pos rfl, F2, R2⟩⟩
  have hd0 : cdPair ss z y1 = 1 → ∀ q : Nat, J X B D 5 Q h 1 6 13 [(0, .ref x), (1, .int z), (2, .int y1), (3, .ref ou)] [.ref q] := by
    intro hcd q
    refine j_astore E dL_pair_13 (by decide) ?_
    refine j_iconst (x := nI 1) E dL_pair_15 (by decide) ?_
    refine J.topi (x' := cdPair ss z y1) (hcd.symm) ?_
    rw [← hQ]
    exact j_iret E dL_pair_16 rfl rfl (by omega) (by omega) ⟨rfl, Or.inl ⟨fun z => absurd (hcd.symm.trans z) (by decide), rfl⟩⟩
  have hd1 : cdPair ss z y1 = 2 → ∀ q : Nat, J X B D 5 Q h 1 6 17 [(0, .ref x), (1, .int z), (2, .int y1), (3, .ref ou)] [.ref q] := by
    intro hcd q
    refine j_astore E dL_pair_17 (by decide) ?_
    refine j_iconst (x := nI 2) E dL_pair_19 (by decide) ?_
    refine J.topi (x' := cdPair ss z y1) (hcd.symm) ?_
    rw [← hQ]
    exact j_iret E dL_pair_20 rfl rfl (by omega) (by omega) ⟨rfl, Or.inl ⟨fun z => absurd (hcd.symm.trans z) (by decide), rfl⟩⟩
  refine j_aload_n E dL_pair_0 rfl ?_
  refine j_iconst (x := nI 0) E dL_pair_1 (by decide) ?_
  refine j_aload_n E dL_pair_2 rfl ?_
  refine j_iload_n E dL_pair_3 rfl ?_
  refine j_iload_n E dL_pair_4 rfl ?_
  refine j_callX (np := 2) (C := RX6) (T := TX6) (N := 6) (ci := 7) E (c_pair v R hw z y1) gL_pair_X6_pair rfl ⟨rfl, by decide, by decide, by decide +kernel⟩ dL_pair_5 (by omega) (by decide) rfl R1 rfl rfl (Nat.le_of_ble_eq_true rfl) (by omega) (by omega) (fun Ex h1 p => ?_) (fun r h1 p => ?_)
  · obtain ⟨rfl, p⟩ := p
    rcases p with ⟨rfl, hcd⟩ | ⟨rfl, hcd⟩
    · refine j_catch E htab [] [(0, 10, 17, 13)] (0, 10, 13, 19) rfl (fun z hz => absurd hz List.not_mem_nil) rfl (by decide) (by decide +kernel) (by decide) (fun q => J.wide (k' := 1) (n' := 6) (by omega) (by omega) (hd0 hcd q))
    · refine j_catch E htab [(0, 10, 13, 19)] [] (0, 10, 17, 13) rfl (fun z hz => ?_) rfl (by decide) (by decide +kernel) (by decide) (fun q => J.wide (k' := 1) (n' := 6) (by omega) (by omega) (hd1 hcd q))
      rw [List.mem_singleton] at hz
      subst hz
      exact ⟨eI, by decide +kernel, by decide, hXN.1⟩
  · refine J.wide (k' := 1) (n' := 6) (by omega) (by omega) ?_
    obtain ⟨rfl, hcd, K, hz, hK, pr⟩ := p
    rcases pr with ⟨i, j, e1, rfl⟩ | ⟨e1, rfl⟩
    ·
      refine j_i2l E dL_pair_8 ?_
      exact fin h1 T _ _ _ _ _ ⟨_, _, _, _, _, R⟩ CF.rf hcd ⟨⟨K, hz, hK, Or.inl ⟨i, j, e1, rfl⟩⟩, rfl, rfl, rfl, rfl⟩
    ·
      refine j_i2l E dL_pair_8 ?_
      exact fin h1 T _ _ _ _ _ ⟨_, _, _, _, _, R⟩ CF.rf hcd ⟨⟨K, hz, hK, Or.inr ⟨e1, rfl⟩⟩, rfl, rfl, rfl, rfl⟩
end LW
