/-! what each call answers and does (both sides are held to it); the reference's writing methods -/
noncomputable def cI {α : Type} (p : Prop) (x y : α) : α := @ite α p (Classical.propDecidable p) x y
theorem cI_t {α : Type} {p : Prop} {x y : α} (hp : p) : cI p x y = x := @if_pos p (Classical.propDecidable p) hp _ _ _
theorem cI_f {α : Type} {p : Prop} {x y : α} (hp : ¬ p) : cI p x y = y := @if_neg p (Classical.propDecidable p) hp _ _ _
theorem gS_set {ss : List SH} {j : Nat} (hj : j < ss.length) (x : SH) (i : Nat) : gS (ss.set j x) i = if i = j then x else gS ss i := by
  unfold gS
  rw [List.getD_eq_getElem?_getD, List.getD_eq_getElem?_getD, List.getElem?_set]
  by_cases e : i = j
  · subst e; simp [hj]
  · rw [if_neg (Ne.symm e), if_neg e]
theorem gS_app {ss : List SH} (x : SH) (i : Nat) : gS (ss ++ [x]) i = if i < ss.length then gS ss i else if i = ss.length then x else dS := by
  unfold gS
  rw [List.getD_eq_getElem?_getD, List.getD_eq_getElem?_getD]
  by_cases e : i < ss.length
  · rw [List.getElem?_append_left e, if_pos e]
  · rw [List.getElem?_append_right (by omega), if_neg e]
    by_cases e2 : i = ss.length
    · subst e2; simp
    · rw [if_neg e2, List.getElem?_eq_none (by simp; omega)]; rfl
theorem tS_congr {ss s2 : List SH} : ∀ {n : Nat}, (∀ i, i < n → nk (gS ss i) = nk (gS s2 i)) → tS ss n = tS s2 n
  | 0, _ => rfl
  | n + 1, h => by show tS ss n + _ = tS s2 n + _; rw [tS_congr (fun i hi => h i (by omega)), h n (by omega)]
theorem MA.upd {ss : List SH} {s s1 : Nat → Int32} {I I1 : Nat → Nat → Int32} {G G1 : Nat → Nat → Int64} (A : MA ss s I G) (hw : wfSS ss) {j : Nat} (hj : j < ss.length) (x : SH) (hs : s1 2 = s 2)
    (ho : ∀ i, i < ss.length → i ≠ j → I1 5 i = I 5 i ∧ I1 8 i = I 8 i ∧ I1 6 i = I 6 i ∧ I1 9 i = I 9 i ∧ (∀ t, t < 8 → G1 3 (8 * i + t) = G 3 (8 * i + t) ∧ G1 4 (8 * i + t) = G 4 (8 * i + t)) ∧ ∀ t, t < 3 → G1 7 (3 * i + t) = G 7 (3 * i + t))
    (hx : I1 5 j = nI (nc x) ∧ I1 8 j = nI (nk x) ∧ I1 6 j = iZ (tl x) ∧ (0 < nk x → I1 9 j = iZ (sd x)) ∧ (∀ i, i < nc x → G1 3 (8 * j + i) = lZ (cx x i) ∧ G1 4 (8 * j + i) = lZ (cy x i)) ∧ (∀ k, k < nk x → G1 7 (3 * j + k) = lZ (ct x k))) : MA (ss.set j x) s1 I1 G1 := by
  refine ⟨by rw [hs, List.length_set]; exact A.1, fun i hi => ?_⟩
  rw [List.length_set] at hi
  rw [gS_set hj]
  by_cases e : i = j
  · rw [if_pos e, e]; exact hx
  · rw [if_neg e]
    obtain ⟨o1, o2, o3, o4, o5, o6⟩ := ho i hi e
    obtain ⟨a1, a2, a3, a4, a5, a6⟩ := A.2 i hi
    have hwi := hw.2.2 i hi
    have w1 := hwi.1
    have w2 := hwi.2.1
    exact ⟨o1.trans a1, o2.trans a2, o3.trans a3, fun h => o4.trans (a4 h), fun t ht => ⟨(o5 t (by omega)).1.trans (a5 t ht).1, (o5 t (by omega)).2.trans (a5 t ht).2⟩, fun t ht => (o6 t (by omega)).trans (a6 t ht)⟩
theorem upd_ne {f : Nat → Int32} {k j : Nat} {x : Int32} (h : j ≠ k) : upd f k x j = f j := pk_un h
theorem upd_eq {f : Nat → Int32} {k : Nat} {x : Int32} : upd f k x k = x := pk_us
/-! shape() -/
noncomputable def cdShape (ss : List SH) : Int32 := cI (ss.length = 10 ∨ tS ss ss.length = 12) 1 0
/-! pre() -/
def badC (c : Int32) : Prop := c < -1 ∨ nI 3 < c
noncomputable def cdPre (ss : List SH) (z c : Int32) : Int32 := cI (¬ isx z ss.length) 1 (cI (opS ss) 2 (cI (badC c) 3 0))
def setT (ss : List SH) (j : Nat) (c : Int) : List SH := ss.set j ((gS ss j).1, (gS ss j).2.1, (gS ss j).2.2.1, c)
/-! corner() -/
def farL (x : Int64) : Prop := x < lZ (-1000000) ∨ lZ 1000000 < x
noncomputable def cdCorner (ss : List SH) (z : Int32) (x y : Int64) : Int32 := cI (¬ isx z ss.length) 1 (cI (nc (gS ss z.toNatClampNeg) = 8 ∨ 0 < nk (gS ss z.toNatClampNeg)) 2 (cI (farL x ∨ farL y) 3 0))
def addK (ss : List SH) (j : Nat) (x y : Int) : List SH := ss.set j ((gS ss j).1 ++ [(x, y)], (gS ss j).2)
section M4
variable {l : Launch} {B E0 : Nat} {D : va_G} {h0 h : HM} {m : Nat} {a : Nat → Nat} {d : Int} {s : Nat → Int32} {I : Nat → Nat → Int32} {G : Nat → Nat → Int64} {ss : List SH}
theorem iw_X7_thrown_X7 : ∀ w ∈ u_ws RX7 TX7 27, w ∈ wsX7_thrown := by decide +kernel
theorem m_thrown (v : Nat) (hM : MR h0 h m a (lZ d) s I G) : CM l B E0 D yX7_thrown wsX7_thrown (v + 1) 0 0 [.ref m] h (fun r h1 => r = some (.int (s 0)) ∧ h1 = h) := by
  refine CM.of (cc := cX7_thrown) (maxL := 1) (ret := (some .int)) (by decide) rfl (Nat.le_of_ble_eq_true rfl) (fun X E hin => ?_)
  show J X B D 1 _ h 0 0 0 [(0, .ref m)] []
  refine j_aload_n E dX7_thrown_0 rfl ?_
  refine j_getfield (ref := "ColourPartsModel") (C := RX7) (T := TX7) (N := 27) (ci := 8) E 0 dX7_thrown_1 iw_X7_thrown_X7 rfl (by decide) (by decide +kernel) rfl hM.obj rfl ?_
  exact j_iret E dX7_thrown_4 rfl rfl (by omega) (by omega) ⟨rfl, rfl⟩
theorem iw_X7_shape_X7 : ∀ w ∈ u_ws RX7 TX7 27, w ∈ wsX7_shape := by decide +kernel
theorem m_shape (v : Nat) (hM : MR h0 h m a (lZ d) s I G) (A : MA ss s I G) (hw : wfSS ss) : CM l B E0 D yX7_shape wsX7_shape (v + 2) 0 0 [.ref m] h (fun r h1 => (∃ y : Int32, r = some (.int y)) ∧ (∃ s1 I1, MR h0 h1 m a (lZ d) s1 I1 G ∧ s1 0 = cdShape ss ∧ (∀ k, k ≠ 0 → k ≠ 2 → s1 k = s k) ∧ (∀ k, k ≠ 5 → k ≠ 6 → k ≠ 8 → I1 k = I k) ∧ (¬ cdShape ss = 0 → MA ss s1 I1 G) ∧ (cdShape ss = 0 → r = some (.int (nI ss.length)) ∧ MA (ss ++ [dS]) s1 I1 G))) := by
  have hl := hw.1
  refine CM.of (cc := cX7_shape) (maxL := 1) (ret := (some .int)) (by decide) rfl (Nat.le_of_ble_eq_true rfl) (fun X E hin => ?_)
  show J X B D 1 _ h 0 0 0 [(0, .ref m)] []
  generalize hQ : jQ X B D _ _ _ = Q
  have tail : ∀ c, c = cdShape ss → J X B D 1 Q h 0 0 24 [(0, .ref m)] [.int c, .ref m] := by
    intro c hc
    refine j_putfield (ref := "ColourPartsModel") (C := RX7) (T := TX7) (N := 27) (ci := 8) E 0 dX7_shape_24 iw_X7_shape_X7 tyX7 tyX7_ok nmX7 rfl (by decide) (by decide +kernel) rfl rfl rfl rfl hM.obj (Nat.le_of_ble_eq_true rfl) ?_
    refine MR.gen (hM.pS 0 _ (by decide) rfl) (fun h hM => ?_)
    refine j_aload_n E dX7_shape_27 rfl ?_
    refine j_getfield (ref := "ColourPartsModel") (C := RX7) (T := TX7) (N := 27) (ci := 8) E 0 dX7_shape_28 iw_X7_shape_X7 rfl (by decide) (by decide +kernel) rfl hM.obj rfl ?_
    have A1 : MA ss (uA s 0 c) I G := A.keep rfl ⟨rfl, rfl, rfl, rfl⟩ ⟨rfl, rfl, rfl⟩
    by_cases e : ss.length = 10 ∨ tS ss ss.length = 12
    · have hc1 : c = 1 := by rw [hc, cdShape, cI_t e]
      subst hc1
      refine j_if_le E (tgt := 36) dX7_shape_31 (by decide) (fun c2 => ?_) (fun c2 => ?_)
      · exact absurd c2 (by rw [uA_eq]; decide)
      ·
        refine j_iconst (x := nI 0) E dX7_shape_34 (by decide) ?_
        rw [← hQ]
        exact j_iret E dX7_shape_35 rfl rfl (by omega) (by omega) ⟨⟨_, rfl⟩, ⟨_, _, hM, hc, fun k h1 h2 => uA_ne _ _ h1, fun k _ _ _ => rfl, fun _ => A1, fun z => by rw [← hc] at z; exact absurd z (by decide)⟩⟩
    · have hc1 : c = 0 := by rw [hc, cdShape, cI_f e]
      subst hc1
      have e2 : ¬ ss.length = 10 := fun z => e (Or.inl z)
      have es : uA s 0 (0 : Int32) 2 = nI ss.length := A.1
      refine j_if_le E (tgt := 36) dX7_shape_31 (by decide) (fun c2 => ?_) (fun c2 => ?_)
      ·
        refine j_aload_n E dX7_shape_36 rfl ?_
        refine j_getfield (ref := "ColourPartsModel") (C := RX7) (T := TX7) (N := 27) (ci := 8) E 5 dX7_shape_37 iw_X7_shape_X7 rfl (by decide) (by decide +kernel) rfl hM.obj rfl ?_
        refine j_aload_n E dX7_shape_40 rfl ?_
        refine j_getfield (ref := "ColourPartsModel") (C := RX7) (T := TX7) (N := 27) (ci := 8) E 2 dX7_shape_41 iw_X7_shape_X7 rfl (by decide) (by decide +kernel) rfl hM.obj rfl ?_
        refine J.topi (x' := nI ss.length) (es) ?_
        refine j_iconst (x := nI 0) E dX7_shape_44 (by decide) ?_
        refine j_iastore E ss.length dX7_shape_45 (hM.gI 5 10 (by decide)) rfl (by omega) (by omega) ?_
        refine MR.gen (hM.pI 5 10 _ (by decide)) (fun h hM => ?_)
        refine j_aload_n E dX7_shape_46 rfl ?_
        refine j_getfield (ref := "ColourPartsModel") (C := RX7) (T := TX7) (N := 27) (ci := 8) E 6 dX7_shape_47 iw_X7_shape_X7 rfl (by decide) (by decide +kernel) rfl hM.obj rfl ?_
        refine j_aload_n E dX7_shape_50 rfl ?_
        refine j_getfield (ref := "ColourPartsModel") (C := RX7) (T := TX7) (N := 27) (ci := 8) E 2 dX7_shape_51 iw_X7_shape_X7 rfl (by decide) (by decide +kernel) rfl hM.obj rfl ?_
        refine J.topi (x' := nI ss.length) (es) ?_
        refine j_iconst (x := (-1)) E dX7_shape_54 (by decide) ?_
        refine j_iastore E ss.length dX7_shape_55 (hM.gI 6 10 (by decide)) rfl (by omega) (by omega) ?_
        refine MR.gen (hM.pI 6 10 _ (by decide)) (fun h hM => ?_)
        refine j_aload_n E dX7_shape_56 rfl ?_
        refine j_getfield (ref := "ColourPartsModel") (C := RX7) (T := TX7) (N := 27) (ci := 8) E 8 dX7_shape_57 iw_X7_shape_X7 rfl (by decide) (by decide +kernel) rfl hM.obj rfl ?_
        refine j_aload_n E dX7_shape_60 rfl ?_
        refine j_getfield (ref := "ColourPartsModel") (C := RX7) (T := TX7) (N := 27) (ci := 8) E 2 dX7_shape_61 iw_X7_shape_X7 rfl (by decide) (by decide +kernel) rfl hM.obj rfl ?_
        refine J.topi (x' := nI ss.length) (es) ?_
        refine j_iconst (x := nI 0) E dX7_shape_64 (by decide) ?_
        refine j_iastore E ss.length dX7_shape_65 (hM.gI 8 10 (by decide)) rfl (by omega) (by omega) ?_
        refine MR.gen (hM.pI 8 10 _ (by decide)) (fun h hM => ?_)
        refine j_aload_n E dX7_shape_66 rfl ?_
        refine j_dup E dX7_shape_67 rfl ?_
        refine j_getfield (ref := "ColourPartsModel") (C := RX7) (T := TX7) (N := 27) (ci := 8) E 2 dX7_shape_68 iw_X7_shape_X7 rfl (by decide) (by decide +kernel) rfl hM.obj rfl ?_
        refine J.topi (x' := nI ss.length) (es) ?_
        refine j_iconst (x := nI 1) E dX7_shape_71 (by decide) ?_
        refine j_iadd E dX7_shape_72 ?_
        refine J.topi (x' := nI (ss.length + 1)) (nI_1 _) ?_
        refine j_putfield (ref := "ColourPartsModel") (C := RX7) (T := TX7) (N := 27) (ci := 8) E 2 dX7_shape_73 iw_X7_shape_X7 tyX7 tyX7_ok nmX7 rfl (by decide) (by decide +kernel) rfl rfl rfl rfl hM.obj (Nat.le_of_ble_eq_true rfl) ?_
        refine MR.gen (hM.pS 2 _ (by decide) rfl) (fun h hM => ?_)
        refine j_aload_n E dX7_shape_76 rfl ?_
        refine j_getfield (ref := "ColourPartsModel") (C := RX7) (T := TX7) (N := 27) (ci := 8) E 2 dX7_shape_77 iw_X7_shape_X7 rfl (by decide) (by decide +kernel) rfl hM.obj rfl ?_
        refine J.topi (x' := nI (ss.length + 1)) (uA_eq _ _ _) ?_
        refine j_iconst (x := nI 1) E dX7_shape_80 (by decide) ?_
        refine j_isub E dX7_shape_81 ?_
        refine J.topi (x' := nI ss.length) (nI_pred _) ?_
        rw [← hQ]
        refine j_iret E dX7_shape_82 rfl rfl (by omega) (by omega) ⟨⟨_, rfl⟩, ⟨_, _, hM, (uA_ne _ _ (by decide)).trans ((uA_eq _ _ _).trans hc), fun k h1 h2 => (uA_ne _ _ h2).trans (uA_ne _ _ h1), fun k h1 h2 h3 => (uA_ne _ _ h3).trans ((uA_ne _ _ h2).trans (uA_ne _ _ h1)), fun z => absurd hc.symm z, fun _ => ⟨rfl, ?_⟩⟩⟩
        refine ⟨by rw [uA_eq, List.length_append]; rfl, fun i hi => ?_⟩
        rw [List.length_append, List.length_singleton] at hi
        rw [gS_app]
        show upd (I 5) ss.length (nI 0) i = _ ∧ upd (I 8) ss.length (nI 0) i = _ ∧ upd (I 6) ss.length (-1) i = _ ∧ _
        by_cases e3 : i = ss.length
        · rw [if_neg (by omega), if_pos e3, e3, upd_eq, upd_eq, upd_eq]
          exact ⟨rfl, rfl, rfl, fun z => absurd z (by decide), fun t ht => absurd ht (Nat.not_lt_zero t), fun t ht => absurd ht (Nat.not_lt_zero t)⟩
        · rw [if_pos (by omega), upd_ne e3, upd_ne e3, upd_ne e3]
          exact A.2 i (by omega)
      · exact absurd (by rw [uA_eq]; decide) c2
  refine j_aload_n E dX7_shape_0 rfl ?_
  refine j_aload_n E dX7_shape_1 rfl ?_
  refine j_getfield (ref := "ColourPartsModel") (C := RX7) (T := TX7) (N := 27) (ci := 8) E 2 dX7_shape_2 iw_X7_shape_X7 rfl (by decide) (by decide +kernel) rfl hM.obj rfl ?_
  refine J.topi (x' := nI ss.length) (A.1) ?_
  refine j_bipush (x := nI 10) E dX7_shape_5 (by decide) ?_
  refine j_icmp_eq E (tgt := 19) dX7_shape_7 (by decide) (fun c => ?_) (fun c => ?_)
  · have e := (nI_eq (by omega) (by decide)).mp c
    refine j_iconst (x := nI 1) E dX7_shape_19 (by decide) ?_
    refine j_goto E (tgt := 24) dX7_shape_20 (by decide) ?_
    exact tail _ (by rw [cdShape, cI_t (Or.inl e)]; rfl)
  · have e : ¬ ss.length = 10 := fun z => c (by rw [z])
    refine j_aload_n E dX7_shape_10 rfl ?_
    refine j_callV (np := 0) (C := RX7) (T := TX7) (N := 27) (ci := 8) E (m_allPieces v hM A hl) gX7_shape_X7_allPieces rfl ⟨rfl, by decide, by decide, by decide +kernel⟩ dX7_shape_11 (by omega) (by decide) rfl hM.obj rfl rfl (Nat.le_of_ble_eq_true rfl) (by omega) (by omega) (fun r9 h9 p9 => J.pure p9 ?_)
    refine J.wide (k' := 0) (n' := 0) (by omega) (by omega) ?_
    refine j_bipush (x := nI 12) E dX7_shape_14 (by decide) ?_
    have ht := hw.2.1
    refine j_icmp_ne E (tgt := 23) dX7_shape_16 (by decide) (fun c2 => ?_) (fun c2 => ?_)
    · have e2 : ¬ tS ss ss.length = 12 := fun z => c2 (by rw [z])
      refine j_iconst (x := nI 0) E dX7_shape_23 (by decide) ?_
      exact tail _ (by rw [cdShape, cI_f (fun z => z.elim e e2)]; rfl)
    · have e2 := (nI_eq (by omega) (by decide)).mp c2
      refine j_iconst (x := nI 1) E dX7_shape_19 (by decide) ?_
      refine j_goto E (tgt := 24) dX7_shape_20 (by decide) ?_
      exact tail _ (by rw [cdShape, cI_t (Or.inr e2)]; rfl)
theorem iw_X7_pre_X7 : ∀ w ∈ u_ws RX7 TX7 27, w ∈ wsX7_pre := by decide +kernel
theorem m_pre (v : Nat) (hM : MR h0 h m a (lZ d) s I G) (A : MA ss s I G) (hw : wfSS ss) (z c : Int32) : CM l B E0 D yX7_pre wsX7_pre (v + 2) 0 0 [.ref m, .int z, .int c] h (fun r h1 => (∃ y : Int32, r = some (.int y)) ∧ (∃ s1 I1, MR h0 h1 m a (lZ d) s1 I1 G ∧ s1 0 = cdPre ss z c ∧ (∀ k, k ≠ 0 → s1 k = s k) ∧ (∀ k, k ≠ 6 → I1 k = I k) ∧ (¬ cdPre ss z c = 0 → MA ss s1 I1 G) ∧ (cdPre ss z c = 0 → ∀ j, j < ss.length → z = nI j → r = some (.int (bI (¬ tl (gS ss j) = c.toInt))) ∧ MA (setT ss j c.toInt) s1 I1 G))) := by
  have hl := hw.1
  refine CM.of (cc := cX7_pre) (maxL := 3) (ret := (some .boolean)) (by decide) rfl (Nat.le_of_ble_eq_true rfl) (fun X E hin => ?_)
  show J X B D 3 _ h 0 0 0 [(0, .ref m), (1, .int z), (2, .int c)] []
  generalize hQ : jQ X B D _ _ _ = Q
  have tail : ∀ q, q = cdPre ss z c → J X B D 3 Q h 0 0 39 [(0, .ref m), (1, .int z), (2, .int c)] [.int q, .ref m] := by
    intro q hc
    have A1 : MA ss (uA s 0 q) I G := A.keep rfl ⟨rfl, rfl, rfl, rfl⟩ ⟨rfl, rfl, rfl⟩
    refine j_putfield (ref := "ColourPartsModel") (C := RX7) (T := TX7) (N := 27) (ci := 8) E 0 dX7_pre_39 iw_X7_pre_X7 tyX7 tyX7_ok nmX7 rfl (by decide) (by decide +kernel) rfl rfl rfl rfl hM.obj (Nat.le_of_ble_eq_true rfl) ?_
    refine MR.gen (hM.pS 0 _ (by decide) rfl) (fun h hM => ?_)
    refine j_aload_n E dX7_pre_42 rfl ?_
    refine j_getfield (ref := "ColourPartsModel") (C := RX7) (T := TX7) (N := 27) (ci := 8) E 0 dX7_pre_43 iw_X7_pre_X7 rfl (by decide) (by decide +kernel) rfl hM.obj rfl ?_
    refine J.topi (x' := q) (uA_eq _ _ _) ?_
    refine j_if_gt E (tgt := 59) dX7_pre_46 (by decide) (fun c2 => ?_) (fun c2 => ?_)
    ·
      refine j_iconst (x := nI 0) E dX7_pre_59 (by decide) ?_
      have hq : ¬ cdPre ss z c = 0 := fun w => by rw [hc, w] at c2; exact absurd c2 (by decide)
      rw [← hQ]
      exact j_iret E dX7_pre_60 rfl rfl (by omega) (by omega) ⟨⟨_, rfl⟩, ⟨_, _, hM, hc, fun k h1 => uA_ne _ _ h1, fun k _ => rfl, fun _ => A1, fun w => absurd w hq⟩⟩
    · have hx : isx z ss.length := Classical.byContradiction fun w => c2 (by rw [hc, cdPre, cI_t w]; decide)
      have ho : ¬ opS ss := fun w => c2 (by rw [hc, cdPre, cI_f (fun u => u hx), cI_t w]; decide)
      have hb : ¬ badC c := fun w => c2 (by rw [hc, cdPre, cI_f (fun u => u hx), cI_f ho, cI_t w]; decide)
      have h0 : cdPre ss z c = 0 := by rw [cdPre, cI_f (fun u => u hx), cI_f ho, cI_f hb]
      obtain ⟨j, hj, rfl⟩ := hx
      obtain ⟨a5, a8, a6, a9, aX, aK⟩ := A.2 j hj
      have ht := (hw.2.2 j hj).2.2.2.2.2.2.2
      have hjj : ∀ i, i < ss.length → nI j = nI i → i = j := fun i hi e => ((nI_eq (by omega) (by omega)).mp e).symm
      have htl : iZ (tl (gS ss j)) = c ↔ tl (gS ss j) = c.toInt := by
        rw [← Int32.toInt_inj, iZ_toInt (by omega) (by omega)]
      refine j_aload_n E dX7_pre_49 rfl ?_
      refine j_getfield (ref := "ColourPartsModel") (C := RX7) (T := TX7) (N := 27) (ci := 8) E 6 dX7_pre_50 iw_X7_pre_X7 rfl (by decide) (by decide +kernel) rfl hM.obj rfl ?_
      refine j_iload_n E dX7_pre_53 rfl ?_
      refine j_iaload E j dX7_pre_54 (hM.gI 6 10 (by decide)) rfl (by omega) (by omega) ?_
      refine J.topi (x' := iZ (tl (gS ss j))) (a6) ?_
      refine j_iload_n E dX7_pre_55 rfl ?_
      refine j_icmp_ne E (tgt := 61) dX7_pre_56 (by decide) (fun c3 => ?_) (fun c3 => ?_)
      ·
        refine j_aload_n E dX7_pre_61 rfl ?_
        refine j_getfield (ref := "ColourPartsModel") (C := RX7) (T := TX7) (N := 27) (ci := 8) E 6 dX7_pre_62 iw_X7_pre_X7 rfl (by decide) (by decide +kernel) rfl hM.obj rfl ?_
        refine j_iload_n E dX7_pre_65 rfl ?_
        refine j_iload_n E dX7_pre_66 rfl ?_
        refine j_iastore E j dX7_pre_67 (hM.gI 6 10 (by decide)) rfl (by omega) (by omega) ?_
        refine MR.gen (hM.pI 6 10 _ (by decide)) (fun h hM => ?_)
        refine j_iconst (x := nI 1) E dX7_pre_68 (by decide) ?_
        rw [← hQ]
        refine j_iret E dX7_pre_69 rfl rfl (by omega) (by omega) ⟨⟨_, rfl⟩, ⟨_, _, hM, (uA_eq _ _ _).trans hc, fun k h1 => uA_ne _ _ h1, fun k h1 => uA_ne _ _ h1, fun w => absurd h0 w, fun _ i hi e => ?_⟩⟩
        obtain rfl := hjj i hi e
        refine ⟨by rw [bI_t (fun w => c3 (htl.mpr w))]; rfl, A.upd hw hj _ rfl (fun t ht htj => ⟨rfl, rfl, (congrFun (uA_eq _ _ _) t).trans (upd_ne htj), rfl, fun _ _ => ⟨rfl, rfl⟩, fun _ _ => rfl⟩) ⟨a5, a8, (congrFun (uA_eq _ _ _) i).trans (upd_eq.trans (iZ_of c).symm), a9, aX, aK⟩⟩
      ·
        refine j_iconst (x := nI 0) E dX7_pre_59 (by decide) ?_
        rw [← hQ]
        refine j_iret E dX7_pre_60 rfl rfl (by omega) (by omega) ⟨⟨_, rfl⟩, ⟨_, _, hM, (uA_eq _ _ _).trans hc, fun k h1 => uA_ne _ _ h1, fun k h1 => rfl, fun w => absurd h0 w, fun _ i hi e => ?_⟩⟩
        obtain rfl := hjj i hi e
        have e2 := htl.mp c3
        refine ⟨by rw [bI_f (fun w => w e2)]; rfl, A.upd hw hj _ rfl (fun t ht htj => ⟨rfl, rfl, rfl, rfl, fun _ _ => ⟨rfl, rfl⟩, fun _ _ => rfl⟩) ⟨a5, a8, a6.trans (by show _ = iZ c.toInt; rw [e2]), a9, aX, aK⟩⟩
  refine j_aload_n E dX7_pre_0 rfl ?_
  refine j_aload_n E dX7_pre_1 rfl ?_
  refine j_iload_n E dX7_pre_2 rfl ?_
  refine j_callV (np := 1) (C := RX7) (T := TX7) (N := 27) (ci := 8) E (m_isShape v hM A (by omega) z) gX7_pre_X7_isShape rfl ⟨rfl, by decide, by decide, by decide +kernel⟩ dX7_pre_3 (by omega) (by decide) rfl hM.obj rfl rfl (Nat.le_of_ble_eq_true rfl) (by omega) (by omega) (fun r9 h9 p9 => J.pure p9 ?_)
  refine J.wide (k' := 0) (n' := 0) (by omega) (by omega) ?_
  refine j_if_ne E (tgt := 13) dX7_pre_6 (by decide) (fun c1 => ?_) (fun c1 => ?_)
  · have hx := bI_n.mp c1
    refine j_aload_n E dX7_pre_13 rfl ?_
    refine j_callV (np := 0) (C := RX7) (T := TX7) (N := 27) (ci := 8) E (m_isOpen v hM A hw) gX7_pre_X7_isOpen rfl ⟨rfl, by decide, by decide, by decide +kernel⟩ dX7_pre_14 (by omega) (by decide) rfl hM.obj rfl rfl (Nat.le_of_ble_eq_true rfl) (by omega) (by omega) (fun r9 h9 p9 => J.pure p9 ?_)
    refine J.wide (k' := 0) (n' := 0) (by omega) (by omega) ?_
    refine j_if_eq E (tgt := 24) dX7_pre_17 (by decide) (fun c2 => ?_) (fun c2 => ?_)
    · have ho := bI_z.mp c2
      refine j_iload_n E dX7_pre_24 rfl ?_
      refine j_iconst (x := (-1)) E dX7_pre_25 (by decide) ?_
      refine j_icmp_lt E (tgt := 34) dX7_pre_26 (by decide) (fun c3 => ?_) (fun c3 => ?_)
      ·
        refine j_iconst (x := nI 3) E dX7_pre_34 (by decide) ?_
        refine j_goto E (tgt := 39) dX7_pre_35 (by decide) ?_
        exact tail _ (by rw [cdPre, cI_f (fun u => u hx), cI_f ho, cI_t (show badC c from Or.inl c3)]; rfl)
      ·
        refine j_iload_n E dX7_pre_29 rfl ?_
        refine j_iconst (x := nI 3) E dX7_pre_30 (by decide) ?_
        refine j_icmp_le E (tgt := 38) dX7_pre_31 (by decide) (fun c4 => ?_) (fun c4 => ?_)
        ·
          refine j_iconst (x := nI 0) E dX7_pre_38 (by decide) ?_
          exact tail _ (by rw [cdPre, cI_f (fun u => u hx), cI_f ho, cI_f (fun w : badC c => w.elim c3 (fun w => Int32.not_lt.mpr c4 w))]; rfl)
        ·
          refine j_iconst (x := nI 3) E dX7_pre_34 (by decide) ?_
          refine j_goto E (tgt := 39) dX7_pre_35 (by decide) ?_
          exact tail _ (by rw [cdPre, cI_f (fun u => u hx), cI_f ho, cI_t (show badC c from Or.inr (Int32.not_le.mp c4))]; rfl)
    ·
      refine j_iconst (x := nI 2) E dX7_pre_20 (by decide) ?_
      refine j_goto E (tgt := 39) dX7_pre_21 (by decide) ?_
      exact tail _ (by rw [cdPre, cI_f (fun u => u hx), cI_t (bI_n.mp c2)]; rfl)
  ·
    refine j_iconst (x := nI 1) E dX7_pre_9 (by decide) ?_
    refine j_goto E (tgt := 39) dX7_pre_10 (by decide) ?_
    exact tail _ (by rw [cdPre, cI_t (bI_z.mp c1)]; rfl)
end M4
