/-! the class: clear(), shape() -/
theorem gS_nil (j : Nat) : gS [] j = dS := rfl
theorem nbits_app {d : Int} {ss : List SH} {i : Nat} (hi : i ≤ ss.length) (h10 : ss.length < 12) : bS (nbits d (ss ++ [dS]) i) = if i < ss.length then bS (nbits d ss i) else 0 := by
  have hd : ∀ a : SH, ¬ nearW d a dS ∧ ¬ nearW d dS a := fun a => ⟨fun ⟨i, j, h1, h2, h3⟩ => absurd h2 (Nat.not_lt_zero _), fun ⟨i, j, h1, h2, h3⟩ => absurd h1 (Nat.not_lt_zero _)⟩
  have e1 : gS (ss ++ [dS]) ss.length = dS := by rw [gS_app, if_neg (Nat.lt_irrefl _), if_pos rfl]
  by_cases e : i < ss.length
  · rw [if_pos e]
    refine bS_congr (fun q _ => ?_)
    unfold nbits
    rw [List.length_append, List.length_singleton, gS_app, if_pos e]
    by_cases e2 : q < ss.length
    · rw [gS_app, if_pos e2]
      exact ⟨fun w => ⟨e2, w.2⟩, fun w => ⟨by omega, w.2⟩⟩
    · refine ⟨fun w => ?_, fun w => absurd w.1 e2⟩
      have : q = ss.length := by have := w.1; omega
      rw [this, e1] at w
      exact absurd w.2.2 (hd _).1
  · rw [if_neg e]
    have : i = ss.length := by omega
    subst this
    refine bS_z.mpr (fun q _ w => ?_)
    have := w.2.2
    rw [e1] at this
    exact (hd _).2 this
theorem gG_app {gs : List SG} {g : SG} {j : Nat} : gG (gs ++ [g]) j = if j < gs.length then gG gs j else if j = gs.length then g else (0, 0, 0, 0, []) := by
  unfold gG
  rw [List.getD_eq_getElem?_getD]
  by_cases e : j < gs.length
  · rw [if_pos e, List.getElem?_append_left e, List.getD_eq_getElem?_getD]
  · rw [if_neg e, List.getElem?_append_right (by omega)]
    by_cases e2 : j = gs.length
    · rw [if_pos e2, e2, Nat.sub_self]; rfl
    · rw [if_neg e2]
      have : j - gs.length ≠ 0 := by omega
      obtain ⟨k, hk⟩ : ∃ k, j - gs.length = k + 1 := ⟨j - gs.length - 1, by omega⟩
      rw [hk]; rfl
noncomputable def mkT (h : HM) (T T2 : Nat → Nat) : Nat → Nat := fun z => cI (h z = none) (T2 z) (T z)
theorem mkT_old {h : HM} {T T2 : Nat → Nat} {z : Nat} (hz : h z ≠ none) : mkT h T T2 z = T z := cI_f hz
theorem mkT_new {h : HM} {T T2 : Nat → Nat} {z : Nat} (hz : h z = none) : mkT h T T2 z = T2 z := cI_t hz
section C10
variable {l : Launch} {B E0 : Nat} {D : va_G} {h : HM} {T : Nat → Nat} {c : Nat} {d : Int} {ss : List SH} {N : Nat → Nat → Prop} {kp : Option KPs} {rg : List Nat} {cl : Prop} {gs : List SG} {la le ra : Nat} {kr : Value}
theorem CR.ne (R : CR E0 h T c d ss kp rg cl gs la le ra kr) : c ≠ la ∧ c ≠ le ∧ c ≠ ra ∧ c ≠ E0 ∧ ra ≠ la ∧ ra ≠ le ∧ la ≠ E0 ∧ ra ≠ E0 := by
  obtain ⟨⟨f0, r0⟩, r1, r2, r3, r4, ⟨f, r5, r6, r7⟩, r8, t0, t1, t2, t3, t4⟩ := R
  obtain ⟨⟨zl, hl1⟩, ne, fe, hl2⟩ := r2.ty
  exact ⟨hm_ne r1 hl1 (by intro z; cases z), hm_ne r1 hl2 (by intro z; cases z), hm_ne r1 r5 (by intro z; cases z), hm_ne r1 r0 (by intro z; cases z), hm_ne r5 hl1 (by intro z; cases z), hm_ne r5 hl2 (by intro z; cases z), hm_ne hl1 r0 (by intro z; cases z), hm_ne r5 r0 (by intro z; cases z)⟩
theorem iw_X6_clear_X6 : ∀ w ∈ u_ws RX6 TX6 6, w ∈ wsX6_clear := by decide +kernel
theorem c_clear (v : Nat) (R : CR E0 h T c d ss kp rg cl gs la le ra kr) : CM l B E0 D yX6_clear wsX6_clear (v + 2) 0 0 [.ref c] h (fun r h1 => r = none ∧ CR E0 h1 T c d [] none [] False [] la le ra .null ∧ CF h T h1 T) := by
  have R0 := R
  obtain ⟨n1, n2, n3, n4, n5, n6, n7, n8⟩ := R.ne
  obtain ⟨⟨f0, r0⟩, r1, r2, r3, r4, ⟨f, r5, r6, r7⟩, r8, t0, t1, t2, t3, t4⟩ := R
  have nn : ∀ {q o}, h q = some o → h q ≠ none := fun e w => by rw [e] at w; cases w
  obtain ⟨⟨zl, hl1⟩, ne, fe, hl2⟩ := r2.ty
  refine CM.of (cc := cX6_clear) (maxL := 1) (ret := none) (by decide) rfl (Nat.le_of_ble_eq_true rfl) (fun X E hin => ?_)
  show J X B D 1 _ h 0 0 0 [(0, .ref c)] []
  generalize hQ : jQ X B D _ _ _ = Q
  refine j_aload_n E dX6_clear_0 rfl ?_
  refine j_getfield (ref := "ColourParts") (C := RX6) (T := TX6) (N := 6) (ci := 7) E 1 dX6_clear_1 iw_X6_clear_X6 rfl (by decide) (by decide +kernel) rfl (by first | with_reducible assumption | exact hput_eq _ _ _ | exact (hput_ne _ (by first | assumption | exact Ne.symm (by assumption))).trans (by assumption) | exact (hput_ne _ (by first | assumption | exact Ne.symm (by assumption))).trans (hput_eq _ _ _) | exact (hput_ne _ (by first | assumption | exact Ne.symm (by assumption))).trans ((hput_ne _ (by first | assumption | exact Ne.symm (by assumption))).trans (by assumption)) | exact (hput_ne _ (by first | assumption | exact Ne.symm (by assumption))).trans ((hput_ne _ (by first | assumption | exact Ne.symm (by assumption))).trans (hput_eq _ _ _))) rfl ?_
  refine j_callV (np := 0) (C := RJx4a65c) (T := TJx4a65c) (N := 3) (ci := 0) E (c_alClear v r2 r0) gX6_clear_Jx4a65c_clear_da8c8 rfl ⟨rfl, by decide, by decide, by decide +kernel⟩ dX6_clear_4 (by omega) (by decide) rfl hl1 rfl rfl (Nat.le_of_ble_eq_true rfl) (by omega) (by omega) (fun r h1 p => ?_)
  obtain ⟨rfl, p1, p2⟩ := p
  refine J.wide (k' := 0) (n' := 0) (by omega) (by omega) ?_
  have k1 : ∀ q o, h q = some o → q ≠ la → (q = le → q = E0) → h1 q = some o := fun q o e a b => (p2 q (nn e) (fun w => w.elim a (fun w => w.2 (b w.1)))).trans e
  have c1 := k1 _ _ r1 n1 (fun e => absurd e n2)
  refine j_aload_n E dX6_clear_7 rfl ?_
  refine j_null E dX6_clear_8 ?_
  refine j_putfield (ref := "ColourParts") (C := RX6) (T := TX6) (N := 6) (ci := 7) E 4 dX6_clear_9 iw_X6_clear_X6 tyX6 tyX6_ok nmX6 rfl (by decide) (by decide +kernel) rfl rfl rfl rfl (by first | with_reducible assumption | exact hput_eq _ _ _ | exact (hput_ne _ (by first | assumption | exact Ne.symm (by assumption))).trans (by assumption) | exact (hput_ne _ (by first | assumption | exact Ne.symm (by assumption))).trans (hput_eq _ _ _) | exact (hput_ne _ (by first | assumption | exact Ne.symm (by assumption))).trans ((hput_ne _ (by first | assumption | exact Ne.symm (by assumption))).trans (by assumption)) | exact (hput_ne _ (by first | assumption | exact Ne.symm (by assumption))).trans ((hput_ne _ (by first | assumption | exact Ne.symm (by assumption))).trans (hput_eq _ _ _))) (Nat.le_of_ble_eq_true rfl) ?_
  refine j_aload_n E dX6_clear_12 rfl ?_
  refine j_iconst (x := nI 0) E dX6_clear_13 (by decide) ?_
  refine j_putfield (ref := "ColourParts") (C := RX6) (T := TX6) (N := 6) (ci := 7) E 3 dX6_clear_14 iw_X6_clear_X6 tyX6 tyX6_ok nmX6 rfl (by decide) (by decide +kernel) rfl rfl rfl rfl (by first | with_reducible assumption | exact hput_eq _ _ _ | exact (hput_ne _ (by first | assumption | exact Ne.symm (by assumption))).trans (by assumption) | exact (hput_ne _ (by first | assumption | exact Ne.symm (by assumption))).trans (hput_eq _ _ _) | exact (hput_ne _ (by first | assumption | exact Ne.symm (by assumption))).trans ((hput_ne _ (by first | assumption | exact Ne.symm (by assumption))).trans (by assumption)) | exact (hput_ne _ (by first | assumption | exact Ne.symm (by assumption))).trans ((hput_ne _ (by first | assumption | exact Ne.symm (by assumption))).trans (hput_eq _ _ _))) (Nat.le_of_ble_eq_true rfl) ?_
  refine j_aload_n E dX6_clear_17 rfl ?_
  refine j_iconst (x := nI 0) E dX6_clear_18 (by decide) ?_
  refine j_putfield (ref := "ColourParts") (C := RX6) (T := TX6) (N := 6) (ci := 7) E 5 dX6_clear_19 iw_X6_clear_X6 tyX6 tyX6_ok nmX6 rfl (by decide) (by decide +kernel) rfl rfl rfl rfl (by first | with_reducible assumption | exact hput_eq _ _ _ | exact (hput_ne _ (by first | assumption | exact Ne.symm (by assumption))).trans (by assumption) | exact (hput_ne _ (by first | assumption | exact Ne.symm (by assumption))).trans (hput_eq _ _ _) | exact (hput_ne _ (by first | assumption | exact Ne.symm (by assumption))).trans ((hput_ne _ (by first | assumption | exact Ne.symm (by assumption))).trans (by assumption)) | exact (hput_ne _ (by first | assumption | exact Ne.symm (by assumption))).trans ((hput_ne _ (by first | assumption | exact Ne.symm (by assumption))).trans (hput_eq _ _ _))) (Nat.le_of_ble_eq_true rfl) ?_
  rw [hput_hput, hput_hput]
  rw [← hQ]
  refine j_vret E dX6_clear_22 rfl (by omega) (by omega) ⟨rfl, ⟨⟨f0, (hput_ne _ n4.symm).trans (k1 _ _ r0 n7.symm (fun _ => rfl))⟩, ?_, p1.keep (hput_ne _ n1.symm) (hput_ne _ n2.symm), rfl, fun j hj => absurd hj (Nat.not_lt_zero _), ⟨f, (hput_ne _ n3.symm).trans (k1 _ _ r5 n5 (fun e => absurd e n6)), by decide, fun k hk => absurd hk (Nat.not_lt_zero _)⟩, Or.inl ⟨rfl, rfl⟩, t0, t1, t2, t3, fun j hj => absurd hj (Nat.not_lt_zero _)⟩, fun q q1 q2 => ⟨?_, q2⟩⟩
  · rw [hput_eq, bI_f id]; rfl
  · rw [hput_ne _ (fun e => by rw [e, t0] at q2; cases q2)]
    refine p2 q q1 (fun w => ?_)
    rcases w with e | ⟨e, e2⟩
    · rw [e, t1] at q2; cases q2
    · rw [e] at q2 e2; rw [t2 e2] at q2; cases q2
theorem iw_X6_shape_X5 : ∀ w ∈ u_ws RX5 TX5 9, w ∈ wsX6_shape := by decide +kernel
theorem iw_X6_shape_X6 : ∀ w ∈ u_ws RX6 TX6 6, w ∈ wsX6_shape := by decide +kernel
theorem c_shape (v : Nat) (R : CR E0 h T c d ss kp rg cl gs la le ra kr) (hw : wfSS ss) : CX l B E0 D yX6_shape wsX6_shape (v + 7) 4 30 [.ref c] h (fun r h1 => cdShape ss = 0 ∧ r = some (.int (nI ss.length)) ∧ ∃ T1 gs1 le1, CR E0 h1 T1 c d (ss ++ [dS]) kp rg cl gs1 la le1 ra kr ∧ CF h T h1 T1) (fun E h1 => h1 = h ∧ E = eS ∧ cdShape ss = 1) := by
  have R1 := R.2.1
  obtain ⟨L, hL, zl, hl⟩ := R.lst
  obtain ⟨f0, r0⟩ := R.1
  have h10 := hw.1
  have h12 := hw.2.1
  refine CX.of (cc := cX6_shape) (maxL := 1) (ret := (some .int)) (by decide) rfl (Nat.le_of_ble_eq_true rfl) (fun X E htab => ?_)
  show J X B D 1 _ h 0 0 0 [(0, .ref c)] []
  generalize hQ : jX X B D _ _ _ _ = Q
  have full : (ss.length = 10 ∨ tS ss ss.length = 12) → J X B D 1 Q h 0 0 21 [(0, .ref c)] [] := by
    intro hf
    rw [← hQ]
    exact j_throw (cls := "java/lang/IllegalStateException") (text := "no more shapes") (ik := 54) (is := 56) (ic := 58) E htab dX6_shape_21 dX6_shape_24 dX6_shape_25 dX6_shape_27 dX6_shape_30 (by decide) (by decide +kernel) (by decide +kernel) (by decide) (by decide +kernel) (by decide +kernel) (by decide +kernel) (by omega) (Nat.le_of_ble_eq_true rfl) (by omega) (by omega) ⟨rfl, rfl, by unfold cdShape; rw [cI_t hf]⟩
  refine j_aload_n E dX6_shape_0 rfl ?_
  refine j_getfield (ref := "ColourParts") (C := RX6) (T := TX6) (N := 6) (ci := 7) E 1 dX6_shape_1 iw_X6_shape_X6 rfl (by decide) (by decide +kernel) rfl (by first | with_reducible assumption | exact hput_eq _ _ _ | exact (hput_ne _ (by first | assumption | exact Ne.symm (by assumption))).trans (by assumption) | exact (hput_ne _ (by first | assumption | exact Ne.symm (by assumption))).trans (hput_eq _ _ _) | exact (hput_ne _ (by first | assumption | exact Ne.symm (by assumption))).trans ((hput_ne _ (by first | assumption | exact Ne.symm (by assumption))).trans (by assumption)) | exact (hput_ne _ (by first | assumption | exact Ne.symm (by assumption))).trans ((hput_ne _ (by first | assumption | exact Ne.symm (by assumption))).trans (hput_eq _ _ _))) rfl ?_
  refine j_callV (np := 0) (C := RJx4a65c) (T := TJx4a65c) (N := 3) (ci := 0) E (c_size (v + 2) L) gX6_shape_Jx4a65c_size_8abf5 rfl ⟨rfl, by decide, by decide, by decide +kernel⟩ dX6_shape_4 (by omega) (by decide) rfl hl rfl rfl (Nat.le_of_ble_eq_true rfl) (by omega) (by omega) (fun r9 h9 p9 => J.pure p9 ?_)
  rw [hL]
  refine J.wide (k' := 0) (n' := 0) (by omega) (by omega) ?_
  refine j_bipush (x := nI 10) E dX6_shape_7 (by decide) ?_
  refine j_icmp_ge E (tgt := 21) dX6_shape_9 (by decide) (fun c1 => ?_) (fun c1 => ?_)
  · exact full (Or.inl (by have := Nat.not_lt.mp (fun z => nI_ge z (by omega) c1); omega))
  · have l10 : ss.length < 10 := Nat.not_le.mp (fun z => c1 (nI_le z (by omega)))
    refine j_aload_n E dX6_shape_12 rfl ?_
    refine j_callV (np := 0) (C := RX6) (T := TX6) (N := 6) (ci := 7) E (c_countPieces v R hw) gX6_shape_X6_countPieces rfl ⟨rfl, by decide, by decide, by decide +kernel⟩ dX6_shape_13 (by omega) (by decide) rfl (by first | with_reducible assumption | exact hput_eq _ _ _ | exact (hput_ne _ (by first | assumption | exact Ne.symm (by assumption))).trans (by assumption) | exact (hput_ne _ (by first | assumption | exact Ne.symm (by assumption))).trans (hput_eq _ _ _) | exact (hput_ne _ (by first | assumption | exact Ne.symm (by assumption))).trans ((hput_ne _ (by first | assumption | exact Ne.symm (by assumption))).trans (by assumption)) | exact (hput_ne _ (by first | assumption | exact Ne.symm (by assumption))).trans ((hput_ne _ (by first | assumption | exact Ne.symm (by assumption))).trans (hput_eq _ _ _))) rfl rfl (Nat.le_of_ble_eq_true rfl) (by omega) (by omega) (fun r9 h9 p9 => J.pure p9 ?_)
    refine J.wide (k' := 0) (n' := 0) (by omega) (by omega) ?_
    refine j_bipush (x := nI 12) E dX6_shape_16 (by decide) ?_
    refine j_icmp_lt E (tgt := 31) dX6_shape_18 (by decide) (fun c2 => ?_) (fun c2 => ?_)
    · have t12 : tS ss ss.length < 12 := Nat.not_le.mp (fun z => nI_nlt z (by omega) c2)
      refine j_aload_n E dX6_shape_31 rfl ?_
      refine j_getfield (ref := "ColourParts") (C := RX6) (T := TX6) (N := 6) (ci := 7) E 1 dX6_shape_32 iw_X6_shape_X6 rfl (by decide) (by decide +kernel) rfl (by first | with_reducible assumption | exact hput_eq _ _ _ | exact (hput_ne _ (by first | assumption | exact Ne.symm (by assumption))).trans (by assumption) | exact (hput_ne _ (by first | assumption | exact Ne.symm (by assumption))).trans (hput_eq _ _ _) | exact (hput_ne _ (by first | assumption | exact Ne.symm (by assumption))).trans ((hput_ne _ (by first | assumption | exact Ne.symm (by assumption))).trans (by assumption)) | exact (hput_ne _ (by first | assumption | exact Ne.symm (by assumption))).trans ((hput_ne _ (by first | assumption | exact Ne.symm (by assumption))).trans (hput_eq _ _ _))) rfl ?_
      refine j_new (C := RX5) (T := TX5) (N := 9) (ci := 6) E [.null, .null, .int 0, .int 0, .int 0, .int 0, .int 0, .long 0, .long 0] dX6_shape_35 iw_X6_shape_X5 tyX5 tyX5_ok (by decide +kernel) (by decide +kernel) (by decide +kernel) rfl (by decide) (by omega) (by omega) (fun q nq bq => ?_)
      refine j_dup E dX6_shape_38 rfl ?_
      have nqc : c ≠ q := hm_neN R1 nq
      refine j_callIN (np := 0) E (c_shapeInit v (h := hput h q (hO 6 [.null, .null, .int 0, .int 0, .int 0, .int 0, .int 0, .long 0, .long 0])) ((hput_ne _ (hm_neN r0 nq)).trans r0) (hput_eq _ _ _)) gX6_shape_X5_init_n63 rfl (by decide +kernel) E.2.2.2.2.2.2.2.1.1.2.2.2.2.2.2.2.1 (by decide +kernel) rfl ⟨by decide, by decide, by decide +kernel⟩ dX6_shape_39 (by omega) (by decide) rfl rfl (Nat.le_of_ble_eq_true rfl) (by omega) (by omega) (fun r h2 p => ?_)
      obtain ⟨rfl, bl, pl, nbl, npl, nbp, S, F⟩ := p
      have nbl2 := hput_none nbl
      have npl2 := hput_none npl
      have k2 : ∀ z, h z ≠ none → h2 z = h z := fun z hz => by
        have hzq : z ≠ q := fun e => hz (by rw [e]; exact nq)
        exact (F z (by rw [hput_ne _ hzq]; exact hz) hzq).trans (hput_ne _ hzq)
      have o2 : onF h h2 := k2
      refine J.wide (k' := 3) (n' := 15) (by omega) (by omega) ?_
      have Snn := S.nn
      have Sx := S
      obtain ⟨⟨hx, hy, S1, -⟩, -⟩ := S
      have L2 : AL E0 h2 la le (gs.map (·.1)) := by
        obtain ⟨-, ne, fe, hl2⟩ := L.ty
        exact L.keep ((o2.at hl).trans hl.symm) ((o2.at hl2).trans hl2.symm)
      have hob : ∀ z ∈ gs.map (·.1), hOb h2 z := fun z hz => by
        obtain ⟨i, hi, rfl⟩ := List.mem_iff_getElem.mp hz
        rw [R.el]
        obtain ⟨⟨hx2, hy2, S2, -⟩, -⟩ := R.sh (show i < ss.length by omega)
        exact ⟨6, _, _, o2.at S2, rfl⟩
      refine j_callV (np := 1) (C := RJx4a65c) (T := TJx4a65c) (N := 3) (ci := 0) E (c_add v L2 (o2.at r0) (by omega) hob ⟨6, _, _, S1, rfl⟩) gX6_shape_Jx4a65c_add_9ea2d rfl ⟨rfl, by decide, by decide, by decide +kernel⟩ dX6_shape_42 (by omega) (by decide) rfl (o2.at hl) rfl rfl (Nat.le_of_ble_eq_true rfl) (by omega) (by omega) (fun r h3 p => ?_)
      obtain ⟨rfl, e1, p1, p2, p3⟩ := p
      refine J.wide (k' := 4) (n' := 30) (by omega) (by omega) ?_
      obtain ⟨n1, n2, n3, n4, n5, n6, n7, n8⟩ := R.ne
      have hR := R
      obtain ⟨-, -, -, r3, r4, ⟨f, r5, r6, r7⟩, r8, t0, t1, t2, t3, t4⟩ := hR
      have nn : ∀ {q o}, h q = some o → h q ≠ none := fun e w => by rw [e] at w; cases w
      have m3 : ∀ z, h z ≠ none → T z ≠ 1 → T z ≠ 2 → h3 z = h z := fun z hz a b => by
        refine (p2 z (by rw [k2 z hz]; exact hz) (fun w => ?_)).trans (k2 z hz)
        rcases w with e | ⟨e, e2⟩
        · exact a (by rw [e]; exact t1)
        · exact b (by rw [e] at e2 ⊢; exact t2 e2)
      have mE : h3 E0 = h E0 := (p2 E0 (by rw [k2 _ (nn r0)]; exact nn r0) (fun w => w.elim (fun e => n7 e.symm) (fun w => w.2 rfl))).trans (k2 _ (nn r0))
      have mf : ∀ z, h z = none → h2 z ≠ none → h3 z = h2 z := fun z hz hz2 => p2 z hz2 (fun w => by
        rcases w with e | ⟨e, e2⟩
        · rw [e, hl] at hz; cases hz
        · obtain ⟨-, ne, fe, hl2⟩ := L.ty
          rw [e, hl2] at hz; cases hz)
      have c3 := (m3 c (nn R1) (by omega) (by omega)).trans R1
      obtain ⟨⟨zl3, hl3⟩, -⟩ := p1.ty
      refine j_pop E dX6_shape_45 rfl ?_
      refine j_aload_n E dX6_shape_46 rfl ?_
      refine j_getfield (ref := "ColourParts") (C := RX6) (T := TX6) (N := 6) (ci := 7) E 1 dX6_shape_47 iw_X6_shape_X6 rfl (by decide) (by decide +kernel) rfl (by first | with_reducible assumption | exact hput_eq _ _ _ | exact (hput_ne _ (by first | assumption | exact Ne.symm (by assumption))).trans (by assumption) | exact (hput_ne _ (by first | assumption | exact Ne.symm (by assumption))).trans (hput_eq _ _ _) | exact (hput_ne _ (by first | assumption | exact Ne.symm (by assumption))).trans ((hput_ne _ (by first | assumption | exact Ne.symm (by assumption))).trans (by assumption)) | exact (hput_ne _ (by first | assumption | exact Ne.symm (by assumption))).trans ((hput_ne _ (by first | assumption | exact Ne.symm (by assumption))).trans (hput_eq _ _ _))) rfl ?_
      refine j_callV (np := 0) (C := RJx4a65c) (T := TJx4a65c) (N := 3) (ci := 0) E (c_size (v + 2) p1) gX6_shape_Jx4a65c_size_8abf5 rfl ⟨rfl, by decide, by decide, by decide +kernel⟩ dX6_shape_50 (by omega) (by decide) rfl hl3 rfl rfl (Nat.le_of_ble_eq_true rfl) (by omega) (by omega) (fun r9 h9 p9 => J.pure p9 ?_)
      refine J.wide (k' := 4) (n' := 30) (by omega) (by omega) ?_
      have hlen : (gs.map (·.1) ++ [q]).length = ss.length + 1 := by rw [List.length_append, hL]; rfl
      rw [hlen]
      refine j_iconst (x := nI 1) E dX6_shape_53 (by decide) ?_
      refine j_isub E dX6_shape_54 ?_
      refine J.topi (x' := nI ss.length) (nI_pred ss.length) ?_
      have q2 : h2 q ≠ none := Snn.1
      have b2 : h2 bl ≠ none := Snn.2.1
      have pl2 : h2 pl ≠ none := Snn.2.2.2.1
      have bq : bl ≠ q := nbl2.2
      have pq : pl ≠ q := npl2.2
      have shn : shR E0 h3 dS 0 (q, bl, E0, pl, []) := Sx.keep (fun z z0 hz => by
        rcases hz with rfl | rfl | rfl | rfl | hz
        · exact mf _ nq q2
        · exact mf _ nbl2.1 b2
        · exact mE.trans (k2 _ (nn r0)).symm
        · exact mf _ npl2.1 pl2
        · exact absurd hz List.not_mem_nil)
      have e1f : e1 = le ∨ (h e1 = none ∧ e1 ≠ q ∧ e1 ≠ bl ∧ e1 ≠ pl) := p3.imp id (fun z => ⟨o2.no z, fun e => q2 (e ▸ z), fun e => b2 (e ▸ z), fun e => pl2 (e ▸ z)⟩)
      generalize hT2 : (fun z => if z = q then 8 * ss.length + 16 else if z = bl then 8 * ss.length + 17 else if z = pl then 8 * ss.length + 19 else 2 : Nat → Nat) = T2
      have u1 : T2 q = 8 * ss.length + 16 := by rw [← hT2]; exact if_pos rfl
      have u2 : T2 bl = 8 * ss.length + 17 := by rw [← hT2]; show (if bl = q then _ else _) = _; rw [if_neg bq, if_pos rfl]
      have u3 : T2 pl = 8 * ss.length + 19 := by rw [← hT2]; show (if pl = q then _ else _) = _; rw [if_neg pq, if_neg nbp.symm, if_pos rfl]
      have fin : CR E0 h3 (mkT h T T2) c d (ss ++ [dS]) kp rg cl (gs ++ [(q, bl, E0, pl, [])]) la e1 ra kr := by
        refine ⟨⟨f0, mE.trans r0⟩, c3, by rw [List.map_append]; exact p1, by rw [List.length_append, List.length_append, r3]; rfl, fun j hj => ?_, ⟨f, (m3 ra (nn r5) (by omega) (by omega)).trans r5, r6, r7⟩, r8.keep (fun z z0 z6 => ⟨m3 z z0 (by omega) (by omega), mkT_old z0⟩), (mkT_old (nn R1)).trans t0, (mkT_old (nn hl)).trans t1, fun e => ?_, (mkT_old (nn r5)).trans t3, fun j hj => ?_⟩
        · rw [List.length_append, List.length_singleton] at hj
          rw [nbits_app (by omega) (by omega), gS_app, gG_app, r3]
          by_cases e : j < ss.length
          · rw [if_pos e, if_pos e, if_pos e]
            obtain ⟨v1, v2, v3, v4, v5⟩ := t4 j e
            refine (r4 j e).keep (fun z z0 hz => ?_)
            rcases hz with rfl | rfl | rfl | rfl | hz
            · exact m3 _ z0 (by omega) (by omega)
            · exact m3 _ z0 (by omega) (by omega)
            · by_cases e2 : (gG gs j).2.2.1 = E0
              · rw [e2]; exact mE
              · exact m3 _ z0 (by have := v3 e2; omega) (by have := v3 e2; omega)
            · exact m3 _ z0 (by omega) (by omega)
            · exact m3 _ z0 (by have := v5 _ hz; omega) (by have := v5 _ hz; omega)
          · rw [if_neg e, if_neg e, if_neg e, if_pos (show j = ss.length by omega), if_pos (show j = ss.length by omega)]
            exact shn
        · rcases e1f with e2 | ⟨z0, z1, z2, z3⟩
          · rw [e2] at e ⊢
            obtain ⟨-, ne, fe, hl2⟩ := L.ty
            exact (mkT_old (nn hl2)).trans (t2 e)
          · rw [mkT_new z0, ← hT2]
            show (if e1 = q then _ else _) = _
            rw [if_neg z1, if_neg z2, if_neg z3]
        · rw [List.length_append, List.length_singleton] at hj
          rw [gG_app, r3]
          by_cases e : j < ss.length
          · rw [if_pos e]
            obtain ⟨v1, v2, v3, v4, v5⟩ := t4 j e
            obtain ⟨w1, w2, w3, w4, w5⟩ := (r4 j e).nn
            exact ⟨(mkT_old w1).trans v1, (mkT_old w2).trans v2, fun x => (mkT_old w3).trans (v3 x), (mkT_old w4).trans v4, fun y hy => (mkT_old (w5 y hy)).trans (v5 y hy)⟩
          · rw [if_neg e, if_pos (show j = ss.length by omega), show j = ss.length by omega]
            exact ⟨(mkT_new nq).trans u1, (mkT_new nbl2.1).trans u2, fun x => absurd rfl x, (mkT_new npl2.1).trans u3, fun y hy => absurd hy List.not_mem_nil⟩
      rw [← hQ]
      exact j_x (j_iret E dX6_shape_55 rfl rfl (by omega) (by omega) ⟨by unfold cdShape; rw [cI_f (by omega)], rfl, _, _, _, fin, fun z z0 zT => ⟨m3 z z0 (by omega) (by omega), (mkT_old z0).trans zT⟩⟩)
    · exact full (Or.inr (by have := Nat.not_lt.mp (fun z => c2 (nI_lt z (by omega))); omega))
end C10
