/-! run() of the class -/
theorem KR_of {h : HM} {T : Nat → Nat} {ko : Nat} {k : Nat → Nat} {ps : KPs} {f0 f1 f2 f3 : Nat → Int32} {f4 : Nat → Int64} (K : KO h ko k (nI (uC (kS ps) (kC ps) ps.length)) f0 f1 f2 f3 f4) (V1 : KV1 ps ps.length f0 f1 f2) (V2 : KV2 ps ps.length f3 f4) (t : T ko = 6) (tk : ∀ i, i < 5 → T (k i) = 6) : KR h T ko ps := by
  obtain ⟨K1, K2, -⟩ := K
  refine ⟨k 0, k 1, k 2, k 3, k 4, f0, f1, f2, f3, f4, ⟨t, tk 0 (by decide), tk 1 (by decide), tk 2 (by decide), tk 3 (by decide), tk 4 (by decide)⟩, K1, K2, fun s hs => ?_, V2⟩
  obtain ⟨h1, ⟨c, c1, c2, c3⟩, h3⟩ := V1 s hs
  exact ⟨h1, ⟨c, c1, c2, fun K => (c3 K).trans ⟨fun ⟨f, g⟩ => ⟨ps, f, rfl, g⟩, fun ⟨ps2, f, e, g⟩ => by cases e; exact ⟨f, g⟩⟩⟩, h3⟩
section C39
variable {l : Launch} {B E0 : Nat} {D : va_G} {h : HM} {T : Nat → Nat} {c : Nat} {d : Int} {ss : List SH} {kp : Option KPs} {rg : List Nat} {cl : Prop} {gs : List SG} {la le ra : Nat} {kr : Value}
theorem iw_X6_run_X1 : ∀ w ∈ u_ws RX1 TX1 6, w ∈ wsX6_run := by decide +kernel
theorem iw_X6_run_X4 : ∀ w ∈ u_ws RX4 TX4 9, w ∈ wsX6_run := by decide +kernel
theorem iw_X6_run_X6 : ∀ w ∈ u_ws RX6 TX6 6, w ∈ wsX6_run := by decide +kernel
theorem c_run (v : Nat) (R : CR E0 h T c d ss kp rg cl gs la le ra kr) (hw : wfSS ss) (hd : 1 ≤ d ∧ d ≤ 65536) (z : Int32) (x : Int64) : CX l B E0 D yX6_run wsX6_run (v + 30) 80 640 [.ref c, .int z, .long x] h (fun r h1 => cdRun ss z x = 0 ∧ (¬ lZ (tS ss ss.length : Nat) ≤ x → r = some (.int 2) ∧ CR E0 h1 T c d ss kp rg False gs la le ra kr ∧ CF h T h1 T) ∧ (lZ (tS ss ss.length : Nat) ≤ x → ∃ many kp1 rg1 T1 kr1, many ≤ 4 ∧ z = nI many ∧ runR d ss many kp1 rg1 ∧ CR E0 h1 T1 c d ss kp1 rg1 True gs la le ra kr1 ∧ CF h T h1 T1 ∧ ((kp1 = none ∧ r = some (.int 1)) ∨ (¬ kp1 = none ∧ r = some (.int 0))))) (fun E h1 => h1 = h ∧ ((E = eS ∧ cdRun ss z x = 1) ∨ (E = eA ∧ cdRun ss z x = 2))) := by
  have hl := hw.1
  have h12 := hw.2.1
  have R1 := R.2.1
  obtain ⟨f0, rE⟩ := R.1
  have rne := R.ne
  have tc : T c = 4 := R.2.2.2.2.2.2.2.1
  have tra : T ra = 5 := R.2.2.2.2.2.2.2.2.2.2.1
  have hra : ∃ f, h ra = some (hI 12 f) ∧ rg.length ≤ 12 ∧ ∀ k, k < rg.length → f k = nI (rg.getD k 0) := R.2.2.2.2.2.1
  have nn : ∀ {q o}, h q = some o → h q ≠ none := fun e w => by rw [e] at w; cases w
  refine CX.of (cc := cX6_run) (maxL := 6) (ret := (some .int)) (by decide) rfl (Nat.le_of_ble_eq_true rfl) (fun X E htab => ?_)
  show J X B D 6 _ h 0 0 0 [(0, .ref c), (1, .int z), (2, .long x)] []
  generalize hQ : jX X B D _ _ _ _ = Q
  refine j_aload_n E dX6_run_0 rfl ?_
  refine j_callX (np := 0) (C := RX6) (T := TX6) (N := 6) (ci := 7) E (c_needNoneOpen (v + 20) R hw) gX6_run_X6_needNoneOpen rfl ⟨rfl, by decide, by decide, by decide +kernel⟩ dX6_run_1 (by omega) (by decide) rfl (by first | with_reducible assumption | exact hput_eq _ _ _ | exact (hput_ne _ (by first | assumption | exact Ne.symm (by assumption))).trans (by assumption) | exact (hput_ne _ (by first | assumption | exact Ne.symm (by assumption))).trans (hput_eq _ _ _) | exact (hput_ne _ (by first | assumption | exact Ne.symm (by assumption))).trans ((hput_ne _ (by first | assumption | exact Ne.symm (by assumption))).trans (by assumption)) | exact (hput_ne _ (by first | assumption | exact Ne.symm (by assumption))).trans ((hput_ne _ (by first | assumption | exact Ne.symm (by assumption))).trans (hput_eq _ _ _))) rfl rfl (Nat.le_of_ble_eq_true rfl) (by omega) (by omega) (fun Ex h1 p => by rw [← hQ]; exact j_out E htab ⟨p.2.1, Or.inl ⟨p.1, by unfold cdRun; rw [cI_t p.2.2]⟩⟩ (by omega) (by omega)) (fun r h1 p => ?_)
  obtain ⟨rfl, rfl, nop⟩ := p
  refine J.wide (k' := 1) (n' := 6) (by omega) (by omega) ?_
  have bad : (z < 2 ∨ nI 4 < z ∨ x < 0) → J X B D 6 Q h1 1 6 20 [(0, .ref c), (1, .int z), (2, .long x)] [] := by
    intro hb
    rw [← hQ]
    exact j_throw (cls := "java/lang/IllegalArgumentException") (text := "no such colours or steps") (ik := 88) (is := 112) (ic := 92) E htab dX6_run_20 dX6_run_23 dX6_run_24 dX6_run_26 dX6_run_29 (by decide) (by decide +kernel) (by decide +kernel) (by decide) (by decide +kernel) (by decide +kernel) (by decide +kernel) (by omega) (Nat.le_of_ble_eq_true rfl) (by omega) (by omega) ⟨rfl, Or.inr ⟨rfl, by unfold cdRun; rw [cI_f nop, cI_t hb]⟩⟩
  refine j_iload_n E dX6_run_4 rfl ?_
  refine j_iconst (x := nI 2) E dX6_run_5 (by decide) ?_
  refine j_icmp_lt E (tgt := 20) dX6_run_6 (by decide) (fun c1 => ?_) (fun c1 => ?_)
  · exact bad (Or.inl c1)
  ·
    refine j_iload_n E dX6_run_9 rfl ?_
    refine j_iconst (x := nI 4) E dX6_run_10 (by decide) ?_
    refine j_icmp_gt E (tgt := 20) dX6_run_11 (by decide) (fun c2 => ?_) (fun c2 => ?_)
    · exact bad (Or.inr (Or.inl c2))
    ·
      refine j_lload_n E dX6_run_14 rfl ?_
      refine j_lconst (x := lZ 0) E dX6_run_15 (by decide) ?_
      refine j_lcmp E dX6_run_16 ?_
      refine j_if_ge E (tgt := 30) dX6_run_17 (by decide) (fun c3 => ?_) (fun c3 => ?_)
      · have hb : ¬ (z < 2 ∨ nI 4 < z ∨ x < 0) := by
          rintro (w | w | w)
          · exact c1 w
          · exact c2 w
          · exact Int32.not_lt.mpr c3 (cmp_lt.mpr w)
        have hcd : cdRun ss z x = 0 := by unfold cdRun; rw [cI_f nop, cI_f hb]
        obtain ⟨many, hm0, hz⟩ := nI_of (x := z) (fun w => c1 (Int32.lt_trans w (by decide)))
        have hm4 : many ≤ 4 := Nat.not_lt.mp (fun w => c2 (by rw [hz]; exact nI_lt w hm0))
        refine j_aload_n E dX6_run_30 rfl ?_
        refine j_callV (np := 0) (C := RX6) (T := TX6) (N := 6) (ci := 7) E (c_countPieces (v + 20) R hw) gX6_run_X6_countPieces rfl ⟨rfl, by decide, by decide, by decide +kernel⟩ dX6_run_31 (by omega) (by decide) rfl R1 rfl rfl (Nat.le_of_ble_eq_true rfl) (by omega) (by omega) (fun r9 h9 p9 => J.pure p9 ?_)
        refine J.wide (k' := 1) (n' := 6) (by omega) (by omega) ?_
        refine j_i2l E dX6_run_34 ?_
        refine J.topl (x' := lZ (tS ss ss.length : Nat)) (nI_i2l (by omega)) ?_
        refine j_lload_n E dX6_run_35 rfl ?_
        refine j_lcmp E dX6_run_36 ?_
        refine j_if_le E (tgt := 47) dX6_run_37 (by decide) (fun c4 => ?_) (fun c4 => ?_)
        · have hle : lZ (tS ss ss.length : Nat) ≤ x := cmp_le.mp c4
          have CR1 : CR E0 (hput h1 c (hO 7 [.long (lZ (d * d)), .ref la, .ref ra, .int (nI rg.length), kr, .int (bI True)])) T c d ss kp rg True gs la le ra kr := R.re (fun q _ _ q1 _ => hput_ne _ q1) (fun _ _ => rfl) (hput_ne _ rne.2.2.2.1.symm) (hput_eq _ _ _) (by
            obtain ⟨f, g1, g2, g3⟩ := hra
            exact ⟨f, (hput_ne _ rne.2.2.1.symm).trans g1, g2, g3⟩) (R.2.2.2.2.2.2.1.keep (fun q q0 q6 => ⟨hput_ne _ (fun e => by rw [e, tc] at q6; cases q6), rfl⟩))
          have O1 : ∀ y, h1 y ≠ none → y ≠ c → hput h1 c (hO 7 [.long (lZ (d * d)), .ref la, .ref ra, .int (nI rg.length), kr, .int (bI True)]) y = h1 y := fun y _ hy => hput_ne _ hy
          have N1 : ∀ y, hput h1 c (hO 7 [.long (lZ (d * d)), .ref la, .ref ra, .int (nI rg.length), kr, .int (bI True)]) y = none → h1 y = none := fun y hy => (hput_none hy).1
          refine j_aload_n E dX6_run_47 rfl ?_
          refine j_iconst (x := nI 1) E dX6_run_48 (by decide) ?_
          refine J.topi (x' := bI True) ((bI_t trivial).symm) ?_
          refine j_putfield (ref := "ColourParts") (C := RX6) (T := TX6) (N := 6) (ci := 7) E 5 dX6_run_49 iw_X6_run_X6 tyX6 tyX6_ok nmX6 rfl (by decide) (by decide +kernel) rfl rfl (nb_bI _) (fits_bI _) (by first | with_reducible assumption | exact hput_eq _ _ _ | exact (hput_ne _ (by first | assumption | exact Ne.symm (by assumption))).trans (by assumption) | exact (hput_ne _ (by first | assumption | exact Ne.symm (by assumption))).trans (hput_eq _ _ _) | exact (hput_ne _ (by first | assumption | exact Ne.symm (by assumption))).trans ((hput_ne _ (by first | assumption | exact Ne.symm (by assumption))).trans (by assumption)) | exact (hput_ne _ (by first | assumption | exact Ne.symm (by assumption))).trans ((hput_ne _ (by first | assumption | exact Ne.symm (by assumption))).trans (hput_eq _ _ _))) (Nat.le_of_ble_eq_true rfl) ?_
          show J X B D 6 Q (hput h1 c (hO 7 [.long (lZ (d * d)), .ref la, .ref ra, .int (nI rg.length), kr, .int (bI True)])) 1 6 52 _ []
          generalize hput h1 c (hO 7 [.long (lZ (d * d)), .ref la, .ref ra, .int (nI rg.length), kr, .int (bI True)]) = g1 at CR1 O1 N1 ⊢
          have G1 := CR1.2.1
          refine j_aload_n E dX6_run_52 rfl ?_
          refine j_callV (np := 0) (C := RX6) (T := TX6) (N := 6) (ci := 7) E (c_cutShapes (v + 20) CR1 hw nop) gX6_run_X6_cutShapes rfl ⟨rfl, by decide, by decide, by decide +kernel⟩ dX6_run_53 (by omega) (by decide) rfl G1 rfl rfl (Nat.le_of_ble_eq_true rfl) (by omega) (by omega) (fun r g2 p2 => ?_)
          obtain ⟨ps, row, re, pg, rfl, hpg, P2⟩ := p2
          refine J.wide (k' := 63) (n' := 502) (by omega) (by omega) ?_
          have P2a := P2.2.1
          have G2 := P2.1.1.at G1
          refine j_astore E dX6_run_56 (by decide) ?_
          refine j_aload E dX6_run_58 rfl ?_
          refine j_aload_n E dX6_run_60 rfl ?_
          refine j_getfield (ref := "ColourParts") (C := RX6) (T := TX6) (N := 6) (ci := 7) E 0 dX6_run_61 iw_X6_run_X6 rfl (by decide) (by decide +kernel) rfl G2 rfl ?_
          refine j_callV (np := 1) (C := RX3) (T := TX3) (N := 1) (ci := 4) E (c_pnear (v + 20) P2 hd (fun p hp => by have := (ow_spec (show p < tS ss ss.length by omega)).1; omega) (fun p hp => pbb_ok hw (by omega))) gX6_run_X3_findNearOnes rfl ⟨rfl, by decide, by decide, by decide +kernel⟩ dX6_run_64 (by omega) (by decide) rfl P2a rfl rfl (Nat.le_of_ble_eq_true rfl) (by omega) (by omega) (fun r g3 p3 => ?_)
          obtain ⟨rfl, P3⟩ := p3
          refine J.wide (k' := 63) (n' := 502) (by omega) (by omega) ?_
          have P3 := P3.same (N1 := NRn d ss (tS ss ss.length)) (fun p q _ _ => by rw [hpg]; exact NRn_of.symm)
          have o3 := P3.1.1
          refine j_new (C := RX4) (T := TX4) (N := 9) (ci := 5) E [.int 0, .int 0, .null, .null, .null, .null, .null, .null, .int 0] dX6_run_67 iw_X6_run_X4 tyX4 tyX4_ok (by decide +kernel) (by decide +kernel) (by decide +kernel) rfl (by decide) (by omega) (by omega) (fun sr nsr bsr => ?_)
          refine j_dup E dX6_run_70 rfl ?_
          refine j_aload E dX6_run_71 rfl ?_
          refine j_iload_n E dX6_run_73 rfl ?_
          have no1 : g1 sr = none := o3.no nsr
          have P4 := P3.on (onF.put (o := hO 5 [.int 0, .int 0, .null, .null, .null, .null, .null, .null, .int 0]) nsr)
          subst hz
          refine j_callI (np := 2) E (c_searchInit (v + 20) P4 hm4 no1 (hput_eq _ _ _) (fun p hp => by have := (ow_spec (show p < tS ss ss.length by omega)).1; omega) (fun p hp => td_b hw (by omega))) gX6_run_X4_init rfl (by decide +kernel) (by decide +kernel) (by decide +kernel) rfl ⟨by decide, by decide, by decide +kernel⟩ dX6_run_74 (by omega) (by decide) rfl rfl (Nat.le_of_ble_eq_true rfl) (by omega) (by omega) (fun r g5 p5 => ?_)
          obtain ⟨rfl, q, w5, b5, S5, q5, F5⟩ := p5
          refine J.wide (k' := 70) (n' := 575) (by omega) (by omega) ?_
          have o5 : onF g3 g5 := fun y hy => by
            have ny : y ≠ sr := fun e => hy (by rw [e]; exact nsr)
            exact (F5 y (by rw [hput_ne _ ny]; exact hy) ny).trans (hput_ne _ ny)
          have q3 : ∀ i, 2 ≤ i → i ≤ 7 → g3 (q i) = none := fun i i1 i2 => (hput_none (q5 i i1 i2)).1
          have S5a := S5.1
          rw [hpg] at S5
          have S5b := S5.hold (H1 := tdH (td ss) many 0) (fun c i _ _ => ⟨fun w => absurd w.2.1 (Nat.not_lt_zero _), fun w => w.elim⟩)
          refine j_astore E dX6_run_77 (by decide) ?_
          refine j_aload E dX6_run_79 rfl ?_
          refine j_callV (np := 0) (C := RX4) (T := TX4) (N := 9) (ci := 5) E (c_findBest (v + 24 - 2 * tS ss ss.length) (fun i j _ _ w => NRn_symm w) (fun i w => w.2.2.1 rfl) (fun i j w => w.2.1) S5b) gX6_run_X4_findBest rfl ⟨rfl, by decide, by decide, by decide +kernel⟩ dX6_run_81 (by omega) (by decide) rfl S5a rfl rfl (Nat.le_of_ble_eq_true rfl) (by omega) (by omega) (fun r g6 p6 => ?_)
          obtain ⟨rfl, few, w6, b6, HH, S6, B6, F6⟩ := p6
          refine J.wide (k' := 70) (n' := 575) (by omega) (by omega) ?_
          have o6 : onF g3 g6 := fun y hy => by
            have ny : y ≠ sr := fun e => hy (by rw [e]; exact nsr)
            have nq : ∀ i, 2 ≤ i → i ≤ 7 → y ≠ q i := fun i i1 i2 e => hy (by rw [e]; exact q3 i i1 i2)
            exact (F6 y ny (nq 5 (by decide) (by decide)) (nq 6 (by decide) (by decide)) (nq 7 (by decide) (by decide))).trans (o5 y hy)
          have o16 : onF g1 g6 := o3.tr o6
          have G6 := o16.at G1
          have P6 : PSR E0 (fun z => if z = E0 then g3 E0 else none) g6 ps row re pg (ow ss) (td ss) (pbb ss) (NRn d ss (tS ss ss.length)) := P3.chg (fun y o hy _ => o6.at hy)
          clear S5 S5a S5b F5 F6 P4 q5
          refine j_aload_n E dX6_run_84 rfl ?_
          refine j_iconst (x := nI 0) E dX6_run_85 (by decide) ?_
          refine j_putfield (ref := "ColourParts") (C := RX6) (T := TX6) (N := 6) (ci := 7) E 3 dX6_run_86 iw_X6_run_X6 tyX6 tyX6_ok nmX6 rfl (by decide) (by decide +kernel) rfl rfl rfl rfl G6 (Nat.le_of_ble_eq_true rfl) ?_
          show J X B D 6 Q (hput g6 c (hO 7 [.long (lZ (d * d)), .ref la, .ref ra, .int (nI 0), kr, .int (bI True)])) 70 575 89 _ []
          have G7 : hput g6 c (hO 7 [.long (lZ (d * d)), .ref la, .ref ra, .int (nI 0), kr, .int (bI True)]) c = some (hO 7 [.long (lZ (d * d)), .ref la, .ref ra, .int (nI 0), kr, .int (bI True)]) := hput_eq _ _ _
          have k67 : ∀ y o, g6 y = some o → (∀ w, o ≠ hO 7 w) → hput g6 c (hO 7 [.long (lZ (d * d)), .ref la, .ref ra, .int (nI 0), kr, .int (bI True)]) y = some o := fun y o hy ho => (hput_ne _ (fun e => by rw [e, G6] at hy; exact ho _ (Option.some.inj hy).symm)).trans hy
          have S7 := S6.but k67
          have P7 := P6.chg (fun y o hy hp => k67 y o hy (fun w e => by
            rcases hp with ⟨n2, f2, e2⟩ | ⟨ci, w2, e2, hc⟩
            · rw [e] at e2; cases e2
            · rw [e] at e2; cases e2; omega))
          have O7 : ∀ y, h1 y ≠ none → y ≠ c → hput g6 c (hO 7 [.long (lZ (d * d)), .ref la, .ref ra, .int (nI 0), kr, .int (bI True)]) y = h1 y := fun y hy hc => by
            have e1 := O1 y hy hc
            exact (hput_ne _ hc).trans ((o16 y (by rw [e1]; exact hy)).trans e1)
          have N7 : ∀ y, hput g6 c (hO 7 [.long (lZ (d * d)), .ref la, .ref ra, .int (nI 0), kr, .int (bI True)]) y = none → h1 y = none := fun y hy => N1 y (o16.no (hput_none hy).1)
          generalize hput g6 c (hO 7 [.long (lZ (d * d)), .ref la, .ref ra, .int (nI 0), kr, .int (bI True)]) = g7 at G7 S7 P7 O7 N7 ⊢
          generalize (fun z => if z = E0 then g6 E0 else none : HM) = gb at P7
          clear k67 S6 P6 G6 o16 o6 q3 o5 P3 o3 P2 P2a G2 G1 CR1 O1 N1 no1
          have S7a := S7.1
          have p7a := P7.2.1
          have nra : ra ≠ c := rne.2.2.1.symm
          have E7 : g7 E0 = h1 E0 := O7 E0 (nn rE) rne.2.2.2.1.symm
          refine j_aload E dX6_run_89 rfl ?_
          refine j_callV (np := 0) (C := RX4) (T := TX4) (N := 9) (ci := 5) E (c_isFound (v + 20) S7) gX6_run_X4_isFound rfl ⟨rfl, by decide, by decide, by decide +kernel⟩ dX6_run_91 (by omega) (by decide) rfl S7a rfl rfl (Nat.le_of_ble_eq_true rfl) (by omega) (by omega) (fun r9 h9 p9 => J.pure p9 ?_)
          refine J.wide (k' := 70) (n' := 575) (by omega) (by omega) ?_
          refine j_if_eq E (tgt := 122) dX6_run_94 (by decide) (fun c5 => ?_) (fun c5 => ?_)
          · have nf := bI_z.mp c5
            rcases Bst_run B6 with ⟨b1, -⟩ | ⟨-, none_⟩
            · exact absurd b1 nf
            ·
              refine j_aload_n E dX6_run_122 rfl ?_
              refine j_null E dX6_run_123 ?_
              refine j_putfield (ref := "ColourParts") (C := RX6) (T := TX6) (N := 6) (ci := 7) E 4 dX6_run_124 iw_X6_run_X6 tyX6 tyX6_ok nmX6 rfl (by decide) (by decide +kernel) rfl rfl rfl rfl (by first | with_reducible assumption | exact hput_eq _ _ _ | exact (hput_ne _ (by first | assumption | exact Ne.symm (by assumption))).trans (by assumption) | exact (hput_ne _ (by first | assumption | exact Ne.symm (by assumption))).trans (hput_eq _ _ _) | exact (hput_ne _ (by first | assumption | exact Ne.symm (by assumption))).trans ((hput_ne _ (by first | assumption | exact Ne.symm (by assumption))).trans (by assumption)) | exact (hput_ne _ (by first | assumption | exact Ne.symm (by assumption))).trans ((hput_ne _ (by first | assumption | exact Ne.symm (by assumption))).trans (hput_eq _ _ _))) (Nat.le_of_ble_eq_true rfl) ?_
              show J X B D 6 Q (hput g7 c (hO 7 [.long (lZ (d * d)), .ref la, .ref ra, .int (nI 0), .null, .int (bI True)])) 70 575 127 _ []
              have P8 := P7.chg (h1 := hput g7 c (hO 7 [.long (lZ (d * d)), .ref la, .ref ra, .int (nI 0), .null, .int (bI True)])) (fun y o hy hp => (hput_ne _ (fun e => by
                rw [e, G7] at hy
                rcases hp with ⟨n2, f2, e2⟩ | ⟨ci, w2, e2, hc⟩
                · rw [e2] at hy; cases hy
                · rw [e2] at hy; cases hy; omega)).trans hy)
              have G8 : hput g7 c (hO 7 [.long (lZ (d * d)), .ref la, .ref ra, .int (nI 0), .null, .int (bI True)]) c = some (hO 7 [.long (lZ (d * d)), .ref la, .ref ra, .int (nI 0), .null, .int (bI True)]) := hput_eq _ _ _
              have O8 : ∀ y, h1 y ≠ none → y ≠ c → hput g7 c (hO 7 [.long (lZ (d * d)), .ref la, .ref ra, .int (nI 0), .null, .int (bI True)]) y = h1 y := fun y hy hc => (hput_ne _ hc).trans (O7 y hy hc)
              generalize hput g7 c (hO 7 [.long (lZ (d * d)), .ref la, .ref ra, .int (nI 0), .null, .int (bI True)]) = g8 at G8 O8 P8 ⊢
              generalize (fun z => if z = E0 then g7 E0 else none : HM) = gb8 at P8
              have p8a := P8.2.1
              have fin : ∀ (g9 : HM) (rg1 : List Nat), (many = 2 → ringR d ss rg1) → (¬ many = 2 → rg1 = []) → (∀ y, h1 y ≠ none → y ≠ c → y ≠ ra → g9 y = h1 y) → g9 c = some (hO 7 [.long (lZ (d * d)), .ref la, .ref ra, .int (nI rg1.length), .null, .int (bI True)]) → (∃ f, g9 ra = some (hI 12 f) ∧ rg1.length ≤ 12 ∧ ∀ k, k < rg1.length → f k = nI (rg1.getD k 0)) → J X B D 6 Q g9 71 588 145 [(0, .ref c)] [] := by
                intro g9 rg1 h2 hn O9 G9 Hra
                refine J.wide (k' := 80) (n' := 640) (by omega) (by omega) ?_
                refine j_iconst (x := nI 1) E dX6_run_145 (by decide) ?_
                rw [← hQ]
                refine j_x (j_iret E dX6_run_146 rfl rfl (by omega) (by omega) ⟨hcd, fun w => absurd hle w, fun _ => ⟨many, none, rg1, T, .null, hm4, rfl, Or.inr ⟨none_, rfl, h2, hn⟩, ?_, ?_, Or.inl ⟨rfl, rfl⟩⟩⟩)
                · exact R.re (fun q q0 _ qc qr => O9 q q0 qc qr) (fun _ _ => rfl) (O9 E0 (nn rE) rne.2.2.2.1.symm rne.2.2.2.2.2.2.2.symm) G9 Hra (Or.inl ⟨rfl, rfl⟩)
                · exact fun q q0 qt => ⟨O9 q q0 (fun e => by rw [e, tc] at qt; cases qt) (fun e => by rw [e, tra] at qt; cases qt), qt⟩
              obtain ⟨fr, ra1, ra2, ra3⟩ := hra
              have ra8 : g8 ra = some (hI 12 fr) := (O8 ra (nn ra1) nra).trans ra1
              refine j_iload_n E dX6_run_127 rfl ?_
              refine j_iconst (x := nI 2) E dX6_run_128 (by decide) ?_
              refine j_icmp_ne E (tgt := 145) dX6_run_129 (by decide) (fun c6 => ?_) (fun c6 => ?_)
              · refine J.sub [(0, .ref c)] ⟨rfl, trivial⟩ ?_
                refine J.wide (k' := 71) (n' := 588) (by omega) (by omega) ?_
                exact fin g8 [] (fun e => absurd (by rw [e]) c6) (fun _ => rfl) (fun y y0 yc _ => O8 y y0 yc) G8 ⟨fr, ra8, Nat.zero_le _, fun k hk => absurd hk (Nat.not_lt_zero _)⟩
              · have m2 : many = 2 := (nI_eq (show many < 2 ^ 31 by omega) (show 2 < 2 ^ 31 by decide)).mp c6
                refine j_aload_n E dX6_run_132 rfl ?_
                refine j_aload E dX6_run_133 rfl ?_
                refine j_aload_n E dX6_run_135 rfl ?_
                refine j_getfield (ref := "ColourParts") (C := RX6) (T := TX6) (N := 6) (ci := 7) E 2 dX6_run_136 iw_X6_run_X6 rfl (by decide) (by decide +kernel) rfl G8 rfl ?_
                refine j_callV (np := 1) (C := RX3) (T := TX3) (N := 1) (ci := 4) E (c_findOddRing (v + 20) P8 ra8 (fun i j w => NRn_symm w)) gX6_run_X3_findOddRing rfl ⟨rfl, by decide, by decide, by decide +kernel⟩ dX6_run_139 (by omega) (by decide) rfl p8a rfl rfl (Nat.le_of_ble_eq_true rfl) (by omega) (by omega) (fun r g9 p9 => ?_)
                obtain ⟨rg1, g, rfl, odd, len, ra9, get9, F9⟩ := p9
                refine J.wide (k' := 71) (n' := 588) (by omega) (by omega) ?_
                have G9 : g9 c = some (hO 7 [.long (lZ (d * d)), .ref la, .ref ra, .int (nI 0), .null, .int (bI True)]) := (F9 c (by rw [G8]; intro w; cases w) nra.symm).trans G8
                refine j_putfield (ref := "ColourParts") (C := RX6) (T := TX6) (N := 6) (ci := 7) E 3 dX6_run_142 iw_X6_run_X6 tyX6 tyX6_ok nmX6 rfl (by decide) (by decide +kernel) rfl rfl rfl rfl G9 (Nat.le_of_ble_eq_true rfl) ?_
                refine J.sub [(0, .ref c)] ⟨rfl, trivial⟩ ?_
                rw [hpg] at odd
                refine fin _ rg1 (fun _ => oddR_ringR rfl odd) (fun e => absurd m2 e) (fun y y0 yc yr => (hput_ne _ yc).trans ((F9 y (by rw [O8 y y0 yc]; exact y0) yr).trans (O8 y y0 yc))) ?_ ⟨g, (hput_ne _ nra).trans ra9, len, get9⟩
                rw [hput_eq]; rfl
          · have yf := bI_n.mp c5
            rcases Bst_run B6 with ⟨-, V, V1, V2, run⟩ | ⟨e, -⟩
            · have kl : (kpOf ss V).length = pg.length := kpOf_len.trans hpg.symm
              refine j_aload_n E dX6_run_97 rfl ?_
              refine j_new (C := RX1) (T := TX1) (N := 6) (ci := 2) E [.null, .null, .null, .null, .null, .int 0] dX6_run_98 iw_X6_run_X1 tyX1 tyX1_ok (by decide +kernel) (by decide +kernel) (by decide +kernel) rfl (by decide) (by omega) (by omega) (fun ko nko bko => ?_)
              refine j_dup E dX6_run_101 rfl ?_
              have nko : g7 ko = none := by assumption
              have oko : ∀ o, onF g7 (hput g7 ko o) := fun o => onF.put nko
              have S8 : SR (hput g7 ko (hO 2 [.null, .null, .null, .null, .null, .int 0])) sr q many (tS ss ss.length) few (NRn d ss (tS ss ss.length)) (td ss) (afO (ow ss)) HH w6 b6 := S7.but (fun y o hy _ => (oko _).at hy)
              have P8 := P7.chg (h1 := hput g7 ko (hO 2 [.null, .null, .null, .null, .null, .int 0])) (fun y o hy _ => (oko _).at hy)
              have S8a := S8.1
              have S8b := S8.2.2.2.2.2.2.1
              refine j_aload E dX6_run_102 rfl ?_
              refine j_aload E dX6_run_104 rfl ?_
              refine j_getfield (ref := "ColourParts$Search") (C := RX4) (T := TX4) (N := 9) (ci := 5) E 7 dX6_run_106 iw_X6_run_X4 rfl (by decide) (by decide +kernel) rfl S8a rfl ?_
              refine j_aload E dX6_run_109 rfl ?_
              refine j_getfield (ref := "ColourParts$Search") (C := RX4) (T := TX4) (N := 9) (ci := 5) E 8 dX6_run_111 iw_X6_run_X4 rfl (by decide) (by decide +kernel) rfl S8a rfl ?_
              refine j_callI (np := 3) E (c_colouringInit (v + 20) P8 (hput_eq _ _ _) S8b (kpOf ss V) kl (fun p hp => ⟨kpOf_S (by omega), (V1 p (by omega)).1.trans (by rw [kpOf_C (by omega)]), by rw [kpOf_C (by omega)]; have := (V1 p (by omega)).2; omega, by rw [kpOf_A (by omega)]; exact area_ar.symm⟩) (fun p hp => (pbb_ok hw (by omega)).1) (fun p hp => by have := (ow_spec (show p < tS ss ss.length by omega)).1; omega) (fun i j h1 h2 => ow_mono h1 (by omega))) gX6_run_X1_init rfl (by decide +kernel) (by decide +kernel) (by decide +kernel) rfl ⟨by decide, by decide, by decide +kernel⟩ dX6_run_114 (by omega) (by decide) rfl rfl (Nat.le_of_ble_eq_true rfl) (by omega) (by omega) (fun r g9 p9 => ?_)
              obtain ⟨rfl, k, f0, f1, f2, f3, f4, K, W1, W2, kn, F9⟩ := p9
              refine J.wide (k' := 80) (n' := 640) (by omega) (by omega) ?_
              have O9 : ∀ y, h1 y ≠ none → y ≠ c → g9 y = h1 y := fun y hy hc => by
                have e7 := O7 y hy hc
                have nyo : y ≠ ko := fun e => by rw [e, nko] at e7; exact hy (e ▸ e7.symm)
                exact (F9 y (by rw [hput_ne _ nyo, e7]; exact hy) nyo).trans ((hput_ne _ nyo).trans e7)
              have nck : c ≠ ko := fun e => by rw [e, nko] at G7; cases G7
              have G9 : g9 c = some (hO 7 [.long (lZ (d * d)), .ref la, .ref ra, .int (nI 0), kr, .int (bI True)]) := (F9 c (by rw [hput_ne _ nck, G7]; intro w; cases w) nck).trans ((hput_ne _ nck).trans G7)
              have ek : few = uC (kS (kpOf ss V)) (kC (kpOf ss V)) (kpOf ss V).length := by rw [kpOf_u]; exact V2.symm
              rw [ek] at K
              have n1k : h1 ko = none := N7 ko nko
              have n1i : ∀ i, i < 5 → h1 (k i) = none := fun i hi => N7 _ (hput_none (kn i hi)).1
              have ck : ∀ i, i < 5 → c ≠ k i := fun i hi e => by
                have := (hput_none (kn i hi)).1
                rw [← e, G7] at this
                cases this
              refine j_putfield (ref := "ColourParts") (C := RX6) (T := TX6) (N := 6) (ci := 7) E 4 dX6_run_117 iw_X6_run_X6 tyX6 tyX6_ok nmX6 rfl (by decide) (by decide +kernel) rfl rfl rfl rfl G9 (Nat.le_of_ble_eq_true rfl) ?_
              refine j_iconst (x := nI 0) E dX6_run_120 (by decide) ?_
              rw [← hQ]
              refine j_x (j_iret E dX6_run_121 rfl rfl (by omega) (by omega) ⟨hcd, fun w => absurd hle w, fun _ => ⟨many, some (kpOf ss V), [], mkT h1 T (fun y => cI (y = ko ∨ ∃ i, i < 5 ∧ y = k i) 6 0), .ref ko, hm4, rfl, run, ?_, ?_, Or.inr ⟨fun e => (by cases e), rfl⟩⟩⟩)
              · refine R.re (fun y y0 _ yc _ => (hput_ne _ yc).trans (O9 y y0 yc)) (fun y y0 => mkT_old y0) ((hput_ne _ rne.2.2.2.1.symm).trans (O9 E0 (nn rE) rne.2.2.2.1.symm)) ?_ ?_ ?_
                · rw [hput_eq]; rfl
                · obtain ⟨fr, ra1, ra2, ra3⟩ := hra
                  exact ⟨fr, (hput_ne _ nra).trans ((O9 ra (nn ra1) nra).trans ra1), Nat.zero_le _, fun k hk => absurd hk (Nat.not_lt_zero _)⟩
                · refine Or.inr ⟨_, ko, rfl, rfl, KR_of (k := k) ⟨(hput_ne _ nck.symm).trans K.1, ⟨(hput_ne _ (ck 0 (by decide)).symm).trans K.2.1.1, (hput_ne _ (ck 1 (by decide)).symm).trans K.2.1.2.1, (hput_ne _ (ck 2 (by decide)).symm).trans K.2.1.2.2.1, (hput_ne _ (ck 3 (by decide)).symm).trans K.2.1.2.2.2.1, (hput_ne _ (ck 4 (by decide)).symm).trans K.2.1.2.2.2.2⟩, K.2.2⟩ W1 W2 ((mkT_new n1k).trans (cI_t (Or.inl rfl))) (fun i hi => (mkT_new (n1i i hi)).trans (cI_t (Or.inr ⟨i, hi, rfl⟩)))⟩
              · exact fun y y0 yt => ⟨(hput_ne _ (fun e => by rw [e, tc] at yt; cases yt)).trans (O9 y y0 (fun e => by rw [e, tc] at yt; cases yt)), (mkT_old y0).trans yt⟩
            · exact absurd yf (by omega)
        · have hle : ¬ lZ (tS ss ss.length : Nat) ≤ x := fun w => c4 (cmp_le.mpr w)
          refine J.wide (k' := 80) (n' := 640) (by omega) (by omega) ?_
          refine j_aload_n E dX6_run_40 rfl ?_
          refine j_iconst (x := nI 0) E dX6_run_41 (by decide) ?_
          refine J.topi (x' := bI False) ((bI_f id).symm) ?_
          refine j_putfield (ref := "ColourParts") (C := RX6) (T := TX6) (N := 6) (ci := 7) E 5 dX6_run_42 iw_X6_run_X6 tyX6 tyX6_ok nmX6 rfl (by decide) (by decide +kernel) rfl rfl (nb_bI _) (fits_bI _) (by first | with_reducible assumption | exact hput_eq _ _ _ | exact (hput_ne _ (by first | assumption | exact Ne.symm (by assumption))).trans (by assumption) | exact (hput_ne _ (by first | assumption | exact Ne.symm (by assumption))).trans (hput_eq _ _ _) | exact (hput_ne _ (by first | assumption | exact Ne.symm (by assumption))).trans ((hput_ne _ (by first | assumption | exact Ne.symm (by assumption))).trans (by assumption)) | exact (hput_ne _ (by first | assumption | exact Ne.symm (by assumption))).trans ((hput_ne _ (by first | assumption | exact Ne.symm (by assumption))).trans (hput_eq _ _ _))) (Nat.le_of_ble_eq_true rfl) ?_
          refine j_iconst (x := nI 2) E dX6_run_45 (by decide) ?_
          rw [← hQ]
          refine j_x (j_iret E dX6_run_46 rfl rfl (by omega) (by omega) ⟨hcd, fun _ => ⟨rfl, ?_, fun y y0 yt => ⟨hput_ne _ (fun e => by rw [e, tc] at yt; cases yt), yt⟩⟩, fun w => absurd w hle⟩)
          exact R.re (fun q _ _ q1 _ => hput_ne _ q1) (fun _ _ => rfl) (hput_ne _ rne.2.2.2.1.symm) (hput_eq _ _ _) (by
            obtain ⟨f, g1, g2, g3⟩ := hra
            exact ⟨f, (hput_ne _ rne.2.2.1.symm).trans g1, g2, g3⟩) (R.2.2.2.2.2.2.1.keep (fun q q0 q6 => ⟨hput_ne _ (fun e => by rw [e, tc] at q6; cases q6), rfl⟩))
      · exact bad (Or.inr (Or.inr (cmp_lt.mp (Int32.not_le.mp c3))))
end C39
