/-! the class: stitch(), clear() -/
theorem shT.put {T : Nat → Nat} {E0 j : Nat} {g : SG} (S : shT T E0 j g) : shT T E0 j g := S
theorem nbA_0 {a : SH} (h2 : nc a = 2) (w : Int) (hww : w = 0 ∨ w = 1) (x : Int64) : (if w = 1 then lZ (bxA a 0).1 < x ∧ x < lZ (bxA a 0).2.2.1 else lZ (bxA a 0).2.1 < x ∧ x < lZ (bxA a 0).2.2.2) ↔ withC a w x := by
  unfold withC axl axh bxA bx0 bx1 by0 by1
  rcases hww with rfl | rfl
  · rw [if_neg (by decide), if_pos rfl, if_pos rfl]
  · rw [if_pos rfl, if_neg (by decide), if_neg (by decide)]
theorem clampJ {j : Nat} (h : j < 2 ^ 31) : (nI j).toNatClampNeg = j := by
  unfold Int32.toNatClampNeg
  rw [show (nI j).toInt = (j : Int) from iZ_toInt (z := (j : Int)) (by omega) (by omega)]
  rfl
theorem CR.stitched {E0 : Nat} {h : HM} {T : Nat → Nat} {c : Nat} {d : Int} {ss : List SH} {kp : Option KPs} {rg : List Nat} {cl : Prop} {gs : List SG} {la le ra : Nat} {kr : Value} (R : CR E0 h T c d ss kp rg cl gs la le ra kr) {j : Nat} (hj : j < ss.length) (z w : Int) {h1 : HM} (S : shR E0 h1 ((gS ss j).1, insC (gS ss j).2.1 z, w, (gS ss j).2.2.2) (bS (nbits d ss j)) (gG gs j)) (F : FR h h1 (fun q => q = (gG gs j).1 ∨ q = (gG gs j).2.2.2.1)) : CR E0 h1 T c d (insS ss j z w) kp rg cl gs la le ra kr ∧ CF h T h1 T := by
  have tj := R.2.2.2.2.2.2.2.2.2.2.2 j hj
  have hjg : j < gs.length := by rw [R.2.2.2.1]; exact hj
  obtain ⟨⟨hx, hy, S1, -⟩, -, f, S4, -⟩ := R.sh hj
  obtain ⟨f0, r0⟩ := R.1
  have hE : h1 E0 = h E0 := F E0 (by rw [r0]; intro w; cases w) (fun e => by
    rcases e with e | e
    · rw [e, S1] at r0; cases r0
    · rw [e, S4] at r0; cases r0)
  have h2 : ((gS ss j).1, insC (gS ss j).2.1 z, w, (gS ss j).2.2.2).1 = (gS ss j).1 := rfl
  rw [← nbits_1 hj h2 j] at S
  have hRN := CRN.upd (CR.N.mp R) hj (T1 := T) (N1 := nbits d (ss.set j ((gS ss j).1, insC (gS ss j).2.1 z, w, (gS ss j).2.2.2))) (g1 := gG gs j) (fun q h0 hq => F q h0 (fun e => by
    rcases e with e | e
    · rw [e, tj.1] at hq; omega
    · rw [e, tj.2.2.2.1] at hq; omega)) (fun _ _ => rfl) hE rfl S tj (fun i _ _ => nbits_1 hj h2 i)
  rw [gs_self hjg] at hRN
  exact ⟨CR.N.mpr hRN, fun q q1 q2 => ⟨F q q1 (fun e => by
    rcases e with e | e
    · rw [e, tj.1] at q2; omega
    · rw [e, tj.2.2.2.1] at q2; omega), q2⟩⟩
section C9
variable {l : Launch} {B E0 : Nat} {D : va_G} {h : HM} {T : Nat → Nat} {c : Nat} {d : Int} {ss : List SH} {N : Nat → Nat → Prop} {kp : Option KPs} {rg : List Nat} {cl : Prop} {gs : List SG} {la le ra : Nat} {kr : Value}
theorem iw_X6_stitch_X5 : ∀ w ∈ u_ws RX5 TX5 9, w ∈ wsX6_stitch := by decide +kernel
theorem iw_X6_stitch_X6 : ∀ w ∈ u_ws RX6 TX6 6, w ∈ wsX6_stitch := by decide +kernel
theorem c_stitch (v : Nat) (R : CR E0 h T c d ss kp rg cl gs la le ra kr) (hw : wfSS ss) (z : Int32) (x : Int64) {w : Int} (hww : w = 0 ∨ w = 1) : CX l B E0 D yX6_stitch wsX6_stitch (v + 7) 3 18 [.ref c, .int z, .long x, .int (iZ w)] h (fun r h1 => cdStitch ss z x w = 0 ∧ ∃ j, j < ss.length ∧ z = nI j ∧ r = some (.int (bI (¬ hasC (gS ss j) w x))) ∧ CF h T h1 T ∧ (hasC (gS ss j) w x → CR E0 h1 T c d ss kp rg cl gs la le ra kr) ∧ (¬ hasC (gS ss j) w x → CR E0 h1 T c d (insS ss j x.toInt w) kp rg cl gs la le ra kr)) (fun E h1 => h1 = h ∧ ((E = eI ∧ cdStitch ss z x w = 1) ∨ (E = eS ∧ cdStitch ss z x w = 2) ∨ (E = eA ∧ cdStitch ss z x w = 3))) := by
  have R1 := R.2.1
  obtain ⟨L, hL, zl, hl⟩ := R.lst
  have h10 := hw.1
  refine CX.of (cc := cX6_stitch) (maxL := 6) (ret := (some .boolean)) (by decide) rfl (Nat.le_of_ble_eq_true rfl) (fun X E htab => ?_)
  show J X B D 6 _ h 0 0 0 [(0, .ref c), (1, .int z), (2, .long x), (4, .int (iZ w))] []
  generalize hQ : jX X B D _ _ _ _ = Q
  refine j_aload_n E dX6_stitch_0 rfl ?_
  refine j_iload_n E dX6_stitch_1 rfl ?_
  refine j_callX (np := 1) (C := RX6) (T := TX6) (N := 6) (ci := 7) E (c_needShape v R hw z) gX6_stitch_X6_needShape rfl ⟨rfl, by decide, by decide, by decide +kernel⟩ dX6_stitch_2 (by omega) (by decide) rfl (by first | with_reducible assumption | exact hput_eq _ _ _ | exact (hput_ne _ (by first | assumption | exact Ne.symm (by assumption))).trans (by assumption) | exact (hput_ne _ (by first | assumption | exact Ne.symm (by assumption))).trans (hput_eq _ _ _) | exact (hput_ne _ (by first | assumption | exact Ne.symm (by assumption))).trans ((hput_ne _ (by first | assumption | exact Ne.symm (by assumption))).trans (by assumption)) | exact (hput_ne _ (by first | assumption | exact Ne.symm (by assumption))).trans ((hput_ne _ (by first | assumption | exact Ne.symm (by assumption))).trans (hput_eq _ _ _))) rfl rfl (Nat.le_of_ble_eq_true rfl) (by omega) (by omega) (fun Ex h1 p => by rw [← hQ]; exact j_out E htab ⟨p.2.1, Or.inl ⟨p.1, cI_t p.2.2⟩⟩ (by omega) (by omega)) (fun r h1 p => ?_)
  obtain ⟨rfl, rfl, j, hj, rfl⟩ := p
  have isj : ¬ ¬ isx (nI j) ss.length := fun w => w ⟨j, hj, rfl⟩
  refine j_aload_n E dX6_stitch_5 rfl ?_
  refine j_callX (np := 0) (C := RX6) (T := TX6) (N := 6) (ci := 7) E (c_needNoneOpen v R hw) gX6_stitch_X6_needNoneOpen rfl ⟨rfl, by decide, by decide, by decide +kernel⟩ dX6_stitch_6 (by omega) (by decide) rfl (by first | with_reducible assumption | exact hput_eq _ _ _ | exact (hput_ne _ (by first | assumption | exact Ne.symm (by assumption))).trans (by assumption) | exact (hput_ne _ (by first | assumption | exact Ne.symm (by assumption))).trans (hput_eq _ _ _) | exact (hput_ne _ (by first | assumption | exact Ne.symm (by assumption))).trans ((hput_ne _ (by first | assumption | exact Ne.symm (by assumption))).trans (by assumption)) | exact (hput_ne _ (by first | assumption | exact Ne.symm (by assumption))).trans ((hput_ne _ (by first | assumption | exact Ne.symm (by assumption))).trans (hput_eq _ _ _))) rfl rfl (Nat.le_of_ble_eq_true rfl) (by omega) (by omega) (fun Ex h1 p => by rw [← hQ]; exact j_out E htab ⟨p.2.1, Or.inr (Or.inl ⟨p.1, by unfold cdStitch; rw [cI_f isj, cI_t p.2.2]⟩)⟩ (by omega) (by omega)) (fun r h2 p => ?_)
  obtain ⟨rfl, rfl, nop⟩ := p
  refine J.wide (k' := 2) (n' := 12) (by omega) (by omega) ?_
  have hcd : cdStitch ss (nI j) x w = cdSt ss (gS ss j) w x := by unfold cdStitch; rw [cI_f isj, cI_f nop, clampJ (show j < 2 ^ 31 by omega)]
  have SR := R.sh hj
  have SR0 := SR
  obtain ⟨⟨hx, hy, S1, S2⟩, ⟨S3, S4, S5⟩, S6⟩ := SR
  rw [bxs_len] at S4
  have hwj := hw.2.2 j hj
  have nopj : ¬ opn (gS ss j) := fun w => nop ⟨j, hj, w⟩
  have nev : nc (gS ss j) % 2 = 0 ∧ nc (gS ss j) ≠ 0 := ⟨by have : ¬ nc (gS ss j) % 2 = 1 := fun w => nopj (Or.inl w); omega, fun w => nopj (Or.inr w)⟩
  have h8 := hwj.1
  have h3 := hwj.2.1
  have hsd := hwj.2.2.2.2.2.2.1
  have S10 := S1
  unfold shF at S1
  obtain ⟨⟨zb, hb⟩, -⟩ := S3.ty
  refine j_aload_n E dX6_stitch_9 rfl ?_
  refine j_getfield (ref := "ColourParts") (C := RX6) (T := TX6) (N := 6) (ci := 7) E 1 dX6_stitch_10 iw_X6_stitch_X6 rfl (by decide) (by decide +kernel) rfl (by first | with_reducible assumption | exact hput_eq _ _ _ | exact (hput_ne _ (by first | assumption | exact Ne.symm (by assumption))).trans (by assumption) | exact (hput_ne _ (by first | assumption | exact Ne.symm (by assumption))).trans (hput_eq _ _ _) | exact (hput_ne _ (by first | assumption | exact Ne.symm (by assumption))).trans ((hput_ne _ (by first | assumption | exact Ne.symm (by assumption))).trans (by assumption)) | exact (hput_ne _ (by first | assumption | exact Ne.symm (by assumption))).trans ((hput_ne _ (by first | assumption | exact Ne.symm (by assumption))).trans (hput_eq _ _ _))) rfl ?_
  refine j_iload_n E dX6_stitch_13 rfl ?_
  refine j_callV (np := 1) (C := RJx4a65c) (T := TJx4a65c) (N := 3) (ci := 0) E (c_get v L (show j < (gs.map (·.1)).length by omega) (by omega)) gX6_stitch_Jx4a65c_get_915e3 rfl ⟨rfl, by decide, by decide, by decide +kernel⟩ dX6_stitch_14 (by omega) (by decide) rfl hl rfl rfl (Nat.le_of_ble_eq_true rfl) (by omega) (by omega) (fun r9 h9 p9 => J.pure p9 ?_)
  rw [R.el]
  refine J.wide (k' := 2) (n' := 12) (by omega) (by omega) ?_
  refine j_cast (C := RX5) (T := TX5) (N := 9) (ci := 6) E dX6_stitch_17 (by decide +kernel) rfl S1 ?_
  refine j_astore E dX6_stitch_20 (by decide) ?_
  refine j_aload E dX6_stitch_22 rfl ?_
  refine j_getfield (ref := "ColourParts$Shape") (C := RX5) (T := TX5) (N := 9) (ci := 6) E 0 dX6_stitch_24 iw_X6_stitch_X5 rfl (by decide) (by decide +kernel) rfl S1 rfl ?_
  refine j_callV (np := 0) (C := RJx4a65c) (T := TJx4a65c) (N := 3) (ci := 0) E (c_size (v + 2) S3) gX6_stitch_Jx4a65c_size_8abf5 rfl ⟨rfl, by decide, by decide, by decide +kernel⟩ dX6_stitch_27 (by omega) (by decide) rfl hb rfl rfl (Nat.le_of_ble_eq_true rfl) (by omega) (by omega) (fun r9 h9 p9 => J.pure p9 ?_)
  refine J.wide (k' := 2) (n' := 12) (by omega) (by omega) ?_
  rw [S4]
  refine j_iconst (x := nI 1) E dX6_stitch_30 (by decide) ?_
  refine j_icmp_eq E (tgt := 44) dX6_stitch_31 (by decide) (fun c1 => ?_) (fun c1 => ?_)
  · have n2 : nc (gS ss j) = 2 := by
      have := (nI_eq (show nc (gS ss j) / 2 < 2 ^ 31 by omega) (show 1 < 2 ^ 31 by decide)).mp c1
      omega
    refine j_aload E dX6_stitch_44 rfl ?_
    refine j_lload_n E dX6_stitch_46 rfl ?_
    refine j_iload E dX6_stitch_47 rfl ?_
    refine j_callV (np := 2) (C := RX5) (T := TX5) (N := 9) (ci := 6) E (c_hasStitch v SR0 hwj x hww) gX6_stitch_X5_hasStitch rfl ⟨rfl, by decide, by decide, by decide +kernel⟩ dX6_stitch_49 (by omega) (by decide) rfl S1 rfl rfl (Nat.le_of_ble_eq_true rfl) (by omega) (by omega) (fun r9 h9 p9 => J.pure p9 ?_)
    refine J.wide (k' := 2) (n' := 12) (by omega) (by omega) ?_
    refine j_if_eq E (tgt := 57) dX6_stitch_52 (by decide) (fun c2 => ?_) (fun c2 => ?_)
    · have nhas := bI_z.mp c2
      have full : (nk (gS ss j) = 3 ∨ tS ss ss.length = 12) → J X B D 6 Q h2 2 12 75 [(5, .ref (gG gs j).1), (0, .ref c), (1, .int (nI j)), (2, .long x), (4, .int (iZ w))] [] := by
        intro hf
        rw [← hQ]
        exact j_throw (cls := "java/lang/IllegalStateException") (text := "no more stitches") (ik := 54) (is := 173) (ic := 58) E htab dX6_stitch_75 dX6_stitch_78 dX6_stitch_79 dX6_stitch_81 dX6_stitch_84 (by decide) (by decide +kernel) (by decide +kernel) (by decide) (by decide +kernel) (by decide +kernel) (by decide +kernel) (by omega) (Nat.le_of_ble_eq_true rfl) (by omega) (by omega) ⟨rfl, Or.inr (Or.inl ⟨rfl, by rw [hcd]; unfold cdSt; rw [cI_t (Or.inr ⟨nhas, hf⟩)]⟩)⟩
      have ht12 := hw.2.1
      refine j_aload E dX6_stitch_57 rfl ?_
      refine j_getfield (ref := "ColourParts$Shape") (C := RX5) (T := TX5) (N := 9) (ci := 6) E 2 dX6_stitch_59 iw_X6_stitch_X5 rfl (by decide) (by decide +kernel) rfl S1 rfl ?_
      refine j_iconst (x := nI 3) E dX6_stitch_62 (by decide) ?_
      refine j_icmp_ge E (tgt := 75) dX6_stitch_63 (by decide) (fun c3 => ?_) (fun c3 => ?_)
      · exact full (Or.inl (by have := Nat.not_lt.mp (fun z => nI_ge z (by omega) c3); omega))
      · have n3 : nk (gS ss j) < 3 := Nat.not_le.mp (fun z => c3 (nI_le z (by omega)))
        refine j_aload_n E dX6_stitch_66 rfl ?_
        refine j_callV (np := 0) (C := RX6) (T := TX6) (N := 6) (ci := 7) E (c_countPieces v R hw) gX6_stitch_X6_countPieces rfl ⟨rfl, by decide, by decide, by decide +kernel⟩ dX6_stitch_67 (by omega) (by decide) rfl (by first | with_reducible assumption | exact hput_eq _ _ _ | exact (hput_ne _ (by first | assumption | exact Ne.symm (by assumption))).trans (by assumption) | exact (hput_ne _ (by first | assumption | exact Ne.symm (by assumption))).trans (hput_eq _ _ _) | exact (hput_ne _ (by first | assumption | exact Ne.symm (by assumption))).trans ((hput_ne _ (by first | assumption | exact Ne.symm (by assumption))).trans (by assumption)) | exact (hput_ne _ (by first | assumption | exact Ne.symm (by assumption))).trans ((hput_ne _ (by first | assumption | exact Ne.symm (by assumption))).trans (hput_eq _ _ _))) rfl rfl (Nat.le_of_ble_eq_true rfl) (by omega) (by omega) (fun r9 h9 p9 => J.pure p9 ?_)
        refine J.wide (k' := 2) (n' := 12) (by omega) (by omega) ?_
        refine j_bipush (x := nI 12) E dX6_stitch_70 (by decide) ?_
        refine j_icmp_lt E (tgt := 85) dX6_stitch_72 (by decide) (fun c4 => ?_) (fun c4 => ?_)
        · have t12 : tS ss ss.length < 12 := Nat.not_le.mp (fun z => nI_nlt z (by omega) c4)
          have hcd1 : ∀ p : Prop, (¬ withC (gS ss j) w x ∨ (0 < nk (gS ss j) ∧ ¬ sd (gS ss j) = w) ↔ p) → cdStitch ss (nI j) x w = cI p 3 0 := by
            intro p hp
            rw [hcd]
            unfold cdSt
            rw [cI_f (fun z => z.elim (fun z => z n2) (fun z => z.2.elim (by omega) (by omega))), propext hp]
          have hi0 : 0 < (gG gs j).2.2.2.2.length := by omega
          have hb0 := S5 0 hi0
          rw [bxs_get (show 0 < nc (gS ss j) / 2 by omega)] at hb0
          refine j_aload E dX6_stitch_85 rfl ?_
          refine j_getfield (ref := "ColourParts$Shape") (C := RX5) (T := TX5) (N := 9) (ci := 6) E 0 dX6_stitch_87 iw_X6_stitch_X5 rfl (by decide) (by decide +kernel) rfl S1 rfl ?_
          refine j_iconst (x := nI 0) E dX6_stitch_90 (by decide) ?_
          refine j_callV (np := 1) (C := RJx4a65c) (T := TJx4a65c) (N := 3) (ci := 0) E (c_get v S3 hi0 (by omega)) gX6_stitch_Jx4a65c_get_915e3 rfl ⟨rfl, by decide, by decide, by decide +kernel⟩ dX6_stitch_91 (by omega) (by decide) rfl hb rfl rfl (Nat.le_of_ble_eq_true rfl) (by omega) (by omega) (fun r9 h9 p9 => J.pure p9 ?_)
          refine J.wide (k' := 2) (n' := 12) (by omega) (by omega) ?_
          refine j_cast (C := RX0) (T := TX0) (N := 4) (ci := 1) E dX6_stitch_94 (by decide +kernel) rfl hb0 ?_
          refine j_lload_n E dX6_stitch_97 rfl ?_
          refine j_iload E dX6_stitch_98 rfl ?_
          refine j_callV (np := 2) (C := RX0) (T := TX0) (N := 4) (ci := 1) E (c_isWithin v (bxA (gS ss j) 0) hb0 x hww) gX6_stitch_X0_isWithin rfl ⟨rfl, by decide, by decide, by decide +kernel⟩ dX6_stitch_100 (by omega) (by decide) rfl hb0 rfl rfl (Nat.le_of_ble_eq_true rfl) (by omega) (by omega) (fun r9 h9 p9 => J.pure p9 ?_)
          refine J.wide (k' := 2) (n' := 12) (by omega) (by omega) ?_
          rw [bI_c (nbA_0 n2 w hww x)]
          refine j_if_ne E (tgt := 116) dX6_stitch_103 (by decide) (fun c5 => ?_) (fun c5 => ?_)
          · have wi := bI_n.mp c5
            obtain ⟨zz, hzz, rfl⟩ := withC_b hwj n2 wi
            have done : (0 < nk (gS ss j) → sd (gS ss j) = w) → J X B D 6 Q h2 2 12 144 [(5, .ref (gG gs j).1), (0, .ref c), (1, .int (nI j)), (2, .long (lZ zz)), (4, .int (iZ w))] [] := by
              intro hsame
              have hno : ∀ k, k < nk (gS ss j) → ¬ ct (gS ss j) k = zz := fun k hk e => nhas ⟨k, hk, hsame (by omega), by rw [e]⟩
              refine j_aload E dX6_stitch_144 rfl ?_
              refine j_lload_n E dX6_stitch_146 rfl ?_
              refine j_iload E dX6_stitch_147 rfl ?_
              refine j_callV (np := 2) (C := RX5) (T := TX5) (N := 9) (ci := 6) E (c_addStitch v SR0 hwj n3 hzz hww hno) gX6_stitch_X5_addStitch rfl ⟨rfl, by decide, by decide, by decide +kernel⟩ dX6_stitch_149 (by omega) (by decide) rfl S1 rfl rfl (Nat.le_of_ble_eq_true rfl) (by omega) (by omega) (fun r h3 p => ?_)
              obtain ⟨rfl, p1, p2⟩ := p
              refine J.wide (k' := 3) (n' := 18) (by omega) (by omega) ?_
              refine j_iconst (x := nI 1) E dX6_stitch_152 (by decide) ?_
              have fin := R.stitched hj zz w p1 p2
              rw [← hQ]
              refine j_x (j_iret E dX6_stitch_153 rfl rfl (by omega) (by omega) ⟨?_, j, hj, rfl, ?_, fin.2, fun z => absurd z nhas, fun _ => ?_⟩)
              · rw [hcd1 False ⟨fun z => z.elim (fun z => z wi) (fun z => z.2 (hsame z.1)), fun z => z.elim⟩, cI_f id]
              · rw [bI_t nhas]; rfl
              · rw [lZ_toInt (by omega) (by omega)]; exact fin.1
            refine j_aload E dX6_stitch_116 rfl ?_
            refine j_getfield (ref := "ColourParts$Shape") (C := RX5) (T := TX5) (N := 9) (ci := 6) E 2 dX6_stitch_118 iw_X6_stitch_X5 rfl (by decide) (by decide +kernel) rfl S1 rfl ?_
            refine j_if_le E (tgt := 144) dX6_stitch_121 (by decide) (fun c6 => ?_) (fun c6 => ?_)
            · exact done (fun z => absurd c6 (Int32.not_le.mpr (nI_lt z (by omega))))
            ·
              refine j_aload E dX6_stitch_124 rfl ?_
              refine j_getfield (ref := "ColourParts$Shape") (C := RX5) (T := TX5) (N := 9) (ci := 6) E 3 dX6_stitch_126 iw_X6_stitch_X5 rfl (by decide) (by decide +kernel) rfl S1 rfl ?_
              refine j_iload E dX6_stitch_129 rfl ?_
              refine j_icmp_eq E (tgt := 144) dX6_stitch_131 (by decide) (fun c7 => ?_) (fun c7 => ?_)
              · exact done (fun _ => (iZ_eq (by omega) (by omega)).mp c7)
              · have n0 : 0 < nk (gS ss j) := Nat.pos_of_ne_zero (fun z => c6 (by rw [z]; exact Int32.le_refl _))
                rw [← hQ]
                exact j_throw (cls := "java/lang/IllegalArgumentException") (text := "others are the other way") (ik := 88) (is := 185) (ic := 92) E htab dX6_stitch_134 dX6_stitch_137 dX6_stitch_138 dX6_stitch_140 dX6_stitch_143 (by decide) (by decide +kernel) (by decide +kernel) (by decide) (by decide +kernel) (by decide +kernel) (by decide +kernel) (by omega) (Nat.le_of_ble_eq_true rfl) (by omega) (by omega) ⟨rfl, Or.inr (Or.inr ⟨rfl, by rw [hcd1 True ⟨fun _ => trivial, fun _ => Or.inr ⟨n0, fun z => c7 (by rw [z])⟩⟩, cI_t trivial]⟩)⟩
          · have nwi := bI_z.mp c5
            rw [← hQ]
            exact j_throw (cls := "java/lang/IllegalArgumentException") (text := "not strictly within") (ik := 88) (is := 180) (ic := 92) E htab dX6_stitch_106 dX6_stitch_109 dX6_stitch_110 dX6_stitch_112 dX6_stitch_115 (by decide) (by decide +kernel) (by decide +kernel) (by decide) (by decide +kernel) (by decide +kernel) (by decide +kernel) (by omega) (Nat.le_of_ble_eq_true rfl) (by omega) (by omega) ⟨rfl, Or.inr (Or.inr ⟨rfl, by rw [hcd1 True ⟨fun _ => trivial, fun _ => Or.inl nwi⟩, cI_t trivial]⟩)⟩
        · exact full (Or.inr (by have := Nat.not_lt.mp (fun z => c4 (nI_lt z (by omega))); omega))
    · have has := bI_n.mp c2
      refine j_iconst (x := nI 0) E dX6_stitch_55 (by decide) ?_
      refine J.topi (x' := bI (¬ hasC (gS ss j) w x)) ((bI_f (fun z => z has)).symm) ?_
      refine J.wide (k' := 3) (n' := 18) (by omega) (by omega) ?_
      obtain ⟨w1, w2, w3, w4⟩ := hasC_wf hwj has
      rw [← hQ]
      refine j_x (j_iret E dX6_stitch_56 rfl (nb_bI _) (by omega) (by omega) ⟨?_, j, hj, rfl, rfl, fun q _ q2 => ⟨rfl, q2⟩, fun _ => R, fun z => absurd has z⟩)
      rw [hcd]
      unfold cdSt
      rw [cI_f (fun z => z.elim (fun z => z w3) (fun z => z.1 has)), cI_f (fun z => z.elim (fun z => z w1) (fun z => z.2 w2))]
  · have n2 : ¬ nc (gS ss j) = 2 := fun z => c1 (by rw [z])
    rw [← hQ]
    exact j_throw (cls := "java/lang/IllegalStateException") (text := "more boxes than one") (ik := 54) (is := 167) (ic := 58) E htab dX6_stitch_34 dX6_stitch_37 dX6_stitch_38 dX6_stitch_40 dX6_stitch_43 (by decide) (by decide +kernel) (by decide +kernel) (by decide) (by decide +kernel) (by decide +kernel) (by decide +kernel) (by omega) (Nat.le_of_ble_eq_true rfl) (by omega) (by omega) ⟨rfl, Or.inr (Or.inl ⟨rfl, by rw [hcd]; unfold cdSt; rw [cI_t (Or.inl n2)]⟩)⟩
end C9
