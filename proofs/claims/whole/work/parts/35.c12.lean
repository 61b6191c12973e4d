/-! the class: corner() -/
theorem nearW_app0 {d : Int} {a b : SH} {p : Int × Int} (he : nc a % 2 = 0) : nearW d (a.1 ++ [p], a.2) b ↔ nearW d a b := by
  unfold nearW
  rw [nc_app, show (nc a + 1) / 2 = nc a / 2 by omega]
  exact ⟨fun ⟨i, j, h1, h2, h3⟩ => ⟨i, j, h1, h2, by rw [bxA_app h1] at h3; exact h3⟩, fun ⟨i, j, h1, h2, h3⟩ => ⟨i, j, h1, h2, by rw [bxA_app h1]; exact h3⟩⟩
theorem nearW_app1 {d : Int} {a b : SH} {p : Int × Int} (ho : nc a % 2 = 1) : nearW d (a.1 ++ [p], a.2) b ↔ nearW d a b ∨ anyB d (bxA (a.1 ++ [p], a.2) (nc a / 2)) (bxs b) := by
  unfold nearW anyB
  rw [nc_app, show (nc a + 1) / 2 = nc a / 2 + 1 by omega, bxs_len]
  constructor
  · rintro ⟨i, j, h1, h2, h3⟩
    by_cases e : i = nc a / 2
    · exact Or.inr ⟨j, h2, by rw [bxs_get h2, ← e]; exact h3⟩
    · exact Or.inl ⟨i, j, by omega, h2, by rw [bxA_app (by omega)] at h3; exact h3⟩
  · rintro (⟨i, j, h1, h2, h3⟩ | ⟨j, h2, h3⟩)
    · exact ⟨i, j, by omega, h2, by rw [bxA_app h1]; exact h3⟩
    · rw [bxs_get h2] at h3
      exact ⟨_, j, Nat.lt_succ_self _, h2, h3⟩
theorem nearW_c {d : Int} {a b : SH} : nearW d a b ↔ nearW d b a := ⟨nearW_symm, nearW_symm⟩
theorem addK_wf {ss : List SH} (hw : wfSS ss) {j : Nat} (hj : j < ss.length) (h8 : nc (gS ss j) < 8) (h0 : nk (gS ss j) = 0) {x y : Int} (hx : -1000000 ≤ x ∧ x ≤ 1000000) (hy : -1000000 ≤ y ∧ y ≤ 1000000) : wfSS (addK ss j x y) := by
  have e : ∀ i, nk (gS (addK ss j x y) i) = nk (gS ss i) := fun i => by
    unfold addK
    rw [gS_set hj]
    by_cases e : i = j
    · rw [if_pos e, e]; rfl
    · rw [if_neg e]
  refine ⟨by unfold addK; rw [List.length_set]; exact hw.1, ?_, fun i hi => ?_⟩
  · have hl : (addK ss j x y).length = ss.length := by unfold addK; rw [List.length_set]
    rw [hl, tS_congr (s2 := ss) (fun i _ => e i)]
    exact hw.2.1
  · have hl : (addK ss j x y).length = ss.length := by unfold addK; rw [List.length_set]
    rw [hl] at hi
    unfold addK
    rw [gS_set hj]
    by_cases ei : i = j
    · rw [if_pos ei]
      obtain ⟨w1, w2, w3, w4, w5, w6, w7⟩ := hw.2.2 j hj
      have e2 : nk ((gS ss j).1 ++ [(x, y)], (gS ss j).2) = 0 := h0
      refine ⟨by rw [nc_app]; omega, by omega, fun z => by omega, fun k hk => ?_, fun k hk => by omega, fun p k hp hk => by omega, w7⟩
      rw [nc_app] at hk
      by_cases ek : k = nc (gS ss j)
      · rw [ek, cx_last, cy_last]; omega
      · rw [cx_init (show k < nc (gS ss j) by omega), cy_init (show k < nc (gS ss j) by omega)]
        exact w4 k (by omega)
    · rw [if_neg ei]; exact hw.2.2 i hi
theorem nfar {x : Int64} (h : ¬ farL x) : (-1000000 ≤ x.toInt ∧ x.toInt ≤ 1000000) ∧ x = lZ x.toInt := by
  unfold farL at h
  have h1 : ¬ x < lZ (-1000000) := fun z => h (Or.inl z)
  have h2 : ¬ lZ 1000000 < x := fun z => h (Or.inr z)
  rw [Int64.lt_iff_toInt_lt, lZ_toInt (by decide) (by decide)] at h1 h2
  exact ⟨by omega, (lZ_of x).symm⟩
section C12
variable {l : Launch} {B E0 : Nat} {D : va_G} {h : HM} {T : Nat → Nat} {c : Nat} {d : Int} {ss : List SH} {N : Nat → Nat → Prop} {kp : Option KPs} {rg : List Nat} {cl : Prop} {gs : List SG} {la le ra : Nat} {kr : Value}
/-- behind addCorner -/
theorem CR.cornered (R : CR E0 h T c d ss kp rg cl gs la le ra kr) {j : Nat} (hj : j < ss.length) {x y : Int} {h1 : HM} {e1 : Nat} {els1 : List Nat} (S : shR E0 h1 ((gS ss j).1 ++ [(x, y)], (gS ss j).2) (bS (nbits d ss j)) ((gG gs j).1, (gG gs j).2.1, e1, (gG gs j).2.2.2.1, els1)) (F : FR h h1 (fun q => q = (gG gs j).1 ∨ q = (gG gs j).2.1 ∨ (q = (gG gs j).2.2.1 ∧ q ≠ E0))) (he : e1 = (gG gs j).2.2.1 ∨ h e1 = none) (hz : ∀ z ∈ els1, z ∈ (gG gs j).2.2.2.2 ∨ (h z = none ∧ h1 z ≠ none)) : ∃ T1 gs1, CRN E0 h1 T1 c d (addK ss j x y) (nbits d ss) kp rg cl gs1 la le ra kr ∧ CF h T h1 T1 := by
  obtain ⟨u1, u2, u3, u4, u5⟩ := R.2.2.2.2.2.2.2.2.2.2.2 j hj
  obtain ⟨v1, v2, v3, v4, v5⟩ := (R.sh hj).nn
  obtain ⟨⟨hx, hy, S1, -⟩, ⟨S2, S3, S4⟩, f, S5, -⟩ := R.sh hj
  obtain ⟨f0, r0⟩ := R.1
  have nn : ∀ {q o}, h q = some o → h q ≠ none := fun e w => by rw [e] at w; cases w
  obtain ⟨⟨zl, hl1⟩, -⟩ := S2.ty
  have hE : h1 E0 = h E0 := F E0 (nn r0) (fun e => by
    rcases e with e | e | e
    · rw [e, S1] at r0; cases r0
    · rw [e, hl1] at r0; cases r0
    · exact e.2 rfl)
  obtain ⟨-, ne, fe, hle⟩ := S.2.1.1.ty
  have hne : ∀ z ∈ els1, z ≠ e1 := fun z hz2 => by
    obtain ⟨i, hi, rfl⟩ := List.mem_iff_getElem.mp hz2
    exact hm_ne (S.2.1.2.2 i hi) hle (by intro z; cases z)
  have hF : ∀ q, h q ≠ none → (T q < 8 * j + 16 ∨ 8 * j + 20 ≤ T q) → h1 q = h q := fun q h0 hq => F q h0 (fun e => by
    rcases e with e | e | ⟨e, e2⟩
    · rw [e, u1] at hq; omega
    · rw [e, u2] at hq; omega
    · rw [e] at hq e2; rw [u3 e2] at hq; omega)
  refine ⟨mkT h T (fun z => if z = e1 then 8 * j + 18 else 3), _, (CR.N.mp R).upd hj (a1 := ((gS ss j).1 ++ [(x, y)], (gS ss j).2)) (N1 := nbits d ss) (g1 := ((gG gs j).1, (gG gs j).2.1, e1, (gG gs j).2.2.2.1, els1)) hF (fun q h0 => mkT_old h0) hE rfl S ⟨(mkT_old v1).trans u1, (mkT_old v2).trans u2, fun w => ?_, (mkT_old v4).trans u4, fun z hz2 => ?_⟩ (fun i _ _ => rfl), fun q h0 t0 => ⟨hF q h0 (by omega), (mkT_old h0).trans t0⟩⟩
  · rcases he with e | e
    · show mkT h T _ e1 = _
      have w2 : (gG gs j).2.2.1 ≠ E0 := fun z => w (e.trans z)
      rw [e]; exact (mkT_old v3).trans (u3 w2)
    · exact (mkT_new e).trans (if_pos rfl)
  · rcases hz z hz2 with w | ⟨w, -⟩
    · exact (mkT_old (v5 z w)).trans (u5 z w)
    · exact (mkT_new w).trans (if_neg (hne z hz2))
theorem iw_X6_corner_X5 : ∀ w ∈ u_ws RX5 TX5 9, w ∈ wsX6_corner := by decide +kernel
theorem iw_X6_corner_X6 : ∀ w ∈ u_ws RX6 TX6 6, w ∈ wsX6_corner := by decide +kernel
theorem c_corner (v : Nat) (R : CR E0 h T c d ss kp rg cl gs la le ra kr) (hw : wfSS ss) (hd : 1 ≤ d ∧ d ≤ 65536) (z : Int32) (x y : Int64) : CX l B E0 D yX6_corner wsX6_corner (v + 8) 3 25 [.ref c, .int z, .long x, .long y] h (fun r h1 => cdCorner ss z x y = 0 ∧ ∃ j, j < ss.length ∧ z = nI j ∧ r = some (.int (bI ((nc (gS ss j) + 1) % 2 = 0))) ∧ wfSS (addK ss j x.toInt y.toInt) ∧ ∃ T1 gs1, CR E0 h1 T1 c d (addK ss j x.toInt y.toInt) kp rg cl gs1 la le ra kr ∧ CF h T h1 T1) (fun E h1 => h1 = h ∧ ((E = eI ∧ cdCorner ss z x y = 1) ∨ (E = eS ∧ cdCorner ss z x y = 2) ∨ (E = eA ∧ cdCorner ss z x y = 3))) := by
  have R1 := R.2.1
  obtain ⟨L, hL, zl, hl⟩ := R.lst
  obtain ⟨f0, r0⟩ := R.1
  have h10 := hw.1
  refine CX.of (cc := cX6_corner) (maxL := 8) (ret := (some .boolean)) (by decide) rfl (Nat.le_of_ble_eq_true rfl) (fun X E htab => ?_)
  show J X B D 8 _ h 0 0 0 [(0, .ref c), (1, .int z), (2, .long x), (4, .long y)] []
  generalize hQ : jX X B D _ _ _ _ = Q
  refine j_aload_n E dX6_corner_0 rfl ?_
  refine j_iload_n E dX6_corner_1 rfl ?_
  refine j_callX (np := 1) (C := RX6) (T := TX6) (N := 6) (ci := 7) E (c_needShape v R hw z) gX6_corner_X6_needShape rfl ⟨rfl, by decide, by decide, by decide +kernel⟩ dX6_corner_2 (by omega) (by decide) rfl (by first | with_reducible assumption | exact hput_eq _ _ _ | exact (hput_ne _ (by first | assumption | exact Ne.symm (by assumption))).trans (by assumption) | exact (hput_ne _ (by first | assumption | exact Ne.symm (by assumption))).trans (hput_eq _ _ _) | exact (hput_ne _ (by first | assumption | exact Ne.symm (by assumption))).trans ((hput_ne _ (by first | assumption | exact Ne.symm (by assumption))).trans (by assumption)) | exact (hput_ne _ (by first | assumption | exact Ne.symm (by assumption))).trans ((hput_ne _ (by first | assumption | exact Ne.symm (by assumption))).trans (hput_eq _ _ _))) rfl rfl (Nat.le_of_ble_eq_true rfl) (by omega) (by omega) (fun Ex h1 p => by rw [← hQ]; exact j_out E htab ⟨p.2.1, Or.inl ⟨p.1, cI_t p.2.2⟩⟩ (by omega) (by omega)) (fun r h1 p => ?_)
  obtain ⟨rfl, rfl, j, hj, rfl⟩ := p
  have isj : ¬ ¬ isx (nI j) ss.length := fun w => w ⟨j, hj, rfl⟩
  have hcd : cdCorner ss (nI j) x y = cI (nc (gS ss j) = 8 ∨ 0 < nk (gS ss j)) 2 (cI (farL x ∨ farL y) 3 0) := by unfold cdCorner; rw [cI_f isj, clampJ (show j < 2 ^ 31 by omega)]
  refine J.wide (k' := 1) (n' := 6) (by omega) (by omega) ?_
  have hwj := hw.2.2 j hj
  have h8 := hwj.1
  have h3 := hwj.2.1
  have SR0 := R.sh hj
  obtain ⟨⟨hx, hy, S1, S2⟩, ⟨S3, S4, S5⟩, S6⟩ := R.sh hj
  rw [bxs_len] at S4
  unfold shF at S1
  obtain ⟨⟨zb, hb⟩, -⟩ := S3.ty
  refine j_aload_n E dX6_corner_5 rfl ?_
  refine j_getfield (ref := "ColourParts") (C := RX6) (T := TX6) (N := 6) (ci := 7) E 1 dX6_corner_6 iw_X6_corner_X6 rfl (by decide) (by decide +kernel) rfl (by first | with_reducible assumption | exact hput_eq _ _ _ | exact (hput_ne _ (by first | assumption | exact Ne.symm (by assumption))).trans (by assumption) | exact (hput_ne _ (by first | assumption | exact Ne.symm (by assumption))).trans (hput_eq _ _ _) | exact (hput_ne _ (by first | assumption | exact Ne.symm (by assumption))).trans ((hput_ne _ (by first | assumption | exact Ne.symm (by assumption))).trans (by assumption)) | exact (hput_ne _ (by first | assumption | exact Ne.symm (by assumption))).trans ((hput_ne _ (by first | assumption | exact Ne.symm (by assumption))).trans (hput_eq _ _ _))) rfl ?_
  refine j_iload_n E dX6_corner_9 rfl ?_
  refine j_callV (np := 1) (C := RJx4a65c) (T := TJx4a65c) (N := 3) (ci := 0) E (c_get v L (show j < (gs.map (·.1)).length by omega) (by omega)) gX6_corner_Jx4a65c_get_915e3 rfl ⟨rfl, by decide, by decide, by decide +kernel⟩ dX6_corner_10 (by omega) (by decide) rfl hl rfl rfl (Nat.le_of_ble_eq_true rfl) (by omega) (by omega) (fun r9 h9 p9 => J.pure p9 ?_)
  rw [R.el]
  refine J.wide (k' := 1) (n' := 6) (by omega) (by omega) ?_
  have bad2 : (nc (gS ss j) = 8 ∨ 0 < nk (gS ss j)) → J X B D 8 Q h1 1 6 38 [(6, .ref (gG gs j).1), (0, .ref c), (1, .int (nI j)), (2, .long x), (4, .long y)] [] := by
    intro hf
    rw [← hQ]
    exact j_throw (cls := "java/lang/IllegalStateException") (text := "no more corners") (ik := 54) (is := 82) (ic := 58) E htab dX6_corner_38 dX6_corner_41 dX6_corner_42 dX6_corner_44 dX6_corner_47 (by decide) (by decide +kernel) (by decide +kernel) (by decide) (by decide +kernel) (by decide +kernel) (by decide +kernel) (by omega) (Nat.le_of_ble_eq_true rfl) (by omega) (by omega) ⟨rfl, Or.inr (Or.inl ⟨rfl, by rw [hcd, cI_t hf]⟩)⟩
  refine j_cast (C := RX5) (T := TX5) (N := 9) (ci := 6) E dX6_corner_13 (by decide +kernel) rfl S1 ?_
  refine j_astore E dX6_corner_16 (by decide) ?_
  refine j_aload E dX6_corner_18 rfl ?_
  refine j_getfield (ref := "ColourParts$Shape") (C := RX5) (T := TX5) (N := 9) (ci := 6) E 0 dX6_corner_20 iw_X6_corner_X5 rfl (by decide) (by decide +kernel) rfl S1 rfl ?_
  refine j_callV (np := 0) (C := RJx4a65c) (T := TJx4a65c) (N := 3) (ci := 0) E (c_size (v + 2) S3) gX6_corner_Jx4a65c_size_8abf5 rfl ⟨rfl, by decide, by decide, by decide +kernel⟩ dX6_corner_23 (by omega) (by decide) rfl hb rfl rfl (Nat.le_of_ble_eq_true rfl) (by omega) (by omega) (fun r9 h9 p9 => J.pure p9 ?_)
  refine J.wide (k' := 1) (n' := 6) (by omega) (by omega) ?_
  rw [S4]
  refine j_iconst (x := nI 4) E dX6_corner_26 (by decide) ?_
  refine j_icmp_ge E (tgt := 38) dX6_corner_27 (by decide) (fun c1 => ?_) (fun c1 => ?_)
  · exact bad2 (Or.inl (by have := Nat.not_lt.mp (fun z => nI_ge z (by omega) c1); omega))
  · have l8 : nc (gS ss j) < 8 := by have : nc (gS ss j) / 2 < 4 := Nat.not_le.mp (fun z => c1 (nI_le z (by omega))); omega
    refine j_aload E dX6_corner_30 rfl ?_
    refine j_getfield (ref := "ColourParts$Shape") (C := RX5) (T := TX5) (N := 9) (ci := 6) E 2 dX6_corner_32 iw_X6_corner_X5 rfl (by decide) (by decide +kernel) rfl S1 rfl ?_
    refine j_if_le E (tgt := 48) dX6_corner_35 (by decide) (fun c2 => ?_) (fun c2 => ?_)
    · have n0 : nk (gS ss j) = 0 := by
        have : ¬ 0 < nk (gS ss j) := fun z => Int32.not_le.mpr (nI_lt z (by omega)) c2
        omega
      have nb2 : ¬ (nc (gS ss j) = 8 ∨ 0 < nk (gS ss j)) := by omega
      have bad3 : (farL x ∨ farL y) → J X B D 8 Q h1 1 6 63 [(6, .ref (gG gs j).1), (0, .ref c), (1, .int (nI j)), (2, .long x), (4, .long y)] [] := by
        intro hf
        rw [← hQ]
        exact j_throw (cls := "java/lang/IllegalArgumentException") (text := "too far") (ik := 88) (is := 90) (ic := 92) E htab dX6_corner_63 dX6_corner_66 dX6_corner_67 dX6_corner_69 dX6_corner_72 (by decide) (by decide +kernel) (by decide +kernel) (by decide) (by decide +kernel) (by decide +kernel) (by decide +kernel) (by omega) (Nat.le_of_ble_eq_true rfl) (by omega) (by omega) ⟨rfl, Or.inr (Or.inr ⟨rfl, by rw [hcd, cI_f nb2, cI_t hf]⟩)⟩
      refine j_lload_n E dX6_corner_48 rfl ?_
      refine j_callS (np := 1) E (c_isTooFar v x) gX6_corner_X6_isTooFar rfl ⟨by decide, by decide, by decide +kernel⟩ dX6_corner_49 (by omega) (by decide) rfl rfl (Nat.le_of_ble_eq_true rfl) (by omega) (by omega) (fun r9 h9 p9 => J.pure p9 ?_)
      refine J.wide (k' := 1) (n' := 6) (by omega) (by omega) ?_
      refine j_if_ne E (tgt := 63) dX6_corner_52 (by decide) (fun c3 => ?_) (fun c3 => ?_)
      · exact bad3 (Or.inl (bI_n.mp c3))
      ·
        refine j_lload E dX6_corner_55 rfl ?_
        refine j_callS (np := 1) E (c_isTooFar v y) gX6_corner_X6_isTooFar rfl ⟨by decide, by decide, by decide +kernel⟩ dX6_corner_57 (by omega) (by decide) rfl rfl (Nat.le_of_ble_eq_true rfl) (by omega) (by omega) (fun r9 h9 p9 => J.pure p9 ?_)
        refine J.wide (k' := 1) (n' := 6) (by omega) (by omega) ?_
        refine j_if_eq E (tgt := 73) dX6_corner_60 (by decide) (fun c4 => ?_) (fun c4 => ?_)
        · have nx := bI_z.mp c3
          have ny := bI_z.mp c4
          have h0 : cdCorner ss (nI j) x y = 0 := by rw [hcd, cI_f nb2, cI_f (fun w => w.elim nx ny)]
          obtain ⟨bx, ex⟩ := nfar nx
          obtain ⟨by_, ey⟩ := nfar ny
          have hw1 := addK_wf hw hj l8 n0 bx by_
          refine j_aload E dX6_corner_73 rfl ?_
          refine j_lload_n E dX6_corner_75 rfl ?_
          refine j_lload E dX6_corner_76 rfl ?_
          refine J.stk (st' := [.long (lZ y.toInt), .long (lZ x.toInt), .ref (gG gs j).1]) (by rw [lZ_of, lZ_of]; rfl) ?_
          refine j_callV (np := 2) (C := RX5) (T := TX5) (N := 9) (ci := 6) E (c_addCorner v SR0 hwj r0 l8 bx by_) gX6_corner_X5_addCorner rfl ⟨rfl, by decide, by decide, by decide +kernel⟩ dX6_corner_78 (by omega) (by decide) rfl S1 rfl rfl (Nat.le_of_ble_eq_true rfl) (by omega) (by omega) (fun r h2 p => ?_)
          obtain ⟨rfl, e1, els1, p1, p2, p3, p4⟩ := p
          obtain ⟨T1, gs1, RN, F⟩ := R.cornered hj p1 p2 p3 p4
          refine J.wide (k' := 3) (n' := 25) (by omega) (by omega) ?_
          have hl1 : (addK ss j x.toInt y.toInt).length = ss.length := by unfold addK; rw [List.length_set]
          have gk : ∀ i, gS (addK ss j x.toInt y.toInt) i = if i = j then ((gS ss j).1 ++ [(x.toInt, y.toInt)], (gS ss j).2) else gS ss i := fun i => by unfold addK; rw [gS_set hj]
          refine j_istore E dX6_corner_81 (by decide) ?_
          refine j_iload E dX6_corner_83 rfl ?_
          refine j_if_eq E (tgt := 93) dX6_corner_85 (by decide) (fun c5 => ?_) (fun c5 => ?_)
          · have od := bI_z.mp c5
            refine j_iload E dX6_corner_93 rfl ?_
            rw [← hQ]
            refine j_x (j_iret E dX6_corner_95 rfl (nb_bI _) (by omega) (by omega) ⟨h0, j, hj, rfl, rfl, hw1, T1, gs1, CR.N.mpr (RN.same (fun p q hp hq => ?_)), F⟩)
            unfold nbits
            rw [hl1, gk p, gk q]
            by_cases e1 : p = j
            · by_cases e2 : q = j
              · exact ⟨fun w => absurd (e2.trans e1.symm) w.2.1, fun w => absurd (e2.trans e1.symm) w.2.1⟩
              · rw [if_pos e1, if_neg e2, nearW_app0 (by omega), e1]
            · by_cases e2 : q = j
              · rw [if_neg e1, if_pos e2, nearW_c, nearW_app0 (by omega), nearW_c, e2]
              · rw [if_neg e1, if_neg e2]
          · have ev := bI_n.mp c5
            have RN1 := RN.2.1
            refine j_aload_n E dX6_corner_88 rfl ?_
            refine j_iload_n E dX6_corner_89 rfl ?_
            have ncj : nc (gS (addK ss j x.toInt y.toInt) j) = nc (gS ss j) + 1 := by rw [gk j, if_pos rfl, nc_app]
            refine j_callV (np := 1) (C := RX6) (T := TX6) (N := 6) (ci := 7) E (c_findNearOnes (v + 2) RN hw1 hd (show j < (addK ss j x.toInt y.toInt).length by omega) (by omega)) gX6_corner_X6_findNearOnes rfl ⟨rfl, by decide, by decide, by decide +kernel⟩ dX6_corner_90 (by omega) (by decide) rfl (by first | with_reducible assumption | exact hput_eq _ _ _ | exact (hput_ne _ (by first | assumption | exact Ne.symm (by assumption))).trans (by assumption) | exact (hput_ne _ (by first | assumption | exact Ne.symm (by assumption))).trans (hput_eq _ _ _) | exact (hput_ne _ (by first | assumption | exact Ne.symm (by assumption))).trans ((hput_ne _ (by first | assumption | exact Ne.symm (by assumption))).trans (by assumption)) | exact (hput_ne _ (by first | assumption | exact Ne.symm (by assumption))).trans ((hput_ne _ (by first | assumption | exact Ne.symm (by assumption))).trans (hput_eq _ _ _))) rfl rfl (Nat.le_of_ble_eq_true rfl) (by omega) (by omega) (fun r h3 p => ?_)
            obtain ⟨rfl, RN2, F2⟩ := p
            refine J.wide (k' := 3) (n' := 25) (by omega) (by omega) ?_
            refine j_iload E dX6_corner_93 rfl ?_
            rw [← hQ]
            refine j_x (j_iret E dX6_corner_95 rfl (nb_bI _) (by omega) (by omega) ⟨h0, j, hj, rfl, rfl, hw1, T1, gs1, CR.N.mpr (RN2.same (fun p q hp hq => ?_)), F.tr F2⟩)
            rw [hl1] at hp
            unfold nbits nrU newN
            rw [hl1, ncj, gk p, gk q, gk j, if_pos rfl, show (nc (gS ss j) + 1) / 2 - 1 = nc (gS ss j) / 2 by omega]
            by_cases e1 : p = j
            · by_cases e2 : q = j
              · exact ⟨fun w => absurd (e2.trans e1.symm) w.2.1, fun w => w.elim (fun w => absurd (e2.trans e1.symm) w.2.1) (fun w => w.elim (fun w => absurd e2 w.2.1) (fun w => absurd e1 w.2.1))⟩
              · rw [if_pos e1, if_neg e2, nearW_app1 (by omega)]
                rw [e1]
                refine ⟨?_, ?_⟩
                · rintro ⟨w1, w2, w3 | w3⟩
                  · exact Or.inl ⟨w1, w2, w3⟩
                  · exact Or.inr (Or.inl ⟨rfl, w2, w1, w3⟩)
                · rintro (⟨w1, w2, w3⟩ | ⟨w0, w1, w2, w3⟩ | ⟨w0, w1, w2, w3⟩)
                  · exact ⟨w1, w2, Or.inl w3⟩
                  · exact ⟨w2, w1, Or.inr w3⟩
                  · exact absurd rfl w1
            · by_cases e2 : q = j
              · rw [if_neg e1, if_pos e2, nearW_c, nearW_app1 (by omega), nearW_c (a := gS ss j), e2]
                refine ⟨?_, ?_⟩
                · rintro ⟨w1, w2, w3 | w3⟩
                  · exact Or.inl ⟨w1, w2, w3⟩
                  · exact Or.inr (Or.inr ⟨rfl, e1, hp, w3⟩)
                · rintro (⟨w1, w2, w3⟩ | ⟨w0, w1, w2, w3⟩ | ⟨w0, w1, w2, w3⟩)
                  · exact ⟨w1, w2, Or.inl w3⟩
                  · exact absurd w0 e1
                  · exact ⟨hj, fun z => e1 z.symm, Or.inr w3⟩
              · rw [if_neg e1, if_neg e2]
                exact ⟨Or.inl, fun w => w.elim id (fun w => w.elim (fun w => absurd w.1 e1) (fun w => absurd w.1 e2))⟩
        · exact bad3 (Or.inr (bI_n.mp c4))
    · exact bad2 (Or.inr (Nat.pos_of_ne_zero (fun z => c2 (by rw [z]; exact Int32.le_refl _))))
end C12
