/-! the class: near(), pair(); one shape changed -/
theorem shR.keep {E0 : Nat} {h h1 : HM} {a : SH} {nr : Int32} {g : SG} (R : shR E0 h a nr g) (hk : ∀ q, h q ≠ none → (q = g.1 ∨ q = g.2.1 ∨ q = g.2.2.1 ∨ q = g.2.2.2.1 ∨ q ∈ g.2.2.2.2) → h1 q = h q) : shR E0 h1 a nr g := by
  obtain ⟨⟨hx, hy, R1, R2⟩, ⟨L1, L2, L3⟩, f, R4, R5⟩ := R
  obtain ⟨⟨zl, hl1⟩, ne, fe, hl2⟩ := L1.ty
  have nn : ∀ {q o}, h q = some o → h q ≠ none := fun e w => by rw [e] at w; cases w
  refine ⟨⟨hx, hy, (hk _ (nn R1) (Or.inl rfl)).trans R1, R2⟩, ⟨L1.keep (hk _ (nn hl1) (Or.inr (Or.inl rfl))) (hk _ (nn hl2) (Or.inr (Or.inr (Or.inl rfl)))), L2, fun i hi => (hk _ (nn (L3 i hi)) (Or.inr (Or.inr (Or.inr (Or.inr (List.getElem_mem hi)))))).trans (L3 i hi)⟩, f, (hk _ (nn R4) (Or.inr (Or.inr (Or.inr (Or.inl rfl))))).trans R4, R5⟩
theorem shR.nn {E0 : Nat} {h : HM} {a : SH} {nr : Int32} {g : SG} (R : shR E0 h a nr g) : h g.1 ≠ none ∧ h g.2.1 ≠ none ∧ h g.2.2.1 ≠ none ∧ h g.2.2.2.1 ≠ none ∧ ∀ y ∈ g.2.2.2.2, h y ≠ none := by
  obtain ⟨⟨hx, hy, R1, R2⟩, ⟨L1, L2, L3⟩, f, R4, R5⟩ := R
  obtain ⟨⟨zl, hl1⟩, ne, fe, hl2⟩ := L1.ty
  have nn : ∀ {q o}, h q = some o → h q ≠ none := fun e w => by rw [e] at w; cases w
  refine ⟨nn R1, nn hl1, nn hl2, nn R4, fun y hy => ?_⟩
  obtain ⟨i, hi, rfl⟩ := List.mem_iff_getElem.mp hy
  exact nn (L3 i hi)
def CRN (E0 : Nat) (h : HM) (T : Nat → Nat) (c : Nat) (d : Int) (ss : List SH) (N : Nat → Nat → Prop) (kp : Option KPs) (rg : List Nat) (cl : Prop) (gs : List SG) (la le ra : Nat) (kr : Value) : Prop :=
  (∃ f0, h E0 = some (hQ 0 f0)) ∧ h c = some (hO 7 [.long (lZ (d * d)), .ref la, .ref ra, .int (nI rg.length), kr, .int (bI cl)]) ∧ AL E0 h la le (gs.map (·.1)) ∧ gs.length = ss.length ∧
  (∀ j, j < ss.length → shR E0 h (gS ss j) (bS (N j)) (gG gs j)) ∧ (∃ f, h ra = some (hI 12 f) ∧ rg.length ≤ 12 ∧ ∀ k, k < rg.length → f k = nI (rg.getD k 0)) ∧ kpR h T kp kr ∧
  (T c = 4 ∧ T la = 1 ∧ (le ≠ E0 → T le = 2) ∧ T ra = 5 ∧ ∀ j, j < ss.length → shT T E0 j (gG gs j))
theorem CR.N {E0 : Nat} {h : HM} {T : Nat → Nat} {c : Nat} {d : Int} {ss : List SH} {kp : Option KPs} {rg : List Nat} {cl : Prop} {gs : List SG} {la le ra : Nat} {kr : Value} : CR E0 h T c d ss kp rg cl gs la le ra kr ↔ CRN E0 h T c d ss (nbits d ss) kp rg cl gs la le ra kr := Iff.rfl
def CF (h : HM) (T : Nat → Nat) (h1 : HM) (T1 : Nat → Nat) : Prop := ∀ q, h q ≠ none → T q = 0 → h1 q = h q ∧ T1 q = 0
theorem CF.tr {h h1 h2 : HM} {T T1 T2 : Nat → Nat} (a : CF h T h1 T1) (b : CF h1 T1 h2 T2) : CF h T h2 T2 := fun q h0 t0 => by
  obtain ⟨e1, e2⟩ := a q h0 t0
  obtain ⟨e3, e4⟩ := b q (by rw [e1]; exact h0) e2
  exact ⟨e3.trans e1, e4⟩
theorem kpR.keep {h h1 : HM} {T T1 : Nat → Nat} {kp : Option KPs} {kr : Value} (K : kpR h T kp kr) (hk : ∀ q, h q ≠ none → T q = 6 → h1 q = h q ∧ T1 q = T q) : kpR h1 T1 kp kr := by
  rcases K with K | ⟨ps, ko, e1, e2, k0, k1, k2, k3, k4, f0, f1, f2, f3, f4, ⟨t, t0, t1, t2, t3, t4⟩, ho, ⟨a0, a1, a2, a3, a4⟩, hs⟩
  · exact Or.inl K
  · have nn : ∀ {q o}, h q = some o → h q ≠ none := fun e w => by rw [e] at w; cases w
    have b := hk _ (nn ho) t
    have b0 := hk _ (nn a0) t0
    have b1 := hk _ (nn a1) t1
    have b2 := hk _ (nn a2) t2
    have b3 := hk _ (nn a3) t3
    have b4 := hk _ (nn a4) t4
    exact Or.inr ⟨ps, ko, e1, e2, k0, k1, k2, k3, k4, f0, f1, f2, f3, f4, ⟨b.2.trans t, b0.2.trans t0, b1.2.trans t1, b2.2.trans t2, b3.2.trans t3, b4.2.trans t4⟩, b.1.trans ho, ⟨b0.1.trans a0, b1.1.trans a1, b2.1.trans a2, b3.1.trans a3, b4.1.trans a4⟩, hs⟩
theorem gG_set {gs : List SG} {j : Nat} (hj : j < gs.length) (g : SG) (i : Nat) : gG (gs.set j g) i = if i = j then g else gG gs i := by
  unfold gG
  rw [List.getD_eq_getElem?_getD, List.getElem?_set]
  by_cases e : i = j
  · rw [if_pos e.symm, if_pos e, if_pos hj]; rfl
  · rw [if_neg (fun z => e z.symm), if_neg e, List.getD_eq_getElem?_getD]
theorem map1_set {gs : List SG} {j : Nat} (hj : j < gs.length) {g : SG} (e : g.1 = (gG gs j).1) : (gs.set j g).map (·.1) = gs.map (·.1) := by
  refine List.ext_getElem (by rw [List.length_map, List.length_map, List.length_set]) (fun i h1 h2 => ?_)
  rw [List.getElem_map, List.getElem_map, List.getElem_set]
  by_cases e1 : j = i
  · subst e1; rw [if_pos rfl, e, gG_lt hj]
  · rw [if_neg e1]
section C7
variable {l : Launch} {B E0 : Nat} {D : va_G} {h : HM} {T : Nat → Nat} {c : Nat} {d : Int} {ss : List SH} {N : Nat → Nat → Prop} {kp : Option KPs} {rg : List Nat} {cl : Prop} {gs : List SG} {la le ra : Nat} {kr : Value}
theorem CRN.upd (R : CRN E0 h T c d ss N kp rg cl gs la le ra kr) {j : Nat} (hj : j < ss.length) {h1 : HM} {T1 : Nat → Nat} {a1 : SH} {N1 : Nat → Nat → Prop} {g1 : SG}
    (hK : ∀ q, h q ≠ none → (T q < 8 * j + 16 ∨ 8 * j + 20 ≤ T q) → h1 q = h q) (hT : ∀ q, h q ≠ none → T1 q = T q) (hE : h1 E0 = h E0) (hg : g1.1 = (gG gs j).1) (S : shR E0 h1 a1 (bS (N1 j)) g1) (ST : shT T1 E0 j g1)
    (hN : ∀ i, i < ss.length → i ≠ j → bS (N1 i) = bS (N i)) : CRN E0 h1 T1 c d (ss.set j a1) N1 kp rg cl (gs.set j g1) la le ra kr := by
  obtain ⟨⟨f0, r0⟩, r1, r2, r3, r4, ⟨f, r5, r6, r7⟩, r8, t0, t1, t2, t3, t4⟩ := R
  have nn : ∀ {q o}, h q = some o → h q ≠ none := fun e w => by rw [e] at w; cases w
  obtain ⟨⟨zl, hl1⟩, ne, fe, hl2⟩ := r2.ty
  have hjg : j < gs.length := by omega
  refine ⟨⟨f0, hE.trans r0⟩, (hK _ (nn r1) (by omega)).trans r1, ?_, by rw [List.length_set, List.length_set]; exact r3, fun i hi => ?_, ⟨f, (hK _ (nn r5) (by omega)).trans r5, r6, r7⟩, r8.keep (fun q h0 h6 => ⟨hK q h0 (by omega), hT q h0⟩), (hT _ (nn r1)).trans t0, (hT _ (nn hl1)).trans t1, fun hne => (hT _ (nn hl2)).trans (t2 hne), (hT _ (nn r5)).trans t3, fun i hi => ?_⟩
  · rw [map1_set hjg hg]
    refine r2.keep (hK _ (nn hl1) (by omega)) ?_
    by_cases e : le = E0
    · rw [e]; exact hE
    · exact hK _ (nn hl2) (by have := t2 e; omega)
  · rw [List.length_set] at hi
    rw [gS_set hj, gG_set hjg]
    by_cases e : i = j
    · rw [if_pos e, if_pos e, e]; exact S
    · rw [if_neg e, if_neg e, hN i hi e]
      obtain ⟨u1, u2, u3, u4, u5⟩ := t4 i hi
      refine (r4 i hi).keep (fun q h0 hq => ?_)
      rcases hq with rfl | rfl | rfl | rfl | hq
      · exact hK _ h0 (by omega)
      · exact hK _ h0 (by omega)
      · by_cases e2 : (gG gs i).2.2.1 = E0
        · rw [e2]; exact hE
        · exact hK _ h0 (by have := u3 e2; omega)
      · exact hK _ h0 (by omega)
      · exact hK _ h0 (by have := u5 _ hq; omega)
  · rw [List.length_set] at hi
    rw [gG_set hjg]
    by_cases e : i = j
    · rw [if_pos e, e]; exact ST
    · rw [if_neg e]
      obtain ⟨u1, u2, u3, u4, u5⟩ := t4 i hi
      obtain ⟨n1, n2, n3, n4, n5⟩ := (r4 i hi).nn
      exact ⟨(hT _ n1).trans u1, (hT _ n2).trans u2, fun w => (hT _ n3).trans (u3 w), (hT _ n4).trans u4, fun y hy => (hT _ (n5 y hy)).trans (u5 y hy)⟩
theorem iw_X6_near_X5 : ∀ w ∈ u_ws RX5 TX5 9, w ∈ wsX6_near := by decide +kernel
theorem iw_X6_near_X6 : ∀ w ∈ u_ws RX6 TX6 6, w ∈ wsX6_near := by decide +kernel
theorem c_near (v : Nat) (R : CR E0 h T c d ss kp rg cl gs la le ra kr) (hw : wfSS ss) : CX l B E0 D yX6_near wsX6_near (v + 7) 1 6 [.ref c] h (fun r h1 => h1 = h ∧ ¬ opS ss ∧ r = some (.int (nI (totC (nW d ss) ss.length ss.length)))) (fun E h1 => h1 = h ∧ E = eS ∧ opS ss) := by
  have R1 := R.2.1
  obtain ⟨L, hL, zl, hl⟩ := R.lst
  have h10 := hw.1
  have big : ∀ n, n ≤ ss.length → sumN (fun i => cnt (nbits d ss i) 12) n ≤ 120 := fun n hn => by
    have := sumN_le (fun i => cnt (nbits d ss i) 12) 12 n (fun j _ => cnt_le _ 12)
    omega
  refine CX.of (cc := cX6_near) (maxL := 3) (ret := (some .int)) (by decide) rfl (Nat.le_of_ble_eq_true rfl) (fun X E htab => ?_)
  show J X B D 3 _ h 0 0 0 [(0, .ref c)] []
  generalize hQ : jX X B D _ _ _ _ = Q
  refine j_aload_n E dX6_near_0 rfl ?_
  refine j_callX (np := 0) (C := RX6) (T := TX6) (N := 6) (ci := 7) E (c_needNoneOpen v R hw) gX6_near_X6_needNoneOpen rfl ⟨rfl, by decide, by decide, by decide +kernel⟩ dX6_near_1 (by omega) (by decide) rfl (by first | with_reducible assumption | exact hput_eq _ _ _ | exact (hput_ne _ (by first | assumption | exact Ne.symm (by assumption))).trans (by assumption) | exact (hput_ne _ (by first | assumption | exact Ne.symm (by assumption))).trans (hput_eq _ _ _) | exact (hput_ne _ (by first | assumption | exact Ne.symm (by assumption))).trans ((hput_ne _ (by first | assumption | exact Ne.symm (by assumption))).trans (by assumption)) | exact (hput_ne _ (by first | assumption | exact Ne.symm (by assumption))).trans ((hput_ne _ (by first | assumption | exact Ne.symm (by assumption))).trans (hput_eq _ _ _))) rfl rfl (Nat.le_of_ble_eq_true rfl) (by omega) (by omega) (fun Ex h1 p => by rw [← hQ]; exact j_out E htab ⟨p.2.1, p.1, p.2.2⟩ (by omega) (by omega)) (fun r h1 p => ?_)
  obtain ⟨rfl, rfl, nop⟩ := p
  refine J.wide (k' := 1) (n' := 6) (by omega) (by omega) ?_
  have key : ∀ (t i : Nat), i + t = ss.length → J X B D 3 Q h1 1 6 8 [(2, .int (nI i)), (1, .int (nI (sumN (fun i => cnt (nbits d ss i) 12) i))), (0, .ref c)] [] := by
    intro t
    induction t with
    | zero =>
      intro i hi
      refine j_iload_n E dX6_near_8 rfl ?_
      refine j_aload_n E dX6_near_9 rfl ?_
      refine j_getfield (ref := "ColourParts") (C := RX6) (T := TX6) (N := 6) (ci := 7) E 1 dX6_near_10 iw_X6_near_X6 rfl (by decide) (by decide +kernel) rfl (by first | with_reducible assumption | exact hput_eq _ _ _ | exact (hput_ne _ (by first | assumption | exact Ne.symm (by assumption))).trans (by assumption) | exact (hput_ne _ (by first | assumption | exact Ne.symm (by assumption))).trans (hput_eq _ _ _) | exact (hput_ne _ (by first | assumption | exact Ne.symm (by assumption))).trans ((hput_ne _ (by first | assumption | exact Ne.symm (by assumption))).trans (by assumption)) | exact (hput_ne _ (by first | assumption | exact Ne.symm (by assumption))).trans ((hput_ne _ (by first | assumption | exact Ne.symm (by assumption))).trans (hput_eq _ _ _))) rfl ?_
      refine j_callV (np := 0) (C := RJx4a65c) (T := TJx4a65c) (N := 3) (ci := 0) E (c_size (v + 2) L) gX6_near_Jx4a65c_size_8abf5 rfl ⟨rfl, by decide, by decide, by decide +kernel⟩ dX6_near_13 (by omega) (by decide) rfl hl rfl rfl (Nat.le_of_ble_eq_true rfl) (by omega) (by omega) (fun r9 h9 p9 => J.pure p9 ?_)
      rw [hL]
      refine J.wide (k' := 1) (n' := 6) (by omega) (by omega) ?_
      refine j_icmp_ge E (tgt := 45) dX6_near_16 (by decide) (fun c1 => ?_) (fun c1 => ?_)
      · have hn : i = ss.length := by omega
        have e := dbl (W := nW d ss) (fun i j z => nearW_symm z) ss.length
        have e2 : sumN (fun i => cnt (nbits d ss i) 12) ss.length = 2 * totC (nW d ss) ss.length ss.length := by
          rw [← e]
          refine sumN_congr (fun j hj => ?_)
          rw [cnt_cut (n := ss.length) (fun q hq w => by have := w.1; omega) 12 (by omega)]
          exact cnt_congr (fun q hq => ⟨fun z => z.2, fun z => ⟨hq, z⟩⟩)
        have hb := big ss.length (Nat.le_refl _)
        rw [hn, e2]
        rw [e2] at hb
        refine j_iload_n E dX6_near_45 rfl ?_
        refine j_iconst (x := nI 2) E dX6_near_46 (by decide) ?_
        refine j_idiv E dX6_near_47 (by decide) ?_
        refine J.topi (x' := nI (totC (nW d ss) ss.length ss.length)) ((pk_div (by omega) (by decide) (by decide)).trans (by rw [Nat.mul_div_cancel_left _ (by decide)])) ?_
        rw [← hQ]
        exact j_x (j_iret E dX6_near_48 rfl rfl (by omega) (by omega) ⟨rfl, nop, rfl⟩)
      · exact absurd (nI_le (show ss.length ≤ i by omega) (by omega)) c1
    | succ t ih =>
      intro i hi
      have hil : i < ss.length := by omega
      refine j_iload_n E dX6_near_8 rfl ?_
      refine j_aload_n E dX6_near_9 rfl ?_
      refine j_getfield (ref := "ColourParts") (C := RX6) (T := TX6) (N := 6) (ci := 7) E 1 dX6_near_10 iw_X6_near_X6 rfl (by decide) (by decide +kernel) rfl (by first | with_reducible assumption | exact hput_eq _ _ _ | exact (hput_ne _ (by first | assumption | exact Ne.symm (by assumption))).trans (by assumption) | exact (hput_ne _ (by first | assumption | exact Ne.symm (by assumption))).trans (hput_eq _ _ _) | exact (hput_ne _ (by first | assumption | exact Ne.symm (by assumption))).trans ((hput_ne _ (by first | assumption | exact Ne.symm (by assumption))).trans (by assumption)) | exact (hput_ne _ (by first | assumption | exact Ne.symm (by assumption))).trans ((hput_ne _ (by first | assumption | exact Ne.symm (by assumption))).trans (hput_eq _ _ _))) rfl ?_
      refine j_callV (np := 0) (C := RJx4a65c) (T := TJx4a65c) (N := 3) (ci := 0) E (c_size (v + 2) L) gX6_near_Jx4a65c_size_8abf5 rfl ⟨rfl, by decide, by decide, by decide +kernel⟩ dX6_near_13 (by omega) (by decide) rfl hl rfl rfl (Nat.le_of_ble_eq_true rfl) (by omega) (by omega) (fun r9 h9 p9 => J.pure p9 ?_)
      rw [hL]
      refine J.wide (k' := 1) (n' := 6) (by omega) (by omega) ?_
      refine j_icmp_ge E (tgt := 45) dX6_near_16 (by decide) (fun c1 => ?_) (fun c1 => ?_)
      · exact absurd c1 (nI_ge hil (by omega))
      ·
        refine j_iload_n E dX6_near_19 rfl ?_
        refine j_aload_n E dX6_near_20 rfl ?_
        refine j_getfield (ref := "ColourParts") (C := RX6) (T := TX6) (N := 6) (ci := 7) E 1 dX6_near_21 iw_X6_near_X6 rfl (by decide) (by decide +kernel) rfl (by first | with_reducible assumption | exact hput_eq _ _ _ | exact (hput_ne _ (by first | assumption | exact Ne.symm (by assumption))).trans (by assumption) | exact (hput_ne _ (by first | assumption | exact Ne.symm (by assumption))).trans (hput_eq _ _ _) | exact (hput_ne _ (by first | assumption | exact Ne.symm (by assumption))).trans ((hput_ne _ (by first | assumption | exact Ne.symm (by assumption))).trans (by assumption)) | exact (hput_ne _ (by first | assumption | exact Ne.symm (by assumption))).trans ((hput_ne _ (by first | assumption | exact Ne.symm (by assumption))).trans (hput_eq _ _ _))) rfl ?_
        refine j_iload_n E dX6_near_24 rfl ?_
        refine j_callV (np := 1) (C := RJx4a65c) (T := TJx4a65c) (N := 3) (ci := 0) E (c_get v L (show i < (gs.map (·.1)).length by omega) (by omega)) gX6_near_Jx4a65c_get_915e3 rfl ⟨rfl, by decide, by decide, by decide +kernel⟩ dX6_near_25 (by omega) (by decide) rfl hl rfl rfl (Nat.le_of_ble_eq_true rfl) (by omega) (by omega) (fun r9 h9 p9 => J.pure p9 ?_)
        rw [R.el]
        refine J.wide (k' := 1) (n' := 6) (by omega) (by omega) ?_
        obtain ⟨⟨hx, hy, S1, -⟩, -⟩ := R.sh hil
        unfold shF at S1
        refine j_cast (C := RX5) (T := TX5) (N := 9) (ci := 6) E dX6_near_28 (by decide +kernel) rfl S1 ?_
        refine j_getfield (ref := "ColourParts$Shape") (C := RX5) (T := TX5) (N := 9) (ci := 6) E 5 dX6_near_31 iw_X6_near_X5 rfl (by decide) (by decide +kernel) rfl S1 rfl ?_
        refine j_callS (np := 1) E (c_bitCount v (nbits d ss i)) gX6_near_J6_bitCount_0f7a4 rfl ⟨by decide, by decide, by decide +kernel⟩ dX6_near_34 (by omega) (by decide) rfl rfl (Nat.le_of_ble_eq_true rfl) (by omega) (by omega) (fun r9 h9 p9 => J.pure p9 ?_)
        refine J.wide (k' := 1) (n' := 6) (by omega) (by omega) ?_
        refine j_iadd E dX6_near_37 ?_
        refine J.topi (x' := nI (sumN (fun i => cnt (nbits d ss i) 12) (i + 1))) (nI_add _ _) ?_
        refine j_istore_n E dX6_near_38 (by decide) ?_
        refine j_iinc E dX6_near_39 rfl (nI_1 i) (by decide) ?_
        refine j_goto E (tgt := 8) dX6_near_42 (by decide) ?_
        refine J.sub [(2, .int (nI (i + 1))), (1, .int (nI (sumN (fun i => cnt (nbits d ss i) 12) (i + 1)))), (0, .ref c)] ⟨rfl, rfl, rfl, trivial⟩ ?_
        exact ih (i + 1) (by omega)
  refine j_iconst (x := nI 0) E dX6_near_4 (by decide) ?_
  refine j_istore_n E dX6_near_5 (by decide) ?_
  refine j_iconst (x := nI 0) E dX6_near_6 (by decide) ?_
  refine j_istore_n E dX6_near_7 (by decide) ?_
  refine J.sub [(2, .int (nI 0)), (1, .int (nI (sumN (fun i => cnt (nbits d ss i) 12) 0))), (0, .ref c)] ⟨rfl, rfl, rfl, trivial⟩ ?_
  exact key ss.length 0 (by omega)
end C7
