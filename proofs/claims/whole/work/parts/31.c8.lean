/-! the class: pair(), pre() -/
theorem gs_self {gs : List SG} {j : Nat} (hj : j < gs.length) : gs.set j (gG gs j) = gs := by
  rw [gG_lt hj]
  exact List.set_getElem_self hj
theorem nearW_1 (d : Int) (a b : SH) : nearW d a b = nearW d (a.1, dS.2) (b.1, dS.2) := rfl
theorem gS_1 {ss : List SH} {j : Nat} (hj : j < ss.length) {a1 : SH} (e : a1.1 = (gS ss j).1) (i : Nat) : (gS (ss.set j a1) i).1 = (gS ss i).1 := by
  rw [gS_set hj]
  by_cases e2 : i = j
  · rw [if_pos e2, e2, e]
  · rw [if_neg e2]
theorem nbits_1 {d : Int} {ss : List SH} {j : Nat} (hj : j < ss.length) {a1 : SH} (e : a1.1 = (gS ss j).1) (i : Nat) : bS (nbits d (ss.set j a1) i) = bS (nbits d ss i) := by
  refine bS_congr (fun q _ => ?_)
  unfold nbits
  rw [List.length_set, nearW_1 d (gS (ss.set j a1) i), nearW_1 d (gS ss i), gS_1 hj e, gS_1 hj e]
/-- the shape's own cell written, its lists not -/
theorem shR.put {E0 : Nat} {h : HM} {a a1 : SH} {nr nr1 : Int32} {g : SG} (R : shR E0 h a nr g) (h1 : a1.1 = a.1) (h2 : a1.2.1 = a.2.1) {fs : List Value} (hf : ∀ hx hy, h g.1 = some (hO 6 (shF a g nr hx hy)) → fs = shF a1 g nr1 hx hy) : shR E0 (hput h g.1 (hO 6 fs)) a1 nr1 g := by
  obtain ⟨⟨hx, hy, R1, R2⟩, ⟨L1, L2, L3⟩, f, R4, R5⟩ := R
  obtain ⟨⟨zl, hl1⟩, ne, fe, hl2⟩ := L1.ty
  have n1 : g.2.1 ≠ g.1 := hm_ne hl1 R1 (by intro z; cases z)
  have n2 : g.2.2.1 ≠ g.1 := hm_ne hl2 R1 (by intro z; cases z)
  have n3 : g.2.2.2.1 ≠ g.1 := hm_ne R4 R1 (by intro z; cases z)
  have e1 : nc a1 = nc a := by unfold nc; rw [h1]
  have e2 : nk a1 = nk a := by unfold nk; rw [h2]
  have e3 : bxs a1 = bxs a := by
    unfold bxs
    rw [e1]
    refine List.map_congr_left (fun i _ => ?_)
    unfold bxA bx0 bx1 by0 by1 cx cy
    rw [h1]
  refine ⟨⟨hx, hy, (hput_eq _ _ _).trans (by rw [hf hx hy R1]), fun z => ?_⟩, ⟨L1.keep (hput_ne _ n1) (hput_ne _ n2), by rw [e3]; exact L2, fun i hi => ?_⟩, f, (hput_ne _ n3).trans R4, fun k hk => ?_⟩
  · rw [e1] at z
    have := R2 z
    unfold cx cy at *
    rw [e1, h1]
    exact this
  · rw [e3]
    exact (hput_ne _ (hm_ne (L3 i hi) R1 (by intro z; cases z))).trans (L3 i hi)
  · rw [e2] at hk
    have := R5 k hk
    unfold ct at *
    rw [h2]
    exact this
theorem shF_inj {a : SH} {g : SG} {nr : Int32} {hx hy hx2 hy2 : Int64} (e : some (hO 6 (shF a g nr hx hy)) = some (hO 6 (shF a g nr hx2 hy2))) : hx2 = hx ∧ hy2 = hy := by
  injection e with e
  injection e with e
  injection e with _ e
  unfold shF at e
  simp only [List.cons.injEq, Value.long.injEq, true_and, and_true] at e
  exact ⟨e.1.symm, e.2.symm⟩
theorem shF_told (a : SH) (g : SG) (nr : Int32) (hx hy : Int64) (x : Int32) : (shF a g nr hx hy).set 4 (.int x) = shF (a.1, a.2.1, a.2.2.1, x.toInt) g nr hx hy := by
  unfold shF
  rw [show tl (a.1, a.2.1, a.2.2.1, x.toInt) = x.toInt from rfl, iZ_of]
  rfl
theorem CR.cell {E0 : Nat} {h : HM} {T : Nat → Nat} {c : Nat} {d : Int} {ss : List SH} {kp : Option KPs} {rg : List Nat} {cl : Prop} {gs : List SG} {la le ra : Nat} {kr : Value} (R : CR E0 h T c d ss kp rg cl gs la le ra kr) {j : Nat} (hj : j < ss.length) (a1 : SH) (h1 : a1.1 = (gS ss j).1) (h2 : a1.2.1 = (gS ss j).2.1) {fs : List Value} (hf : ∀ hx hy, h (gG gs j).1 = some (hO 6 (shF (gS ss j) (gG gs j) (bS (nbits d ss j)) hx hy)) → fs = shF a1 (gG gs j) (bS (nbits d ss j)) hx hy) : CR E0 (hput h (gG gs j).1 (hO 6 fs)) T c d (ss.set j a1) kp rg cl gs la le ra kr ∧ CF h T (hput h (gG gs j).1 (hO 6 fs)) T := by
  have tj := R.2.2.2.2.2.2.2.2.2.2.2 j hj
  have hjg : j < gs.length := by rw [R.2.2.2.1]; exact hj
  have sh1 := shR.put (a1 := a1) (nr1 := bS (nbits d ss j)) (R.sh hj) h1 h2 hf
  rw [← nbits_1 hj h1 j] at sh1
  obtain ⟨⟨hx, hy, S1, -⟩, -⟩ := R.sh hj
  have hRN := CRN.upd (CR.N.mp R) hj (T1 := T) (N1 := nbits d (ss.set j a1)) (g1 := gG gs j) (fun q h0 hq => hput_ne _ (fun e => by rw [e, tj.1] at hq; omega)) (fun _ _ => rfl) (hput_ne _ (fun e => by
    obtain ⟨f0, r0⟩ := R.1
    rw [e, S1] at r0
    cases r0)) rfl sh1 tj (fun i _ _ => nbits_1 hj h1 i)
  rw [gs_self hjg] at hRN
  exact ⟨CR.N.mpr hRN, fun q q1 q2 => ⟨hput_ne _ (fun e => by rw [e, tj.1] at q2; omega), q2⟩⟩
theorem badC_of {x : Int32} (h1 : ¬ x = -1) (h2 : x < 0 ∨ nI 3 < x) : badC x := by
  refine h2.imp (fun w => ?_) id
  rw [Int32.lt_iff_toInt_lt, show (-1 : Int32).toInt = -1 by decide]
  rw [Int32.lt_iff_toInt_lt, show (0 : Int32).toInt = 0 by decide] at w
  rw [← Int32.toInt_inj, show (-1 : Int32).toInt = -1 by decide] at h1
  omega
section C8
variable {l : Launch} {B E0 : Nat} {D : va_G} {h : HM} {T : Nat → Nat} {c : Nat} {d : Int} {ss : List SH} {N : Nat → Nat → Prop} {kp : Option KPs} {rg : List Nat} {cl : Prop} {gs : List SG} {la le ra : Nat} {kr : Value}
theorem iw_X6_pair_X6 : ∀ w ∈ u_ws RX6 TX6 6, w ∈ wsX6_pair := by decide +kernel
theorem c_pair (v : Nat) (R : CR E0 h T c d ss kp rg cl gs la le ra kr) (hw : wfSS ss) (z side : Int32) : CX l B E0 D yX6_pair wsX6_pair (v + 7) 1 6 [.ref c, .int z, .int side] h (fun r h1 => h1 = h ∧ cdPair ss z side = 0 ∧ ∃ K, z = nI K ∧ K < 2 ^ 31 ∧ ((∃ i j, kth (nW d ss) ss.length K i j ∧ r = some (.int (if side = 0 then nI i else nI j))) ∨ (totC (nW d ss) ss.length ss.length ≤ K ∧ r = some (.int (-1))))) (fun E h1 => h1 = h ∧ ((E = eI ∧ cdPair ss z side = 1) ∨ (E = eS ∧ cdPair ss z side = 2))) := by
  have R1 := R.2.1
  obtain ⟨L, hL, zl, hl⟩ := R.lst
  have h10 := hw.1
  refine CX.of (cc := cX6_pair) (maxL := 6) (ret := (some .int)) (by decide) rfl (Nat.le_of_ble_eq_true rfl) (fun X E htab => ?_)
  show J X B D 6 _ h 0 0 0 [(0, .ref c), (1, .int z), (2, .int side)] []
  generalize hQ : jX X B D _ _ _ _ = Q
  have bad : badP z side → J X B D 6 Q h 0 0 13 [(0, .ref c), (1, .int z), (2, .int side)] [] := by
    intro hb
    rw [← hQ]
    exact j_throw (cls := "java/lang/IndexOutOfBoundsException") (text := "no such pair or side") (ik := 153) (is := 211) (ic := 157) E htab dX6_pair_13 dX6_pair_16 dX6_pair_17 dX6_pair_19 dX6_pair_22 (by decide) (by decide +kernel) (by decide +kernel) (by decide) (by decide +kernel) (by decide +kernel) (by decide +kernel) (by omega) (Nat.le_of_ble_eq_true rfl) (by omega) (by omega) ⟨rfl, Or.inl ⟨rfl, cI_t hb⟩⟩
  refine j_iload_n E dX6_pair_0 rfl ?_
  refine j_if_lt E (tgt := 13) dX6_pair_1 (by decide) (fun c1 => ?_) (fun c1 => ?_)
  · exact bad (Or.inl c1)
  ·
    refine j_iload_n E dX6_pair_4 rfl ?_
    refine j_if_lt E (tgt := 13) dX6_pair_5 (by decide) (fun c2 => ?_) (fun c2 => ?_)
    · exact bad (Or.inr (Or.inl c2))
    ·
      refine j_iload_n E dX6_pair_8 rfl ?_
      refine j_iconst (x := nI 1) E dX6_pair_9 (by decide) ?_
      refine j_icmp_le E (tgt := 23) dX6_pair_10 (by decide) (fun c3 => ?_) (fun c3 => ?_)
      · have hb : ¬ badP z side := fun w => w.elim c1 (fun w => w.elim c2 (Int32.not_lt.mpr c3))
        obtain ⟨K, hK, rfl⟩ := nI_of c1
        refine j_aload_n E dX6_pair_23 rfl ?_
        refine j_callX (np := 0) (C := RX6) (T := TX6) (N := 6) (ci := 7) E (c_needNoneOpen v R hw) gX6_pair_X6_needNoneOpen rfl ⟨rfl, by decide, by decide, by decide +kernel⟩ dX6_pair_24 (by omega) (by decide) rfl (by first | with_reducible assumption | exact hput_eq _ _ _ | exact (hput_ne _ (by first | assumption | exact Ne.symm (by assumption))).trans (by assumption) | exact (hput_ne _ (by first | assumption | exact Ne.symm (by assumption))).trans (hput_eq _ _ _) | exact (hput_ne _ (by first | assumption | exact Ne.symm (by assumption))).trans ((hput_ne _ (by first | assumption | exact Ne.symm (by assumption))).trans (by assumption)) | exact (hput_ne _ (by first | assumption | exact Ne.symm (by assumption))).trans ((hput_ne _ (by first | assumption | exact Ne.symm (by assumption))).trans (hput_eq _ _ _))) rfl rfl (Nat.le_of_ble_eq_true rfl) (by omega) (by omega) (fun Ex h1 p => by rw [← hQ]; exact j_out E htab ⟨p.2.1, Or.inr ⟨p.1, by unfold cdPair; rw [cI_f hb, cI_t p.2.2]⟩⟩ (by omega) (by omega)) (fun r h1 p => ?_)
        obtain ⟨rfl, rfl, nop⟩ := p
        have hcd : cdPair ss (nI K) side = 0 := by unfold cdPair; rw [cI_f hb, cI_f nop]
        refine J.wide (k' := 1) (n' := 6) (by omega) (by omega) ?_
        have outer : ∀ (t i : Nat), i + t = ss.length → totC (nW d ss) ss.length i ≤ K → J X B D 6 Q h1 1 6 32 [(4, .int (nI i)), (3, .int (nI (totC (nW d ss) ss.length i))), (0, .ref c), (1, .int (nI K)), (2, .int side)] [] := by
          intro t
          induction t with
          | zero =>
            intro i hi hle
            refine j_iload E dX6_pair_32 rfl ?_
            refine j_aload_n E dX6_pair_34 rfl ?_
            refine j_getfield (ref := "ColourParts") (C := RX6) (T := TX6) (N := 6) (ci := 7) E 1 dX6_pair_35 iw_X6_pair_X6 rfl (by decide) (by decide +kernel) rfl (by first | with_reducible assumption | exact hput_eq _ _ _ | exact (hput_ne _ (by first | assumption | exact Ne.symm (by assumption))).trans (by assumption) | exact (hput_ne _ (by first | assumption | exact Ne.symm (by assumption))).trans (hput_eq _ _ _) | exact (hput_ne _ (by first | assumption | exact Ne.symm (by assumption))).trans ((hput_ne _ (by first | assumption | exact Ne.symm (by assumption))).trans (by assumption)) | exact (hput_ne _ (by first | assumption | exact Ne.symm (by assumption))).trans ((hput_ne _ (by first | assumption | exact Ne.symm (by assumption))).trans (hput_eq _ _ _))) rfl ?_
            refine j_callV (np := 0) (C := RJx4a65c) (T := TJx4a65c) (N := 3) (ci := 0) E (c_size (v + 2) L) gX6_pair_Jx4a65c_size_8abf5 rfl ⟨rfl, by decide, by decide, by decide +kernel⟩ dX6_pair_38 (by omega) (by decide) rfl hl rfl rfl (Nat.le_of_ble_eq_true rfl) (by omega) (by omega) (fun r9 h9 p9 => J.pure p9 ?_)
            rw [hL]
            refine J.wide (k' := 1) (n' := 6) (by omega) (by omega) ?_
            refine j_icmp_ge E (tgt := 117) dX6_pair_41 (by decide) (fun c4 => ?_) (fun c4 => ?_)
            ·
              refine j_iconst (x := (-1)) E dX6_pair_117 (by decide) ?_
              rw [← hQ]
              exact j_x (j_iret E dX6_pair_118 rfl rfl (by omega) (by omega) ⟨rfl, hcd, K, rfl, hK, Or.inr ⟨by rw [show i = ss.length by omega] at hle; exact hle, rfl⟩⟩)
            · exact absurd (nI_le (show ss.length ≤ i by omega) (by omega)) c4
          | succ t ih =>
            intro i hi hle
            have hil : i < ss.length := by omega
            have bt := totC_le (nW d ss) ss.length i
            have bt2 : i * ss.length ≤ 10 * 10 := Nat.mul_le_mul (by omega) (by omega)
            have inner : ∀ (t2 j : Nat), j + t2 = ss.length → i < j → totC (nW d ss) ss.length i + rowC (nW d ss) i j ≤ K → J X B D 6 Q h1 1 6 50 [(5, .int (nI j)), (4, .int (nI i)), (3, .int (nI (totC (nW d ss) ss.length i + rowC (nW d ss) i j))), (0, .ref c), (1, .int (nI K)), (2, .int side)] [] := by
              intro t2
              induction t2 with
              | zero =>
                intro j hj hij hle
                refine j_iload E dX6_pair_50 rfl ?_
                refine j_aload_n E dX6_pair_52 rfl ?_
                refine j_getfield (ref := "ColourParts") (C := RX6) (T := TX6) (N := 6) (ci := 7) E 1 dX6_pair_53 iw_X6_pair_X6 rfl (by decide) (by decide +kernel) rfl (by first | with_reducible assumption | exact hput_eq _ _ _ | exact (hput_ne _ (by first | assumption | exact Ne.symm (by assumption))).trans (by assumption) | exact (hput_ne _ (by first | assumption | exact Ne.symm (by assumption))).trans (hput_eq _ _ _) | exact (hput_ne _ (by first | assumption | exact Ne.symm (by assumption))).trans ((hput_ne _ (by first | assumption | exact Ne.symm (by assumption))).trans (by assumption)) | exact (hput_ne _ (by first | assumption | exact Ne.symm (by assumption))).trans ((hput_ne _ (by first | assumption | exact Ne.symm (by assumption))).trans (hput_eq _ _ _))) rfl ?_
                refine j_callV (np := 0) (C := RJx4a65c) (T := TJx4a65c) (N := 3) (ci := 0) E (c_size (v + 2) L) gX6_pair_Jx4a65c_size_8abf5 rfl ⟨rfl, by decide, by decide, by decide +kernel⟩ dX6_pair_56 (by omega) (by decide) rfl hl rfl rfl (Nat.le_of_ble_eq_true rfl) (by omega) (by omega) (fun r9 h9 p9 => J.pure p9 ?_)
                rw [hL]
                refine J.wide (k' := 1) (n' := 6) (by omega) (by omega) ?_
                refine j_icmp_ge E (tgt := 111) dX6_pair_59 (by decide) (fun c4 => ?_) (fun c4 => ?_)
                ·
                  refine j_iinc E dX6_pair_111 rfl (nI_1 i) (by decide) ?_
                  refine j_goto E (tgt := 32) dX6_pair_114 (by decide) ?_
                  have e : totC (nW d ss) ss.length (i + 1) = totC (nW d ss) ss.length i + rowC (nW d ss) i j := by rw [show j = ss.length by omega]; rfl
                  refine J.sub [(4, .int (nI (i + 1))), (3, .int (nI (totC (nW d ss) ss.length (i + 1)))), (0, .ref c), (1, .int (nI K)), (2, .int side)] ⟨rfl, by rw [e]; rfl, rfl, rfl, rfl, trivial⟩ ?_
                  exact ih (i + 1) (by omega) (by rw [e]; exact hle)
                · exact absurd (nI_le (show ss.length ≤ j by omega) (by omega)) c4
              | succ t2 ih2 =>
                intro j hj hij hle
                have hjl : j < ss.length := by omega
                have br := rowC_le (nW d ss) i j
                refine j_iload E dX6_pair_50 rfl ?_
                refine j_aload_n E dX6_pair_52 rfl ?_
                refine j_getfield (ref := "ColourParts") (C := RX6) (T := TX6) (N := 6) (ci := 7) E 1 dX6_pair_53 iw_X6_pair_X6 rfl (by decide) (by decide +kernel) rfl (by first | with_reducible assumption | exact hput_eq _ _ _ | exact (hput_ne _ (by first | assumption | exact Ne.symm (by assumption))).trans (by assumption) | exact (hput_ne _ (by first | assumption | exact Ne.symm (by assumption))).trans (hput_eq _ _ _) | exact (hput_ne _ (by first | assumption | exact Ne.symm (by assumption))).trans ((hput_ne _ (by first | assumption | exact Ne.symm (by assumption))).trans (by assumption)) | exact (hput_ne _ (by first | assumption | exact Ne.symm (by assumption))).trans ((hput_ne _ (by first | assumption | exact Ne.symm (by assumption))).trans (hput_eq _ _ _))) rfl ?_
                refine j_callV (np := 0) (C := RJx4a65c) (T := TJx4a65c) (N := 3) (ci := 0) E (c_size (v + 2) L) gX6_pair_Jx4a65c_size_8abf5 rfl ⟨rfl, by decide, by decide, by decide +kernel⟩ dX6_pair_56 (by omega) (by decide) rfl hl rfl rfl (Nat.le_of_ble_eq_true rfl) (by omega) (by omega) (fun r9 h9 p9 => J.pure p9 ?_)
                rw [hL]
                refine J.wide (k' := 1) (n' := 6) (by omega) (by omega) ?_
                refine j_icmp_ge E (tgt := 111) dX6_pair_59 (by decide) (fun c4 => ?_) (fun c4 => ?_)
                · exact absurd c4 (nI_ge hjl (by omega))
                ·
                  refine j_aload_n E dX6_pair_62 rfl ?_
                  refine j_getfield (ref := "ColourParts") (C := RX6) (T := TX6) (N := 6) (ci := 7) E 1 dX6_pair_63 iw_X6_pair_X6 rfl (by decide) (by decide +kernel) rfl (by first | with_reducible assumption | exact hput_eq _ _ _ | exact (hput_ne _ (by first | assumption | exact Ne.symm (by assumption))).trans (by assumption) | exact (hput_ne _ (by first | assumption | exact Ne.symm (by assumption))).trans (hput_eq _ _ _) | exact (hput_ne _ (by first | assumption | exact Ne.symm (by assumption))).trans ((hput_ne _ (by first | assumption | exact Ne.symm (by assumption))).trans (by assumption)) | exact (hput_ne _ (by first | assumption | exact Ne.symm (by assumption))).trans ((hput_ne _ (by first | assumption | exact Ne.symm (by assumption))).trans (hput_eq _ _ _))) rfl ?_
                  refine j_iload E dX6_pair_66 rfl ?_
                  refine j_callV (np := 1) (C := RJx4a65c) (T := TJx4a65c) (N := 3) (ci := 0) E (c_get v L (show i < (gs.map (·.1)).length by omega) (by omega)) gX6_pair_Jx4a65c_get_915e3 rfl ⟨rfl, by decide, by decide, by decide +kernel⟩ dX6_pair_68 (by omega) (by decide) rfl hl rfl rfl (Nat.le_of_ble_eq_true rfl) (by omega) (by omega) (fun r9 h9 p9 => J.pure p9 ?_)
                  rw [R.el]
                  refine J.wide (k' := 1) (n' := 6) (by omega) (by omega) ?_
                  have SR := R.sh hil
                  obtain ⟨⟨hx, hy, S1, -⟩, -⟩ := SR
                  refine j_cast (C := RX5) (T := TX5) (N := 9) (ci := 6) E dX6_pair_71 (by decide +kernel) rfl S1 ?_
                  refine j_iload E dX6_pair_74 rfl ?_
                  refine j_callV (np := 1) (C := RX5) (T := TX5) (N := 9) (ci := 6) E (c_isNearShape v (R.sh hil) (show j < 12 by omega)) gX6_pair_X5_isNearShape rfl ⟨rfl, by decide, by decide, by decide +kernel⟩ dX6_pair_76 (by omega) (by decide) rfl S1 rfl rfl (Nat.le_of_ble_eq_true rfl) (by omega) (by omega) (fun r9 h9 p9 => J.pure p9 ?_)
                  refine J.wide (k' := 1) (n' := 6) (by omega) (by omega) ?_
                  have hnb : nbits d ss i j ↔ nW d ss i j := ⟨fun w => w.2.2, fun w => ⟨hjl, by omega, w⟩⟩
                  have next : totC (nW d ss) ss.length i + rowC (nW d ss) i (j + 1) ≤ K → J X B D 6 Q h1 1 6 105 [(5, .int (nI j)), (4, .int (nI i)), (3, .int (nI (totC (nW d ss) ss.length i + rowC (nW d ss) i (j + 1)))), (0, .ref c), (1, .int (nI K)), (2, .int side)] [] := by
                    intro hle2
                    refine j_iinc E dX6_pair_105 rfl (nI_1 j) (by decide) ?_
                    refine j_goto E (tgt := 50) dX6_pair_108 (by decide) ?_
                    refine J.sub [(5, .int (nI (j + 1))), (4, .int (nI i)), (3, .int (nI (totC (nW d ss) ss.length i + rowC (nW d ss) i (j + 1)))), (0, .ref c), (1, .int (nI K)), (2, .int side)] ⟨rfl, rfl, rfl, rfl, rfl, rfl, trivial⟩ ?_
                    exact ih2 (j + 1) (by omega) (by omega) hle2
                  refine j_if_ne E (tgt := 85) dX6_pair_79 (by decide) (fun c5 => ?_) (fun c5 => ?_)
                  · have nw := hnb.mp (bI_n.mp c5)
                    have e : rowC (nW d ss) i (j + 1) = rowC (nW d ss) i j + 1 := by
                      show rowC (nW d ss) i j + bN _ = _
                      rw [bN_t ⟨hij, nw⟩]
                    refine j_iload_n E dX6_pair_85 rfl ?_
                    refine j_iload_n E dX6_pair_86 rfl ?_
                    refine j_icmp_ne E (tgt := 102) dX6_pair_87 (by decide) (fun c6 => ?_) (fun c6 => ?_)
                    · have ne : ¬ totC (nW d ss) ss.length i + rowC (nW d ss) i j = K := fun w => c6 (congrArg nI w)
                      refine j_iinc E dX6_pair_102 rfl (nI_1 _) (by decide) ?_
                      refine J.sub [(5, .int (nI j)), (4, .int (nI i)), (3, .int (nI (totC (nW d ss) ss.length i + rowC (nW d ss) i (j + 1)))), (0, .ref c), (1, .int (nI K)), (2, .int side)] ⟨rfl, rfl, by rw [e]; rfl, rfl, rfl, rfl, trivial⟩ ?_
                      exact next (by omega)
                    · have eq : totC (nW d ss) ss.length i + rowC (nW d ss) i j = K := (nI_eq (by omega) hK).mp c6
                      refine j_iload_n E dX6_pair_90 rfl ?_
                      refine j_if_ne E (tgt := 99) dX6_pair_91 (by decide) (fun c7 => ?_) (fun c7 => ?_)
                      ·
                        refine j_iload E dX6_pair_99 rfl ?_
                        rw [← hQ]
                        exact j_x (j_iret E dX6_pair_101 rfl rfl (by omega) (by omega) ⟨rfl, hcd, K, rfl, hK, Or.inl ⟨i, j, ⟨hij, hjl, nw, eq⟩, by rw [if_neg c7]⟩⟩)
                      ·
                        refine j_iload E dX6_pair_94 rfl ?_
                        refine j_goto E (tgt := 101) dX6_pair_96 (by decide) ?_
                        rw [← hQ]
                        exact j_x (j_iret E dX6_pair_101 rfl rfl (by omega) (by omega) ⟨rfl, hcd, K, rfl, hK, Or.inl ⟨i, j, ⟨hij, hjl, nw, eq⟩, by rw [if_pos c7]⟩⟩)
                  · have nw : ¬ nW d ss i j := fun w => bI_z.mp c5 (hnb.mpr w)
                    have e : rowC (nW d ss) i (j + 1) = rowC (nW d ss) i j := by
                      show rowC (nW d ss) i j + bN _ = _
                      rw [bN_f (fun w => nw w.2)]; rfl
                    refine j_goto E (tgt := 105) dX6_pair_82 (by decide) ?_
                    refine J.sub [(5, .int (nI j)), (4, .int (nI i)), (3, .int (nI (totC (nW d ss) ss.length i + rowC (nW d ss) i (j + 1)))), (0, .ref c), (1, .int (nI K)), (2, .int side)] ⟨rfl, rfl, by rw [e]; rfl, rfl, rfl, rfl, trivial⟩ ?_
                    exact next (by rw [e]; exact hle)
            refine j_iload E dX6_pair_32 rfl ?_
            refine j_aload_n E dX6_pair_34 rfl ?_
            refine j_getfield (ref := "ColourParts") (C := RX6) (T := TX6) (N := 6) (ci := 7) E 1 dX6_pair_35 iw_X6_pair_X6 rfl (by decide) (by decide +kernel) rfl (by first | with_reducible assumption | exact hput_eq _ _ _ | exact (hput_ne _ (by first | assumption | exact Ne.symm (by assumption))).trans (by assumption) | exact (hput_ne _ (by first | assumption | exact Ne.symm (by assumption))).trans (hput_eq _ _ _) | exact (hput_ne _ (by first | assumption | exact Ne.symm (by assumption))).trans ((hput_ne _ (by first | assumption | exact Ne.symm (by assumption))).trans (by assumption)) | exact (hput_ne _ (by first | assumption | exact Ne.symm (by assumption))).trans ((hput_ne _ (by first | assumption | exact Ne.symm (by assumption))).trans (hput_eq _ _ _))) rfl ?_
            refine j_callV (np := 0) (C := RJx4a65c) (T := TJx4a65c) (N := 3) (ci := 0) E (c_size (v + 2) L) gX6_pair_Jx4a65c_size_8abf5 rfl ⟨rfl, by decide, by decide, by decide +kernel⟩ dX6_pair_38 (by omega) (by decide) rfl hl rfl rfl (Nat.le_of_ble_eq_true rfl) (by omega) (by omega) (fun r9 h9 p9 => J.pure p9 ?_)
            rw [hL]
            refine J.wide (k' := 1) (n' := 6) (by omega) (by omega) ?_
            refine j_icmp_ge E (tgt := 117) dX6_pair_41 (by decide) (fun c4 => ?_) (fun c4 => ?_)
            · exact absurd c4 (nI_ge hil (by omega))
            ·
              refine j_iload E dX6_pair_44 rfl ?_
              refine j_iconst (x := nI 1) E dX6_pair_46 (by decide) ?_
              refine j_iadd E dX6_pair_47 ?_
              refine J.topi (x' := nI (i + 1)) (nI_1 i) ?_
              refine j_istore E dX6_pair_48 (by decide) ?_
              refine J.sub [(5, .int (nI (i + 1))), (4, .int (nI i)), (3, .int (nI (totC (nW d ss) ss.length i + rowC (nW d ss) i (i + 1)))), (0, .ref c), (1, .int (nI K)), (2, .int side)] ⟨rfl, rfl, by rw [rowC_0 _ _ _ (Nat.le_refl _)]; rfl, rfl, rfl, rfl, trivial⟩ ?_
              exact inner (ss.length - (i + 1)) (i + 1) (by omega) (by omega) (by rw [rowC_0 _ _ _ (Nat.le_refl _)]; exact hle)
        refine j_iconst (x := nI 0) E dX6_pair_27 (by decide) ?_
        refine j_istore_n E dX6_pair_28 (by decide) ?_
        refine j_iconst (x := nI 0) E dX6_pair_29 (by decide) ?_
        refine j_istore E dX6_pair_30 (by decide) ?_
        refine J.sub [(4, .int (nI 0)), (3, .int (nI (totC (nW d ss) ss.length 0))), (0, .ref c), (1, .int (nI K)), (2, .int side)] ⟨rfl, rfl, rfl, rfl, rfl, trivial⟩ ?_
        exact outer ss.length 0 (by omega) (Nat.zero_le _)
      · exact bad (Or.inr (Or.inr (Int32.not_le.mp c3)))
theorem iw_X6_pre_X5 : ∀ w ∈ u_ws RX5 TX5 9, w ∈ wsX6_pre := by decide +kernel
theorem iw_X6_pre_X6 : ∀ w ∈ u_ws RX6 TX6 6, w ∈ wsX6_pre := by decide +kernel
theorem c_pre (v : Nat) (R : CR E0 h T c d ss kp rg cl gs la le ra kr) (hw : wfSS ss) (z x : Int32) : CX l B E0 D yX6_pre wsX6_pre (v + 7) 3 18 [.ref c, .int z, .int x] h (fun r h1 => cdPre ss z x = 0 ∧ ∃ j, j < ss.length ∧ z = nI j ∧ r = some (.int (bI (¬ tl (gS ss j) = x.toInt))) ∧ CR E0 h1 T c d (setT ss j x.toInt) kp rg cl gs la le ra kr ∧ CF h T h1 T) (fun E h1 => h1 = h ∧ ((E = eI ∧ cdPre ss z x = 1) ∨ (E = eS ∧ cdPre ss z x = 2) ∨ (E = eA ∧ cdPre ss z x = 3))) := by
  have R1 := R.2.1
  obtain ⟨L, hL, zl, hl⟩ := R.lst
  have h10 := hw.1
  refine CX.of (cc := cX6_pre) (maxL := 5) (ret := (some .boolean)) (by decide) rfl (Nat.le_of_ble_eq_true rfl) (fun X E htab => ?_)
  show J X B D 5 _ h 0 0 0 [(0, .ref c), (1, .int z), (2, .int x)] []
  generalize hQ : jX X B D _ _ _ _ = Q
  refine j_aload_n E dX6_pre_0 rfl ?_
  refine j_iload_n E dX6_pre_1 rfl ?_
  refine j_callX (np := 1) (C := RX6) (T := TX6) (N := 6) (ci := 7) E (c_needShape v R hw z) gX6_pre_X6_needShape rfl ⟨rfl, by decide, by decide, by decide +kernel⟩ dX6_pre_2 (by omega) (by decide) rfl (by first | with_reducible assumption | exact hput_eq _ _ _ | exact (hput_ne _ (by first | assumption | exact Ne.symm (by assumption))).trans (by assumption) | exact (hput_ne _ (by first | assumption | exact Ne.symm (by assumption))).trans (hput_eq _ _ _) | exact (hput_ne _ (by first | assumption | exact Ne.symm (by assumption))).trans ((hput_ne _ (by first | assumption | exact Ne.symm (by assumption))).trans (by assumption)) | exact (hput_ne _ (by first | assumption | exact Ne.symm (by assumption))).trans ((hput_ne _ (by first | assumption | exact Ne.symm (by assumption))).trans (hput_eq _ _ _))) rfl rfl (Nat.le_of_ble_eq_true rfl) (by omega) (by omega) (fun Ex h1 p => by rw [← hQ]; exact j_out E htab ⟨p.2.1, Or.inl ⟨p.1, cI_t p.2.2⟩⟩ (by omega) (by omega)) (fun r h1 p => ?_)
  obtain ⟨rfl, rfl, j, hj, rfl⟩ := p
  have isj : ¬ ¬ isx (nI j) ss.length := fun w => w ⟨j, hj, rfl⟩
  refine j_aload_n E dX6_pre_5 rfl ?_
  refine j_callX (np := 0) (C := RX6) (T := TX6) (N := 6) (ci := 7) E (c_needNoneOpen v R hw) gX6_pre_X6_needNoneOpen rfl ⟨rfl, by decide, by decide, by decide +kernel⟩ dX6_pre_6 (by omega) (by decide) rfl (by first | with_reducible assumption | exact hput_eq _ _ _ | exact (hput_ne _ (by first | assumption | exact Ne.symm (by assumption))).trans (by assumption) | exact (hput_ne _ (by first | assumption | exact Ne.symm (by assumption))).trans (hput_eq _ _ _) | exact (hput_ne _ (by first | assumption | exact Ne.symm (by assumption))).trans ((hput_ne _ (by first | assumption | exact Ne.symm (by assumption))).trans (by assumption)) | exact (hput_ne _ (by first | assumption | exact Ne.symm (by assumption))).trans ((hput_ne _ (by first | assumption | exact Ne.symm (by assumption))).trans (hput_eq _ _ _))) rfl rfl (Nat.le_of_ble_eq_true rfl) (by omega) (by omega) (fun Ex h1 p => by rw [← hQ]; exact j_out E htab ⟨p.2.1, Or.inr (Or.inl ⟨p.1, by unfold cdPre; rw [cI_f isj, cI_t p.2.2]⟩)⟩ (by omega) (by omega)) (fun r h2 p => ?_)
  obtain ⟨rfl, rfl, nop⟩ := p
  refine J.wide (k' := 2) (n' := 12) (by omega) (by omega) ?_
  have SR := R.sh hj
  have SR0 := SR
  obtain ⟨⟨hx, hy, S1, S2⟩, S3, S4⟩ := SR
  have hwj := hw.2.2 j hj
  have htl := hwj.2.2.2.2.2.2.2
  have S10 := S1
  unfold shF at S1
  have good : ¬ badC x → J X B D 5 Q h2 2 12 31 [(0, .ref c), (1, .int (nI j)), (2, .int x)] [] := by
    intro nb
    have hcd : cdPre ss (nI j) x = 0 := by unfold cdPre; rw [cI_f isj, cI_f nop, cI_f nb]
    refine j_aload_n E dX6_pre_31 rfl ?_
    refine j_getfield (ref := "ColourParts") (C := RX6) (T := TX6) (N := 6) (ci := 7) E 1 dX6_pre_32 iw_X6_pre_X6 rfl (by decide) (by decide +kernel) rfl (by first | with_reducible assumption | exact hput_eq _ _ _ | exact (hput_ne _ (by first | assumption | exact Ne.symm (by assumption))).trans (by assumption) | exact (hput_ne _ (by first | assumption | exact Ne.symm (by assumption))).trans (hput_eq _ _ _) | exact (hput_ne _ (by first | assumption | exact Ne.symm (by assumption))).trans ((hput_ne _ (by first | assumption | exact Ne.symm (by assumption))).trans (by assumption)) | exact (hput_ne _ (by first | assumption | exact Ne.symm (by assumption))).trans ((hput_ne _ (by first | assumption | exact Ne.symm (by assumption))).trans (hput_eq _ _ _))) rfl ?_
    refine j_iload_n E dX6_pre_35 rfl ?_
    refine j_callV (np := 1) (C := RJx4a65c) (T := TJx4a65c) (N := 3) (ci := 0) E (c_get v L (show j < (gs.map (·.1)).length by omega) (by omega)) gX6_pre_Jx4a65c_get_915e3 rfl ⟨rfl, by decide, by decide, by decide +kernel⟩ dX6_pre_36 (by omega) (by decide) rfl hl rfl rfl (Nat.le_of_ble_eq_true rfl) (by omega) (by omega) (fun r9 h9 p9 => J.pure p9 ?_)
    rw [R.el]
    refine J.wide (k' := 2) (n' := 12) (by omega) (by omega) ?_
    have join : ∀ p : Prop, (p ↔ ¬ tl (gS ss j) = x.toInt) → J X B D 5 Q h2 2 12 56 [(3, .ref (gG gs j).1), (0, .ref c), (1, .int (nI j)), (2, .int x)] [.int (bI p)] := by
      intro p hp
      rw [bI_c hp]
      refine j_istore E dX6_pre_56 (by decide) ?_
      refine j_aload_n E dX6_pre_58 rfl ?_
      refine j_iload_n E dX6_pre_59 rfl ?_
      refine j_putfield (ref := "ColourParts$Shape") (C := RX5) (T := TX5) (N := 9) (ci := 6) E 4 dX6_pre_60 iw_X6_pre_X5 tyX5 tyX5_ok nmX5 rfl (by decide) (by decide +kernel) rfl rfl rfl rfl S1 (Nat.le_of_ble_eq_true rfl) ?_
      refine j_iload E dX6_pre_63 rfl ?_
      refine J.wide (k' := 3) (n' := 18) (by omega) (by omega) ?_
      have fin := R.cell hj ((gS ss j).1, (gS ss j).2.1, (gS ss j).2.2.1, x.toInt) rfl rfl (fs := (shF (gS ss j) (gG gs j) (bS (nbits d ss j)) hx hy).set 4 (.int x)) (fun hx2 hy2 e => by
        obtain ⟨e1, e2⟩ := shF_inj (S10.symm.trans e)
        rw [e1, e2]
        exact shF_told _ _ _ _ _ _)
      rw [← hQ]
      exact j_x (j_iret E dX6_pre_65 rfl (nb_bI _) (by omega) (by omega) ⟨hcd, j, hj, rfl, rfl, fin.1, fin.2⟩)
    refine j_cast (C := RX5) (T := TX5) (N := 9) (ci := 6) E dX6_pre_39 (by decide +kernel) rfl S1 ?_
    refine j_astore_n E dX6_pre_42 (by decide) ?_
    refine j_aload_n E dX6_pre_43 rfl ?_
    refine j_getfield (ref := "ColourParts$Shape") (C := RX5) (T := TX5) (N := 9) (ci := 6) E 4 dX6_pre_44 iw_X6_pre_X5 rfl (by decide) (by decide +kernel) rfl S1 rfl ?_
    refine j_iload_n E dX6_pre_47 rfl ?_
    refine j_icmp_eq E (tgt := 55) dX6_pre_48 (by decide) (fun c1 => ?_) (fun c1 => ?_)
    ·
      refine j_iconst (x := nI 0) E dX6_pre_55 (by decide) ?_
      refine J.topi (x' := bI False) ((bI_f id).symm) ?_
      exact join False ⟨fun w => w.elim, fun w => w (by rw [← c1]; exact (iZ_toInt (by omega) (by omega)).symm)⟩
    ·
      refine j_iconst (x := nI 1) E dX6_pre_51 (by decide) ?_
      refine J.topi (x' := bI True) ((bI_t trivial).symm) ?_
      refine j_goto E (tgt := 56) dX6_pre_52 (by decide) ?_
      exact join True ⟨fun _ w => c1 (by rw [w]; exact iZ_of x), fun _ => trivial⟩
  refine j_iload_n E dX6_pre_9 rfl ?_
  refine j_iconst (x := (-1)) E dX6_pre_10 (by decide) ?_
  refine j_icmp_eq E (tgt := 31) dX6_pre_11 (by decide) (fun c1 => ?_) (fun c1 => ?_)
  · exact good (fun w => w.elim (fun w => by rw [c1] at w; exact absurd w (by decide)) (fun w => by rw [c1] at w; exact absurd w (by decide)))
  ·
    refine j_iload_n E dX6_pre_14 rfl ?_
    refine j_callS (np := 1) E (c_isNoColour v x) gX6_pre_X6_isNoColour rfl ⟨by decide, by decide, by decide +kernel⟩ dX6_pre_15 (by omega) (by decide) rfl rfl (Nat.le_of_ble_eq_true rfl) (by omega) (by omega) (fun r9 h9 p9 => J.pure p9 ?_)
    refine J.wide (k' := 2) (n' := 12) (by omega) (by omega) ?_
    refine j_if_eq E (tgt := 31) dX6_pre_18 (by decide) (fun c2 => ?_) (fun c2 => ?_)
    · have nb := bI_z.mp c2
      exact good (fun w => nb (w.elim (fun w => Or.inl (Int32.lt_trans w (by decide))) Or.inr))
    · have nb := bI_n.mp c2
      refine J.wide (k' := 2) (n' := 12) (by omega) (by omega) ?_
      rw [← hQ]
      exact j_throw (cls := "java/lang/IllegalArgumentException") (text := "no such colour") (ik := 88) (is := 162) (ic := 92) E htab dX6_pre_21 dX6_pre_24 dX6_pre_25 dX6_pre_27 dX6_pre_30 (by decide) (by decide +kernel) (by decide +kernel) (by decide) (by decide +kernel) (by decide +kernel) (by decide +kernel) (by omega) (Nat.le_of_ble_eq_true rfl) (by omega) (by omega) ⟨rfl, Or.inr (Or.inr ⟨rfl, by unfold cdPre; rw [cI_f isj, cI_f nop, cI_t (badC_of c1 nb)]⟩)⟩
end C8
