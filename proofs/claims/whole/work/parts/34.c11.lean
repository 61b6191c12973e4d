/-! the class: what a new box brings near -/
theorem ss_self {ss : List SH} {j : Nat} (hj : j < ss.length) : ss.set j (gS ss j) = ss := by
  unfold gS
  rw [List.getD_eq_getElem?_getD, List.getElem?_eq_getElem hj]
  exact List.set_getElem_self hj
def newN (d : Int) (ss : List SH) (j q : Nat) : Prop := anyB d (bxA (gS ss j) (nc (gS ss j) / 2 - 1)) (bxs (gS ss q))
def nrU (d : Int) (ss : List SH) (N : Nat → Nat → Prop) (j i : Nat) (p q : Nat) : Prop := N p q ∨ (p = j ∧ q ≠ j ∧ q < i ∧ newN d ss j q) ∨ (q = j ∧ p ≠ j ∧ p < i ∧ newN d ss j p)
theorem nrU_s {d : Int} {ss : List SH} {N : Nat → Nat → Prop} {j i p q : Nat} : nrU d ss N j (i + 1) p q ↔ nrU d ss N j i p q ∨ ((p = j ∧ q = i) ∨ (q = j ∧ p = i)) ∧ i ≠ j ∧ newN d ss j i := by
  unfold nrU
  constructor
  · rintro (w | ⟨w1, w2, w3, w4⟩ | ⟨w1, w2, w3, w4⟩)
    · exact Or.inl (Or.inl w)
    · by_cases e : q = i
      · subst e; exact Or.inr ⟨Or.inl ⟨w1, rfl⟩, w2, w4⟩
      · exact Or.inl (Or.inr (Or.inl ⟨w1, w2, by omega, w4⟩))
    · by_cases e : p = i
      · subst e; exact Or.inr ⟨Or.inr ⟨w1, rfl⟩, w2, w4⟩
      · exact Or.inl (Or.inr (Or.inr ⟨w1, w2, by omega, w4⟩))
  · rintro ((w | ⟨w1, w2, w3, w4⟩ | ⟨w1, w2, w3, w4⟩) | ⟨⟨w1, w2⟩ | ⟨w1, w2⟩, w3, w4⟩)
    · exact Or.inl w
    · exact Or.inr (Or.inl ⟨w1, w2, by omega, w4⟩)
    · exact Or.inr (Or.inr ⟨w1, w2, by omega, w4⟩)
    · exact Or.inr (Or.inl ⟨w1, by omega, by omega, by rw [w2]; exact w4⟩)
    · exact Or.inr (Or.inr ⟨w1, by omega, by omega, by rw [w2]; exact w4⟩)
theorem shF_near (a : SH) (g : SG) (nr nr1 : Int32) (hx hy : Int64) : (shF a g nr hx hy).set 5 (.int nr1) = shF a g nr1 hx hy := rfl
section C11
variable {l : Launch} {B E0 : Nat} {D : va_G} {h : HM} {T : Nat → Nat} {c : Nat} {d : Int} {ss : List SH} {N : Nat → Nat → Prop} {kp : Option KPs} {rg : List Nat} {cl : Prop} {gs : List SG} {la le ra : Nat} {kr : Value}
theorem CRN.lst (R : CRN E0 h T c d ss N kp rg cl gs la le ra kr) : AL E0 h la le (gs.map (·.1)) ∧ (gs.map (·.1)).length = ss.length ∧ ∃ z, h la = some (hO 0 z) := ⟨R.2.2.1, by rw [List.length_map]; exact R.2.2.2.1, R.2.2.1.ty.1⟩
theorem CRN.el (R : CRN E0 h T c d ss N kp rg cl gs la le ra kr) {j : Nat} (hj : j < (gs.map (·.1)).length) : (gs.map (·.1))[j] = (gG gs j).1 := by
  rw [List.getElem_map, gG_lt (by rw [List.length_map] at hj; exact hj)]
theorem CRN.sh (R : CRN E0 h T c d ss N kp rg cl gs la le ra kr) {j : Nat} (hj : j < ss.length) : shR E0 h (gS ss j) (bS (N j)) (gG gs j) := R.2.2.2.2.1 j hj
theorem CRN.same (R : CRN E0 h T c d ss N kp rg cl gs la le ra kr) {N1 : Nat → Nat → Prop} (hN : ∀ p q, p < ss.length → q < 12 → (N1 p q ↔ N p q)) : CRN E0 h T c d ss N1 kp rg cl gs la le ra kr := by
  obtain ⟨r0, r1, r2, r3, r4, r5⟩ := R
  exact ⟨r0, r1, r2, r3, fun j hj => by rw [bS_congr (fun q hq => hN j q hj hq)]; exact r4 j hj, r5⟩
theorem CRN.nr (R : CRN E0 h T c d ss N kp rg cl gs la le ra kr) {j : Nat} (hj : j < ss.length) (S : Nat → Prop) {fs : List Value} (hf : ∀ hx hy, h (gG gs j).1 = some (hO 6 (shF (gS ss j) (gG gs j) (bS (N j)) hx hy)) → fs = shF (gS ss j) (gG gs j) (bS S) hx hy) : CRN E0 (hput h (gG gs j).1 (hO 6 fs)) T c d ss (fun p => if p = j then S else N p) kp rg cl gs la le ra kr ∧ CF h T (hput h (gG gs j).1 (hO 6 fs)) T := by
  have tj := R.2.2.2.2.2.2.2.2.2.2.2 j hj
  have hjg : j < gs.length := by rw [R.2.2.2.1]; exact hj
  have sh1 := shR.put (a1 := gS ss j) (nr1 := bS S) (R.sh hj) rfl rfl hf
  obtain ⟨⟨hx, hy, S1, -⟩, -⟩ := R.sh hj
  have hRN := R.upd hj (T1 := T) (a1 := gS ss j) (N1 := fun p => if p = j then S else N p) (g1 := gG gs j) (h1 := hput h (gG gs j).1 (hO 6 fs)) (fun q h0 hq => hput_ne _ (fun e => by rw [e, tj.1] at hq; omega)) (fun _ _ => rfl) (hput_ne _ (fun e => by
    obtain ⟨f0, r0⟩ := R.1
    rw [e, S1] at r0
    cases r0)) rfl (by rw [if_pos rfl]; exact sh1) tj (fun i _ hi => by rw [if_neg hi])
  rw [gs_self hjg, ss_self hj] at hRN
  exact ⟨hRN, fun q q1 q2 => ⟨hput_ne _ (fun e => by rw [e, tj.1] at q2; omega), q2⟩⟩
theorem iw_X6_findNearOnes_X5 : ∀ w ∈ u_ws RX5 TX5 9, w ∈ wsX6_findNearOnes := by decide +kernel
theorem iw_X6_findNearOnes_X6 : ∀ w ∈ u_ws RX6 TX6 6, w ∈ wsX6_findNearOnes := by decide +kernel
theorem c_findNearOnes (v : Nat) (R : CRN E0 h T c d ss N kp rg cl gs la le ra kr) (hw : wfSS ss) (hd : 1 ≤ d ∧ d ≤ 65536) {j : Nat} (hj : j < ss.length) (hm : 0 < nc (gS ss j) / 2) : CM l B E0 D yX6_findNearOnes wsX6_findNearOnes (v + 5) 0 0 [.ref c, .int (nI j)] h (fun r h1 => r = none ∧ CRN E0 h1 T c d ss (nrU d ss N j ss.length) kp rg cl gs la le ra kr ∧ CF h T h1 T) := by
  have R1 := R.2.1
  obtain ⟨L, hL, zl, hl⟩ := R.lst
  have h10 := hw.1
  have SR := R.sh hj
  obtain ⟨⟨hx, hy, S1, -⟩, SL, -⟩ := SR
  have SL0 := SL
  obtain ⟨S3, S4, S5⟩ := SL
  rw [bxs_len] at S4
  have h8 := (hw.2.2 j hj).1
  obtain ⟨⟨zb, hb⟩, -⟩ := S3.ty
  unfold shF at S1
  have nE : (gG gs j).2.2.2.2 ≠ [] := fun z => by rw [z] at S4; have : 0 = nc (gS ss j) / 2 := S4; omega
  have hmi : nc (gS ss j) / 2 - 1 < (gG gs j).2.2.2.2.length := by omega
  have hnb := S5 _ hmi
  rw [bxs_get (show nc (gS ss j) / 2 - 1 < nc (gS ss j) / 2 by omega)] at hnb
  generalize hy0 : (gG gs j).2.2.2.2[nc (gS ss j) / 2 - 1] = y0 at hnb
  refine CM.of (cc := cX6_findNearOnes) (maxL := 6) (ret := none) (by decide) rfl (Nat.le_of_ble_eq_true rfl) (fun X E hin => ?_)
  show J X B D 6 _ h 0 0 0 [(0, .ref c), (1, .int (nI j))] []
  generalize hQ : jQ X B D _ _ _ = Q
  refine j_aload_n E dX6_findNearOnes_0 rfl ?_
  refine j_getfield (ref := "ColourParts") (C := RX6) (T := TX6) (N := 6) (ci := 7) E 1 dX6_findNearOnes_1 iw_X6_findNearOnes_X6 rfl (by decide) (by decide +kernel) rfl (by first | with_reducible assumption | exact hput_eq _ _ _ | exact (hput_ne _ (by first | assumption | exact Ne.symm (by assumption))).trans (by assumption) | exact (hput_ne _ (by first | assumption | exact Ne.symm (by assumption))).trans (hput_eq _ _ _) | exact (hput_ne _ (by first | assumption | exact Ne.symm (by assumption))).trans ((hput_ne _ (by first | assumption | exact Ne.symm (by assumption))).trans (by assumption)) | exact (hput_ne _ (by first | assumption | exact Ne.symm (by assumption))).trans ((hput_ne _ (by first | assumption | exact Ne.symm (by assumption))).trans (hput_eq _ _ _))) rfl ?_
  refine j_iload_n E dX6_findNearOnes_4 rfl ?_
  refine j_callV (np := 1) (C := RJx4a65c) (T := TJx4a65c) (N := 3) (ci := 0) E (c_get (v + 1) L (show j < (gs.map (·.1)).length by omega) (by omega)) gX6_findNearOnes_Jx4a65c_get_915e3 rfl ⟨rfl, by decide, by decide, by decide +kernel⟩ dX6_findNearOnes_5 (by omega) (by decide) rfl hl rfl rfl (Nat.le_of_ble_eq_true rfl) (by omega) (by omega) (fun r9 h9 p9 => J.pure p9 ?_)
  rw [R.el]
  refine J.wide (k' := 0) (n' := 0) (by omega) (by omega) ?_
  refine j_cast (C := RX5) (T := TX5) (N := 9) (ci := 6) E dX6_findNearOnes_8 (by decide +kernel) rfl S1 ?_
  refine j_astore_n E dX6_findNearOnes_11 (by decide) ?_
  refine j_aload_n E dX6_findNearOnes_12 rfl ?_
  refine j_getfield (ref := "ColourParts$Shape") (C := RX5) (T := TX5) (N := 9) (ci := 6) E 0 dX6_findNearOnes_13 iw_X6_findNearOnes_X5 rfl (by decide) (by decide +kernel) rfl S1 rfl ?_
  refine j_callV (np := 0) (C := RJx4a65c) (T := TJx4a65c) (N := 3) (ci := 0) E (c_isEmpty (v + 3) S3 (by omega)) gX6_findNearOnes_Jx4a65c_isEmpty_aae02 rfl ⟨rfl, by decide, by decide, by decide +kernel⟩ dX6_findNearOnes_16 (by omega) (by decide) rfl hb rfl rfl (Nat.le_of_ble_eq_true rfl) (by omega) (by omega) (fun r9 h9 p9 => J.pure p9 ?_)
  refine J.wide (k' := 0) (n' := 0) (by omega) (by omega) ?_
  rw [if_neg nE]
  refine j_if_eq E (tgt := 23) dX6_findNearOnes_19 (by decide) (fun c1 => ?_) (fun c1 => ?_)
  ·
    refine j_aload_n E dX6_findNearOnes_23 rfl ?_
    refine j_getfield (ref := "ColourParts$Shape") (C := RX5) (T := TX5) (N := 9) (ci := 6) E 0 dX6_findNearOnes_24 iw_X6_findNearOnes_X5 rfl (by decide) (by decide +kernel) rfl S1 rfl ?_
    refine j_aload_n E dX6_findNearOnes_27 rfl ?_
    refine j_getfield (ref := "ColourParts$Shape") (C := RX5) (T := TX5) (N := 9) (ci := 6) E 0 dX6_findNearOnes_28 iw_X6_findNearOnes_X5 rfl (by decide) (by decide +kernel) rfl S1 rfl ?_
    refine j_callV (np := 0) (C := RJx4a65c) (T := TJx4a65c) (N := 3) (ci := 0) E (c_size (v + 3) S3) gX6_findNearOnes_Jx4a65c_size_8abf5 rfl ⟨rfl, by decide, by decide, by decide +kernel⟩ dX6_findNearOnes_31 (by omega) (by decide) rfl hb rfl rfl (Nat.le_of_ble_eq_true rfl) (by omega) (by omega) (fun r9 h9 p9 => J.pure p9 ?_)
    refine J.wide (k' := 0) (n' := 0) (by omega) (by omega) ?_
    rw [S4]
    refine j_iconst (x := nI 1) E dX6_findNearOnes_34 (by decide) ?_
    refine j_isub E dX6_findNearOnes_35 ?_
    refine J.topi (x' := nI (nc (gS ss j) / 2 - 1)) (by obtain ⟨k, hk⟩ : ∃ k, nc (gS ss j) / 2 = k + 1 := ⟨nc (gS ss j) / 2 - 1, by omega⟩; rw [hk]; exact nI_pred k) ?_
    refine j_callV (np := 1) (C := RJx4a65c) (T := TJx4a65c) (N := 3) (ci := 0) E (c_get (v + 1) S3 hmi (by omega)) gX6_findNearOnes_Jx4a65c_get_915e3 rfl ⟨rfl, by decide, by decide, by decide +kernel⟩ dX6_findNearOnes_36 (by omega) (by decide) rfl hb rfl rfl (Nat.le_of_ble_eq_true rfl) (by omega) (by omega) (fun r9 h9 p9 => J.pure p9 ?_)
    refine J.wide (k' := 0) (n' := 0) (by omega) (by omega) ?_
    rw [hy0]
    refine j_cast (C := RX0) (T := TX0) (N := 4) (ci := 1) E dX6_findNearOnes_39 (by decide +kernel) rfl hnb ?_
    refine j_astore_n E dX6_findNearOnes_42 (by decide) ?_
    refine j_iconst (x := nI 0) E dX6_findNearOnes_43 (by decide) ?_
    refine j_istore E dX6_findNearOnes_44 (by decide) ?_
    have wb := bxA_wB (hw.2.2 j hj) (show nc (gS ss j) / 2 - 1 < nc (gS ss j) / 2 by omega)
    have key : ∀ (t i : Nat) (h1 : HM), i + t = ss.length → CRN E0 h1 T c d ss (nrU d ss N j i) kp rg cl gs la le ra kr → CF h T h1 T → h1 y0 = some (bxO (bxA (gS ss j) (nc (gS ss j) / 2 - 1))) → J X B D 6 Q h1 0 0 46 [(4, .int (nI i)), (3, .ref y0), (2, .ref (gG gs j).1), (0, .ref c), (1, .int (nI j))] [] := by
      intro t
      induction t with
      | zero =>
        intro i h1 hi R hF hnb
        have R1 := R.2.1
        obtain ⟨L, hL, zl, hl⟩ := R.lst
        refine j_iload E dX6_findNearOnes_46 rfl ?_
        refine j_aload_n E dX6_findNearOnes_48 rfl ?_
        refine j_getfield (ref := "ColourParts") (C := RX6) (T := TX6) (N := 6) (ci := 7) E 1 dX6_findNearOnes_49 iw_X6_findNearOnes_X6 rfl (by decide) (by decide +kernel) rfl (by first | with_reducible assumption | exact hput_eq _ _ _ | exact (hput_ne _ (by first | assumption | exact Ne.symm (by assumption))).trans (by assumption) | exact (hput_ne _ (by first | assumption | exact Ne.symm (by assumption))).trans (hput_eq _ _ _) | exact (hput_ne _ (by first | assumption | exact Ne.symm (by assumption))).trans ((hput_ne _ (by first | assumption | exact Ne.symm (by assumption))).trans (by assumption)) | exact (hput_ne _ (by first | assumption | exact Ne.symm (by assumption))).trans ((hput_ne _ (by first | assumption | exact Ne.symm (by assumption))).trans (hput_eq _ _ _))) rfl ?_
        refine j_callV (np := 0) (C := RJx4a65c) (T := TJx4a65c) (N := 3) (ci := 0) E (c_size (v + 3) L) gX6_findNearOnes_Jx4a65c_size_8abf5 rfl ⟨rfl, by decide, by decide, by decide +kernel⟩ dX6_findNearOnes_52 (by omega) (by decide) rfl hl rfl rfl (Nat.le_of_ble_eq_true rfl) (by omega) (by omega) (fun r9 h9 p9 => J.pure p9 ?_)
        rw [hL]
        refine J.wide (k' := 0) (n' := 0) (by omega) (by omega) ?_
        refine j_icmp_ge E (tgt := 126) dX6_findNearOnes_55 (by decide) (fun c2 => ?_) (fun c2 => ?_)
        ·
          rw [← hQ]
          exact j_vret E dX6_findNearOnes_126 rfl (by omega) (by omega) ⟨rfl, by rw [show ss.length = i by omega]; exact R, hF⟩
        · exact absurd (nI_le (show ss.length ≤ i by omega) (by omega)) c2
      | succ t ih =>
        intro i h1 hi R hF hnb
        have R1 := R.2.1
        obtain ⟨L, hL, zl, hl⟩ := R.lst
        have hil : i < ss.length := by omega
        have next : ∀ (h2 : HM), CRN E0 h2 T c d ss (nrU d ss N j (i + 1)) kp rg cl gs la le ra kr → CF h T h2 T → h2 y0 = some (bxO (bxA (gS ss j) (nc (gS ss j) / 2 - 1))) → J X B D 6 Q h2 0 0 120 [(4, .int (nI i)), (3, .ref y0), (2, .ref (gG gs j).1), (0, .ref c), (1, .int (nI j))] [] := by
          intro h2 R2 hF2 hnb2
          refine j_iinc E dX6_findNearOnes_120 rfl (nI_1 i) (by decide) ?_
          refine j_goto E (tgt := 46) dX6_findNearOnes_123 (by decide) ?_
          refine J.sub [(4, .int (nI (i + 1))), (3, .ref y0), (2, .ref (gG gs j).1), (0, .ref c), (1, .int (nI j))] ⟨rfl, rfl, rfl, rfl, rfl, trivial⟩ ?_
          exact ih (i + 1) h2 (by omega) R2 hF2 hnb2
        refine j_iload E dX6_findNearOnes_46 rfl ?_
        refine j_aload_n E dX6_findNearOnes_48 rfl ?_
        refine j_getfield (ref := "ColourParts") (C := RX6) (T := TX6) (N := 6) (ci := 7) E 1 dX6_findNearOnes_49 iw_X6_findNearOnes_X6 rfl (by decide) (by decide +kernel) rfl (by first | with_reducible assumption | exact hput_eq _ _ _ | exact (hput_ne _ (by first | assumption | exact Ne.symm (by assumption))).trans (by assumption) | exact (hput_ne _ (by first | assumption | exact Ne.symm (by assumption))).trans (hput_eq _ _ _) | exact (hput_ne _ (by first | assumption | exact Ne.symm (by assumption))).trans ((hput_ne _ (by first | assumption | exact Ne.symm (by assumption))).trans (by assumption)) | exact (hput_ne _ (by first | assumption | exact Ne.symm (by assumption))).trans ((hput_ne _ (by first | assumption | exact Ne.symm (by assumption))).trans (hput_eq _ _ _))) rfl ?_
        refine j_callV (np := 0) (C := RJx4a65c) (T := TJx4a65c) (N := 3) (ci := 0) E (c_size (v + 3) L) gX6_findNearOnes_Jx4a65c_size_8abf5 rfl ⟨rfl, by decide, by decide, by decide +kernel⟩ dX6_findNearOnes_52 (by omega) (by decide) rfl hl rfl rfl (Nat.le_of_ble_eq_true rfl) (by omega) (by omega) (fun r9 h9 p9 => J.pure p9 ?_)
        rw [hL]
        refine J.wide (k' := 0) (n' := 0) (by omega) (by omega) ?_
        refine j_icmp_ge E (tgt := 126) dX6_findNearOnes_55 (by decide) (fun c2 => ?_) (fun c2 => ?_)
        · exact absurd c2 (nI_ge hil (by omega))
        ·
          refine j_aload_n E dX6_findNearOnes_58 rfl ?_
          refine j_getfield (ref := "ColourParts") (C := RX6) (T := TX6) (N := 6) (ci := 7) E 1 dX6_findNearOnes_59 iw_X6_findNearOnes_X6 rfl (by decide) (by decide +kernel) rfl (by first | with_reducible assumption | exact hput_eq _ _ _ | exact (hput_ne _ (by first | assumption | exact Ne.symm (by assumption))).trans (by assumption) | exact (hput_ne _ (by first | assumption | exact Ne.symm (by assumption))).trans (hput_eq _ _ _) | exact (hput_ne _ (by first | assumption | exact Ne.symm (by assumption))).trans ((hput_ne _ (by first | assumption | exact Ne.symm (by assumption))).trans (by assumption)) | exact (hput_ne _ (by first | assumption | exact Ne.symm (by assumption))).trans ((hput_ne _ (by first | assumption | exact Ne.symm (by assumption))).trans (hput_eq _ _ _))) rfl ?_
          refine j_iload E dX6_findNearOnes_62 rfl ?_
          refine j_callV (np := 1) (C := RJx4a65c) (T := TJx4a65c) (N := 3) (ci := 0) E (c_get (v + 1) L (show i < (gs.map (·.1)).length by omega) (by omega)) gX6_findNearOnes_Jx4a65c_get_915e3 rfl ⟨rfl, by decide, by decide, by decide +kernel⟩ dX6_findNearOnes_64 (by omega) (by decide) rfl hl rfl rfl (Nat.le_of_ble_eq_true rfl) (by omega) (by omega) (fun r9 h9 p9 => J.pure p9 ?_)
          rw [R.el]
          refine J.wide (k' := 0) (n' := 0) (by omega) (by omega) ?_
          have SRi := R.sh hil
          obtain ⟨⟨hxi, hyi, I1, -⟩, IL, -⟩ := SRi
          have I10 := I1
          unfold shF at I1
          refine j_cast (C := RX5) (T := TX5) (N := 9) (ci := 6) E dX6_findNearOnes_67 (by decide +kernel) rfl I1 ?_
          refine j_astore E dX6_findNearOnes_70 (by decide) ?_
          refine j_iload E dX6_findNearOnes_72 rfl ?_
          refine j_iload_n E dX6_findNearOnes_74 rfl ?_
          refine j_icmp_eq E (tgt := 120) dX6_findNearOnes_75 (by decide) (fun c3 => ?_) (fun c3 => ?_)
          · have e := (nI_eq (show i < 2 ^ 31 by omega) (by omega)).mp c3
            refine J.sub [(4, .int (nI i)), (3, .ref y0), (2, .ref (gG gs j).1), (0, .ref c), (1, .int (nI j))] ⟨rfl, rfl, rfl, rfl, rfl, trivial⟩ ?_
            refine next h1 (R.same (fun p q hp _ => ?_)) hF hnb
            rw [nrU_s]
            exact ⟨fun w => w.elim id (fun w => absurd e w.2.1), Or.inl⟩
          · have e : i ≠ j := fun z => c3 (by rw [z])
            refine j_aload_n E dX6_findNearOnes_78 rfl ?_
            refine j_aload E dX6_findNearOnes_79 rfl ?_
            refine j_getfield (ref := "ColourParts$Shape") (C := RX5) (T := TX5) (N := 9) (ci := 6) E 0 dX6_findNearOnes_81 iw_X6_findNearOnes_X5 rfl (by decide) (by decide +kernel) rfl I1 rfl ?_
            refine j_aload_n E dX6_findNearOnes_84 rfl ?_
            refine j_getfield (ref := "ColourParts") (C := RX6) (T := TX6) (N := 6) (ci := 7) E 0 dX6_findNearOnes_85 iw_X6_findNearOnes_X6 rfl (by decide) (by decide +kernel) rfl (by first | with_reducible assumption | exact hput_eq _ _ _ | exact (hput_ne _ (by first | assumption | exact Ne.symm (by assumption))).trans (by assumption) | exact (hput_ne _ (by first | assumption | exact Ne.symm (by assumption))).trans (hput_eq _ _ _) | exact (hput_ne _ (by first | assumption | exact Ne.symm (by assumption))).trans ((hput_ne _ (by first | assumption | exact Ne.symm (by assumption))).trans (by assumption)) | exact (hput_ne _ (by first | assumption | exact Ne.symm (by assumption))).trans ((hput_ne _ (by first | assumption | exact Ne.symm (by assumption))).trans (hput_eq _ _ _))) rfl ?_
            refine j_callV (np := 2) (C := RX0) (T := TX0) (N := 4) (ci := 1) E (c_isNearAny v hd hnb IL wb (bxs_wB (hw.2.2 i hil)) (by rw [bxs_len]; have := (hw.2.2 i hil).1; omega)) gX6_findNearOnes_X0_isNearAny rfl ⟨rfl, by decide, by decide, by decide +kernel⟩ dX6_findNearOnes_88 (by omega) (by decide) rfl hnb rfl rfl (Nat.le_of_ble_eq_true rfl) (by omega) (by omega) (fun r9 h9 p9 => J.pure p9 ?_)
            refine J.wide (k' := 0) (n' := 0) (by omega) (by omega) ?_
            refine j_if_eq E (tgt := 120) dX6_findNearOnes_91 (by decide) (fun c4 => ?_) (fun c4 => ?_)
            · have no : ¬ newN d ss j i := bI_z.mp c4
              refine J.sub [(4, .int (nI i)), (3, .ref y0), (2, .ref (gG gs j).1), (0, .ref c), (1, .int (nI j))] ⟨rfl, rfl, rfl, rfl, rfl, trivial⟩ ?_
              refine next h1 (R.same (fun p q hp _ => ?_)) hF hnb
              rw [nrU_s]
              exact ⟨fun w => w.elim id (fun w => absurd w.2.2 no), Or.inl⟩
            · have yes : newN d ss j i := bI_n.mp c4
              obtain ⟨⟨hxj, hyj, J1, -⟩, -⟩ := R.sh hj
              have J10 := J1
              unfold shF at J1
              obtain ⟨R2, F2⟩ := R.nr hj (fun q => nrU d ss N j i j q ∨ q = i) (fs := (shF (gS ss j) (gG gs j) (bS (nrU d ss N j i j)) hxj hyj).set 5 (.int (bS (fun q => nrU d ss N j i j q ∨ q = i)))) (fun hx2 hy2 e => by
                obtain ⟨e1, e2⟩ := shF_inj (J10.symm.trans e)
                rw [e1, e2]
                exact shF_near _ _ _ _ _ _)
              have hnb2 : hput h1 (gG gs j).1 (hO 6 ((shF (gS ss j) (gG gs j) (bS (nrU d ss N j i j)) hxj hyj).set 5 (.int (bS (fun q => nrU d ss N j i j q ∨ q = i))))) y0 = some (bxO (bxA (gS ss j) (nc (gS ss j) / 2 - 1))) := (hput_ne _ (hm_ne hnb J10 (by intro z; cases z))).trans hnb
              unfold shF at R2 F2 hnb2
              refine j_aload_n E dX6_findNearOnes_94 rfl ?_
              refine j_dup E dX6_findNearOnes_95 rfl ?_
              refine j_getfield (ref := "ColourParts$Shape") (C := RX5) (T := TX5) (N := 9) (ci := 6) E 5 dX6_findNearOnes_96 iw_X6_findNearOnes_X5 rfl (by decide) (by decide +kernel) rfl J1 rfl ?_
              refine j_iconst (x := nI 1) E dX6_findNearOnes_99 (by decide) ?_
              refine j_iload E dX6_findNearOnes_100 rfl ?_
              refine j_ishl E dX6_findNearOnes_102 ?_
              refine j_ior E dX6_findNearOnes_103 ?_
              refine J.topi (x' := bS (fun q => nrU d ss N j i j q ∨ q = i)) (bS_add _ (by omega)) ?_
              refine j_putfield (ref := "ColourParts$Shape") (C := RX5) (T := TX5) (N := 9) (ci := 6) E 5 dX6_findNearOnes_104 iw_X6_findNearOnes_X5 tyX5 tyX5_ok nmX5 rfl (by decide) (by decide +kernel) rfl rfl rfl rfl J1 (Nat.le_of_ble_eq_true rfl) ?_
              generalize hput h1 (gG gs j).1 _ = h2 at R2 F2 hnb2 ⊢
              obtain ⟨⟨hxi2, hyi2, K1, -⟩, -⟩ := R2.sh hil
              rw [if_neg e] at K1
              have K10 := K1
              unfold shF at K1
              obtain ⟨R3, F3⟩ := R2.nr hil (fun q => nrU d ss N j i i q ∨ q = j) (fs := (shF (gS ss i) (gG gs i) (bS (nrU d ss N j i i)) hxi2 hyi2).set 5 (.int (bS (fun q => nrU d ss N j i i q ∨ q = j)))) (fun hx2 hy2 e => by
                rw [if_neg ‹i ≠ j›] at e
                obtain ⟨e1, e2⟩ := shF_inj (K10.symm.trans e)
                rw [e1, e2]
                exact shF_near _ _ _ _ _ _)
              have hnb3 : hput h2 (gG gs i).1 (hO 6 ((shF (gS ss i) (gG gs i) (bS (nrU d ss N j i i)) hxi2 hyi2).set 5 (.int (bS (fun q => nrU d ss N j i i q ∨ q = j))))) y0 = some (bxO (bxA (gS ss j) (nc (gS ss j) / 2 - 1))) := (hput_ne _ (hm_ne hnb2 K10 (by intro z; cases z))).trans hnb2
              unfold shF at R3 F3 hnb3
              refine j_aload E dX6_findNearOnes_107 rfl ?_
              refine j_dup E dX6_findNearOnes_109 rfl ?_
              refine j_getfield (ref := "ColourParts$Shape") (C := RX5) (T := TX5) (N := 9) (ci := 6) E 5 dX6_findNearOnes_110 iw_X6_findNearOnes_X5 rfl (by decide) (by decide +kernel) rfl K1 rfl ?_
              refine j_iconst (x := nI 1) E dX6_findNearOnes_113 (by decide) ?_
              refine j_iload_n E dX6_findNearOnes_114 rfl ?_
              refine j_ishl E dX6_findNearOnes_115 ?_
              refine j_ior E dX6_findNearOnes_116 ?_
              refine J.topi (x' := bS (fun q => nrU d ss N j i i q ∨ q = j)) (bS_add _ (by omega)) ?_
              refine j_putfield (ref := "ColourParts$Shape") (C := RX5) (T := TX5) (N := 9) (ci := 6) E 5 dX6_findNearOnes_117 iw_X6_findNearOnes_X5 tyX5 tyX5_ok nmX5 rfl (by decide) (by decide +kernel) rfl rfl rfl rfl K1 (Nat.le_of_ble_eq_true rfl) ?_
              generalize hput h2 (gG gs i).1 _ = h3 at R3 F3 hnb3 ⊢
              refine J.sub [(4, .int (nI i)), (3, .ref y0), (2, .ref (gG gs j).1), (0, .ref c), (1, .int (nI j))] ⟨rfl, rfl, rfl, rfl, rfl, trivial⟩ ?_
              refine next h3 (R3.same (fun p q hp _ => ?_)) ((hF.tr F2).tr F3) hnb3
              rw [nrU_s]
              by_cases ep : p = i
              · subst ep
                rw [if_pos rfl]
                exact ⟨fun w => w.imp id (fun w => w.1.elim (fun w => absurd w.1 e) And.left), fun w => w.imp id (fun w => ⟨Or.inr ⟨w, rfl⟩, e, yes⟩)⟩
              · rw [if_neg ep]
                by_cases ej : p = j
                · subst ej
                  rw [if_pos rfl]
                  exact ⟨fun w => w.imp id (fun w => w.1.elim And.right (fun w => absurd w.2 ep)), fun w => w.imp id (fun w => ⟨Or.inl ⟨rfl, w⟩, e, yes⟩)⟩
                · rw [if_neg ej]
                  exact ⟨fun w => w.elim id (fun w => w.1.elim (fun w => absurd w.1 ej) (fun w => absurd w.2 ep)), Or.inl⟩
    refine J.sub [(4, .int (nI 0)), (3, .ref y0), (2, .ref (gG gs j).1), (0, .ref c), (1, .int (nI j))] ⟨rfl, rfl, rfl, rfl, rfl, trivial⟩ ?_
    refine key ss.length 0 h (by omega) (R.same (fun p q _ _ => ?_)) (fun q _ q2 => ⟨rfl, q2⟩) hnb
    unfold nrU
    exact ⟨fun w => w.elim id (fun w => w.elim (fun w => absurd w.2.2.1 (Nat.not_lt_zero _)) (fun w => absurd w.2.2.1 (Nat.not_lt_zero _))), Or.inl⟩
  · exact absurd rfl c1
end C11
