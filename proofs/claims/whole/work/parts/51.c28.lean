/-! findBest() -/
section C28
theorem SR.hold {h : HM} {sr many n few : Nat} {q : Nat → Nat} {NN HH H1 : Nat → Nat → Prop} {t : Nat → Int} {af : Nat → Prop} {w b : Nat → Int32} (R : SR h sr q many n few NN t af HH w b) (e : ∀ c i, c < 4 → i < 12 → (H1 c i ↔ HH c i)) : SR h sr q many n few NN t af H1 w b := by
  obtain ⟨R1, R2, R3, R4, ⟨f5, F5, G5⟩, R6⟩ := R
  exact ⟨R1, R2, R3, R4, ⟨f5, F5, fun c hc => (G5 c hc).trans (bS_congr (fun i hi => (e c i hc hi).symm))⟩, R6⟩
variable {l : Launch} {B E0 : Nat} {D : va_G} {h : HM} {sr many n : Nat} {q : Nat → Nat} {NN : Nat → Nat → Prop} {t : Nat → Int} {o : Nat → Nat} {w b : Nat → Int32}
def tdH (t : Nat → Int) (many p : Nat) (c i : Nat) : Prop := c < many ∧ i < p ∧ t i = (c : Int)
def tdM (t : Nat → Int) (many p : Nat) (c : Nat) : Prop := c < many ∧ ∃ i, i < p ∧ t i = (c : Int)
theorem iw_X4_findBest_X4 : ∀ w ∈ u_ws RX4 TX4 9, w ∈ wsX4_findBest := by decide +kernel
theorem c_findBest (v : Nat) (hs : ∀ i j, i < n → j < n → NN i j → NN j i) (hi : ∀ i, ¬ NN i i) (hb : ∀ i j, NN i j → j < n) (R : SR h sr q many n 12 NN t (afO o) (tdH t many 0) w b) : CM l B E0 D yX4_findBest wsX4_findBest (v + 4 + 2 * n) 0 0 [.ref sr] h (fun r h1 => r = none ∧ ∃ few1 w1 b1 HH1, SR h1 sr q many n few1 NN t (afO o) HH1 w1 b1 ∧ Bst n o (PV many n t NN) 12 b few1 b1 ∧ frS h h1 sr q) := by
  have n12 : n ≤ 12 := R.2.2.2.2.2.2.2.2.2.1
  have m4 : many ≤ 4 := R.2.2.2.2.2.2.2.2.1
  refine CM.of (cc := cX4_findBest) (maxL := 3) (ret := none) (by decide) rfl (Nat.le_of_ble_eq_true rfl) (fun X E hin => ?_)
  show J X B D 3 _ h 0 0 0 [(0, .ref sr)] []
  generalize hQ : jQ X B D _ _ _ = Q
  have loop : ∀ (u p : Nat) (h1 : HM), p + u = n → SR h1 sr q many n 12 NN t (afO o) (tdH t many p) w b → frS h h1 sr q → J X B D 3 Q h1 0 0 4 [(2, .int (nI p)), (1, .int (bS (tdM t many p))), (0, .ref sr)] [] := by
    intro u
    induction u with
    | zero =>
      intro p h1 hp R hF
      have R1 := R.1
      have en : p = n := by omega
      subst en
      refine j_iload_n E dX4_findBest_4 rfl ?_
      refine j_aload_n E dX4_findBest_5 rfl ?_
      refine j_getfield (ref := "ColourParts$Search") (C := RX4) (T := TX4) (N := 9) (ci := 5) E 1 dX4_findBest_6 iw_X4_findBest_X4 rfl (by decide) (by decide +kernel) rfl (by first | with_reducible assumption | exact hput_eq _ _ _ | exact (hput_ne _ (by first | assumption | exact Ne.symm (by assumption))).trans (by assumption) | exact (hput_ne _ (by first | assumption | exact Ne.symm (by assumption))).trans (hput_eq _ _ _) | exact (hput_ne _ (by first | assumption | exact Ne.symm (by assumption))).trans ((hput_ne _ (by first | assumption | exact Ne.symm (by assumption))).trans (by assumption)) | exact (hput_ne _ (by first | assumption | exact Ne.symm (by assumption))).trans ((hput_ne _ (by first | assumption | exact Ne.symm (by assumption))).trans (hput_eq _ _ _))) rfl ?_
      refine j_icmp_ge E (tgt := 68) dX4_findBest_9 (by decide) (fun c1 => ?_) (fun c1 => ?_)
      ·
        refine j_aload_n E dX4_findBest_68 rfl ?_
        refine j_iconst (x := nI 0) E dX4_findBest_69 (by decide) ?_
        refine j_iconst (x := nI 0) E dX4_findBest_70 (by decide) ?_
        refine j_iload_n E dX4_findBest_71 rfl ?_
        refine j_callV (np := 3) (C := RX4) (T := TX4) (N := 9) (ci := 5) E (goAll v hs hi hb p 0 (by omega) h1 12 (tdH t many p) (fun _ => 0) w b (tdM t many p) R (fun i hi => absurd hi (Nat.not_lt_zero _)) (fun c hc i hi => ⟨fun z => Or.inl z.2, fun z => z.elim (fun z => ⟨hc, z⟩) (fun z => absurd z.1 (Nat.not_lt_zero _))⟩) (fun c hc => ⟨fun z => Or.inl z.2, fun z => z.elim (fun z => ⟨hc, z⟩) (fun z => z.elim (fun i hi => absurd hi.1 (Nat.not_lt_zero _)))⟩) (fun k hk => absurd hk (Nat.not_lt_zero _))) gX4_findBest_X4_goOn rfl ⟨rfl, by decide, by decide, by decide +kernel⟩ dX4_findBest_72 (by omega) (by decide) rfl R1 rfl rfl (Nat.le_of_ble_eq_true rfl) (by omega) (by omega) (fun r h2 p2 => ?_)
        obtain ⟨rfl, few1, w1, b1, R2, -, g2, g3⟩ := p2
        refine J.wide (k' := 0) (n' := 0) (by omega) (by omega) ?_
        rw [← hQ]
        exact j_vret E dX4_findBest_75 rfl (by omega) (by omega) ⟨rfl, few1, w1, b1, _, R2, g2.congr (fun V => ⟨And.right, fun z => ⟨fun i hi => absurd hi (Nat.not_lt_zero _), z⟩⟩), fun y y1 y2 y3 y4 => (g3 y y1 y2 y3 y4).trans (hF y y1 y2 y3 y4)⟩
      · exact absurd (Int32.le_refl _) c1
    | succ u ih =>
      intro p h1 hp R hF
      have R0 := R
      have hne := R.ne
      obtain ⟨R1, -, ⟨f3, F3, G3⟩, -, ⟨f5, F5, G5⟩, -, -, -, -, -, -, ht⟩ := R
      have hpn : p < n := by omega
      have htp := ht p hpn
      have next : ∀ (h2 : HM), SR h2 sr q many n 12 NN t (afO o) (tdH t many (p + 1)) w b → frS h h2 sr q → J X B D 3 Q h2 0 0 62 [(2, .int (nI p)), (1, .int (bS (tdM t many (p + 1)))), (0, .ref sr)] [] := by
        intro h2 R2 hF2
        refine j_iinc E dX4_findBest_62 rfl (nI_1 p) (by decide) ?_
        refine j_goto E (tgt := 4) dX4_findBest_65 (by decide) ?_
        refine J.sub [(2, .int (nI (p + 1))), (1, .int (bS (tdM t many (p + 1)))), (0, .ref sr)] ⟨rfl, rfl, rfl, trivial⟩ ?_
        exact ih (p + 1) h2 (by omega) R2 hF2
      have idle : ¬ (0 ≤ t p ∧ t p < many) → J X B D 3 Q h1 0 0 62 [(2, .int (nI p)), (1, .int (bS (tdM t many p))), (0, .ref sr)] [] := by
        intro hno
        have eM : bS (tdM t many p) = bS (tdM t many (p + 1)) := bS_congr (fun c _ => and_congr_right (fun hc => ⟨fun ⟨i, h1, h2⟩ => ⟨i, by omega, h2⟩, fun ⟨i, h1, h2⟩ => ⟨i, by
          have : i ≠ p := fun e => by rw [e] at h2; exact hno (by omega)
          omega, h2⟩⟩))
        rw [eM]
        refine next h1 (R0.hold (fun c i _ _ => ⟨fun z => ⟨z.1, by
          have : i ≠ p := fun e => by rw [e] at z; exact hno (by have := z.2.2; have := z.1; omega)
          have := z.2.1
          omega, z.2.2⟩, fun z => ⟨z.1, by have := z.2.1; omega, z.2.2⟩⟩)) hF
      refine j_iload_n E dX4_findBest_4 rfl ?_
      refine j_aload_n E dX4_findBest_5 rfl ?_
      refine j_getfield (ref := "ColourParts$Search") (C := RX4) (T := TX4) (N := 9) (ci := 5) E 1 dX4_findBest_6 iw_X4_findBest_X4 rfl (by decide) (by decide +kernel) rfl (by first | with_reducible assumption | exact hput_eq _ _ _ | exact (hput_ne _ (by first | assumption | exact Ne.symm (by assumption))).trans (by assumption) | exact (hput_ne _ (by first | assumption | exact Ne.symm (by assumption))).trans (hput_eq _ _ _) | exact (hput_ne _ (by first | assumption | exact Ne.symm (by assumption))).trans ((hput_ne _ (by first | assumption | exact Ne.symm (by assumption))).trans (by assumption)) | exact (hput_ne _ (by first | assumption | exact Ne.symm (by assumption))).trans ((hput_ne _ (by first | assumption | exact Ne.symm (by assumption))).trans (hput_eq _ _ _))) rfl ?_
      refine j_icmp_ge E (tgt := 68) dX4_findBest_9 (by decide) (fun c1 => ?_) (fun c1 => ?_)
      · exact absurd c1 (nI_ge hpn (by omega))
      ·
        refine j_aload_n E dX4_findBest_12 rfl ?_
        refine j_getfield (ref := "ColourParts$Search") (C := RX4) (T := TX4) (N := 9) (ci := 5) E 3 dX4_findBest_13 iw_X4_findBest_X4 rfl (by decide) (by decide +kernel) rfl (by first | with_reducible assumption | exact hput_eq _ _ _ | exact (hput_ne _ (by first | assumption | exact Ne.symm (by assumption))).trans (by assumption) | exact (hput_ne _ (by first | assumption | exact Ne.symm (by assumption))).trans (hput_eq _ _ _) | exact (hput_ne _ (by first | assumption | exact Ne.symm (by assumption))).trans ((hput_ne _ (by first | assumption | exact Ne.symm (by assumption))).trans (by assumption)) | exact (hput_ne _ (by first | assumption | exact Ne.symm (by assumption))).trans ((hput_ne _ (by first | assumption | exact Ne.symm (by assumption))).trans (hput_eq _ _ _))) rfl ?_
        refine j_iload_n E dX4_findBest_16 rfl ?_
        refine j_iaload E p dX4_findBest_17 (by first | with_reducible assumption | exact hput_eq _ _ _ | exact (hput_ne _ (by first | assumption | exact Ne.symm (by assumption))).trans (by assumption) | exact (hput_ne _ (by first | assumption | exact Ne.symm (by assumption))).trans (hput_eq _ _ _) | exact (hput_ne _ (by first | assumption | exact Ne.symm (by assumption))).trans ((hput_ne _ (by first | assumption | exact Ne.symm (by assumption))).trans (by assumption)) | exact (hput_ne _ (by first | assumption | exact Ne.symm (by assumption))).trans ((hput_ne _ (by first | assumption | exact Ne.symm (by assumption))).trans (hput_eq _ _ _))) rfl (by omega) (by omega) ?_
        refine J.topi (x' := iZ (t p)) (G3 p hpn) ?_
        refine j_if_lt E (tgt := 62) dX4_findBest_18 (by decide) (fun c2 => ?_) (fun c2 => ?_)
        · refine idle (fun z => ?_)
          rw [Int32.lt_iff_toInt_lt, iZ_toInt (by omega) (by omega)] at c2
          have : (0 : Int32).toInt = 0 := by decide
          omega
        · have t0 : 0 ≤ t p := by
            rw [Int32.lt_iff_toInt_lt, iZ_toInt (by omega) (by omega)] at c2
            have : (0 : Int32).toInt = 0 := by decide
            omega
          obtain ⟨c, hc⟩ : ∃ c : Nat, t p = (c : Int) := ⟨(t p).toNat, by omega⟩
          have e3 : f3 p = nI c := (G3 p hpn).trans (by rw [hc]; rfl)
          refine j_aload_n E dX4_findBest_21 rfl ?_
          refine j_getfield (ref := "ColourParts$Search") (C := RX4) (T := TX4) (N := 9) (ci := 5) E 3 dX4_findBest_22 iw_X4_findBest_X4 rfl (by decide) (by decide +kernel) rfl (by first | with_reducible assumption | exact hput_eq _ _ _ | exact (hput_ne _ (by first | assumption | exact Ne.symm (by assumption))).trans (by assumption) | exact (hput_ne _ (by first | assumption | exact Ne.symm (by assumption))).trans (hput_eq _ _ _) | exact (hput_ne _ (by first | assumption | exact Ne.symm (by assumption))).trans ((hput_ne _ (by first | assumption | exact Ne.symm (by assumption))).trans (by assumption)) | exact (hput_ne _ (by first | assumption | exact Ne.symm (by assumption))).trans ((hput_ne _ (by first | assumption | exact Ne.symm (by assumption))).trans (hput_eq _ _ _))) rfl ?_
          refine j_iload_n E dX4_findBest_25 rfl ?_
          refine j_iaload E p dX4_findBest_26 (by first | with_reducible assumption | exact hput_eq _ _ _ | exact (hput_ne _ (by first | assumption | exact Ne.symm (by assumption))).trans (by assumption) | exact (hput_ne _ (by first | assumption | exact Ne.symm (by assumption))).trans (hput_eq _ _ _) | exact (hput_ne _ (by first | assumption | exact Ne.symm (by assumption))).trans ((hput_ne _ (by first | assumption | exact Ne.symm (by assumption))).trans (by assumption)) | exact (hput_ne _ (by first | assumption | exact Ne.symm (by assumption))).trans ((hput_ne _ (by first | assumption | exact Ne.symm (by assumption))).trans (hput_eq _ _ _))) rfl (by omega) (by omega) ?_
          refine J.topi (x' := nI c) (e3) ?_
          refine j_aload_n E dX4_findBest_27 rfl ?_
          refine j_getfield (ref := "ColourParts$Search") (C := RX4) (T := TX4) (N := 9) (ci := 5) E 0 dX4_findBest_28 iw_X4_findBest_X4 rfl (by decide) (by decide +kernel) rfl (by first | with_reducible assumption | exact hput_eq _ _ _ | exact (hput_ne _ (by first | assumption | exact Ne.symm (by assumption))).trans (by assumption) | exact (hput_ne _ (by first | assumption | exact Ne.symm (by assumption))).trans (hput_eq _ _ _) | exact (hput_ne _ (by first | assumption | exact Ne.symm (by assumption))).trans ((hput_ne _ (by first | assumption | exact Ne.symm (by assumption))).trans (by assumption)) | exact (hput_ne _ (by first | assumption | exact Ne.symm (by assumption))).trans ((hput_ne _ (by first | assumption | exact Ne.symm (by assumption))).trans (hput_eq _ _ _))) rfl ?_
          refine j_icmp_ge E (tgt := 62) dX4_findBest_31 (by decide) (fun c3 => ?_) (fun c3 => ?_)
          · exact idle (fun z => nI_nlt (Nat.le_refl _) (by omega) (Int32.lt_of_lt_of_le (nI_lt (show c < many by omega) (by omega)) c3))
          · have hcm : c < many := Nat.not_le.mp (fun z => c3 (nI_le z (by omega)))
            have R5 := R0.setHold (tdH t many (p + 1)) (f := upd f5 c (bS (fun i => tdH t many p c i ∨ i = p))) (fun c2 h2 => by
              by_cases e : c2 = c
              · rw [e, upd_eq]
                exact bS_congr (fun i _ => ⟨fun z => z.elim (fun z => ⟨z.1, by have := z.2.1; omega, z.2.2⟩) (fun z => ⟨hcm, by omega, by rw [z]; exact hc⟩), fun z => by
                  by_cases ei : i = p
                  · exact Or.inr ei
                  · exact Or.inl ⟨z.1, by have := z.2.1; omega, z.2.2⟩⟩)
              · rw [upd_ne e, G5 c2 h2]
                exact bS_congr (fun i _ => ⟨fun z => ⟨z.1, by have := z.2.1; omega, z.2.2⟩, fun z => ⟨z.1, by
                  have : i ≠ p := fun ei => by
                    have h3 := z.2.2
                    rw [ei, hc] at h3
                    exact e (by omega)
                  have := z.2.1
                  omega, z.2.2⟩⟩))
            have K5 : ∀ y, y ≠ q 5 → hput h1 (q 5) (hI 4 (upd f5 c (bS (fun i => tdH t many p c i ∨ i = p)))) y = h1 y := fun y hy => hput_ne _ hy
            refine j_aload_n E dX4_findBest_34 rfl ?_
            refine j_getfield (ref := "ColourParts$Search") (C := RX4) (T := TX4) (N := 9) (ci := 5) E 5 dX4_findBest_35 iw_X4_findBest_X4 rfl (by decide) (by decide +kernel) rfl (by first | with_reducible assumption | exact hput_eq _ _ _ | exact (hput_ne _ (by first | assumption | exact Ne.symm (by assumption))).trans (by assumption) | exact (hput_ne _ (by first | assumption | exact Ne.symm (by assumption))).trans (hput_eq _ _ _) | exact (hput_ne _ (by first | assumption | exact Ne.symm (by assumption))).trans ((hput_ne _ (by first | assumption | exact Ne.symm (by assumption))).trans (by assumption)) | exact (hput_ne _ (by first | assumption | exact Ne.symm (by assumption))).trans ((hput_ne _ (by first | assumption | exact Ne.symm (by assumption))).trans (hput_eq _ _ _))) rfl ?_
            refine j_aload_n E dX4_findBest_38 rfl ?_
            refine j_getfield (ref := "ColourParts$Search") (C := RX4) (T := TX4) (N := 9) (ci := 5) E 3 dX4_findBest_39 iw_X4_findBest_X4 rfl (by decide) (by decide +kernel) rfl (by first | with_reducible assumption | exact hput_eq _ _ _ | exact (hput_ne _ (by first | assumption | exact Ne.symm (by assumption))).trans (by assumption) | exact (hput_ne _ (by first | assumption | exact Ne.symm (by assumption))).trans (hput_eq _ _ _) | exact (hput_ne _ (by first | assumption | exact Ne.symm (by assumption))).trans ((hput_ne _ (by first | assumption | exact Ne.symm (by assumption))).trans (by assumption)) | exact (hput_ne _ (by first | assumption | exact Ne.symm (by assumption))).trans ((hput_ne _ (by first | assumption | exact Ne.symm (by assumption))).trans (hput_eq _ _ _))) rfl ?_
            refine j_iload_n E dX4_findBest_42 rfl ?_
            refine j_iaload E p dX4_findBest_43 (by first | with_reducible assumption | exact hput_eq _ _ _ | exact (hput_ne _ (by first | assumption | exact Ne.symm (by assumption))).trans (by assumption) | exact (hput_ne _ (by first | assumption | exact Ne.symm (by assumption))).trans (hput_eq _ _ _) | exact (hput_ne _ (by first | assumption | exact Ne.symm (by assumption))).trans ((hput_ne _ (by first | assumption | exact Ne.symm (by assumption))).trans (by assumption)) | exact (hput_ne _ (by first | assumption | exact Ne.symm (by assumption))).trans ((hput_ne _ (by first | assumption | exact Ne.symm (by assumption))).trans (hput_eq _ _ _))) rfl (by omega) (by omega) ?_
            refine J.topi (x' := nI c) (e3) ?_
            refine j_dup2 E dX4_findBest_44 rfl rfl ?_
            refine j_iaload E c dX4_findBest_45 (by first | with_reducible assumption | exact hput_eq _ _ _ | exact (hput_ne _ (by first | assumption | exact Ne.symm (by assumption))).trans (by assumption) | exact (hput_ne _ (by first | assumption | exact Ne.symm (by assumption))).trans (hput_eq _ _ _) | exact (hput_ne _ (by first | assumption | exact Ne.symm (by assumption))).trans ((hput_ne _ (by first | assumption | exact Ne.symm (by assumption))).trans (by assumption)) | exact (hput_ne _ (by first | assumption | exact Ne.symm (by assumption))).trans ((hput_ne _ (by first | assumption | exact Ne.symm (by assumption))).trans (hput_eq _ _ _))) rfl (by omega) (by omega) ?_
            refine J.topi (x' := bS (tdH t many p c)) (G5 c (by omega)) ?_
            refine j_iconst (x := nI 1) E dX4_findBest_46 (by decide) ?_
            refine j_iload_n E dX4_findBest_47 rfl ?_
            refine j_ishl E dX4_findBest_48 ?_
            refine j_ior E dX4_findBest_49 ?_
            refine J.topi (x' := bS (fun i => tdH t many p c i ∨ i = p)) (bS_add _ (by omega)) ?_
            refine j_iastore E c dX4_findBest_50 (by first | with_reducible assumption | exact hput_eq _ _ _ | exact (hput_ne _ (by first | assumption | exact Ne.symm (by assumption))).trans (by assumption) | exact (hput_ne _ (by first | assumption | exact Ne.symm (by assumption))).trans (hput_eq _ _ _) | exact (hput_ne _ (by first | assumption | exact Ne.symm (by assumption))).trans ((hput_ne _ (by first | assumption | exact Ne.symm (by assumption))).trans (by assumption)) | exact (hput_ne _ (by first | assumption | exact Ne.symm (by assumption))).trans ((hput_ne _ (by first | assumption | exact Ne.symm (by assumption))).trans (hput_eq _ _ _))) rfl (by omega) (by omega) ?_
            show J X B D 3 Q (hput h1 (q 5) (hI 4 (upd f5 c (bS (fun i => tdH t many p c i ∨ i = p))))) 0 0 51 _ []
            generalize hput h1 (q 5) (hI 4 (upd f5 c (bS (fun i => tdH t many p c i ∨ i = p)))) = h2 at R5 K5 ⊢
            obtain ⟨S1, -, ⟨g3, S3, T3⟩, -⟩ := id R5
            have e4 : g3 p = nI c := (T3 p hpn).trans (by rw [hc]; rfl)
            refine j_iload_n E dX4_findBest_51 rfl ?_
            refine j_iconst (x := nI 1) E dX4_findBest_52 (by decide) ?_
            refine j_aload_n E dX4_findBest_53 rfl ?_
            refine j_getfield (ref := "ColourParts$Search") (C := RX4) (T := TX4) (N := 9) (ci := 5) E 3 dX4_findBest_54 iw_X4_findBest_X4 rfl (by decide) (by decide +kernel) rfl (by first | with_reducible assumption | exact hput_eq _ _ _ | exact (hput_ne _ (by first | assumption | exact Ne.symm (by assumption))).trans (by assumption) | exact (hput_ne _ (by first | assumption | exact Ne.symm (by assumption))).trans (hput_eq _ _ _) | exact (hput_ne _ (by first | assumption | exact Ne.symm (by assumption))).trans ((hput_ne _ (by first | assumption | exact Ne.symm (by assumption))).trans (by assumption)) | exact (hput_ne _ (by first | assumption | exact Ne.symm (by assumption))).trans ((hput_ne _ (by first | assumption | exact Ne.symm (by assumption))).trans (hput_eq _ _ _))) rfl ?_
            refine j_iload_n E dX4_findBest_57 rfl ?_
            refine j_iaload E p dX4_findBest_58 (by first | with_reducible assumption | exact hput_eq _ _ _ | exact (hput_ne _ (by first | assumption | exact Ne.symm (by assumption))).trans (by assumption) | exact (hput_ne _ (by first | assumption | exact Ne.symm (by assumption))).trans (hput_eq _ _ _) | exact (hput_ne _ (by first | assumption | exact Ne.symm (by assumption))).trans ((hput_ne _ (by first | assumption | exact Ne.symm (by assumption))).trans (by assumption)) | exact (hput_ne _ (by first | assumption | exact Ne.symm (by assumption))).trans ((hput_ne _ (by first | assumption | exact Ne.symm (by assumption))).trans (hput_eq _ _ _))) rfl (by omega) (by omega) ?_
            refine J.topi (x' := nI c) (e4) ?_
            refine j_ishl E dX4_findBest_59 ?_
            refine j_ior E dX4_findBest_60 ?_
            refine J.topi (x' := bS (fun i => tdM t many p i ∨ i = c)) (bS_add _ (by omega)) ?_
            refine j_istore_n E dX4_findBest_61 (by decide) ?_
            have eM : bS (fun i => tdM t many p i ∨ i = c) = bS (tdM t many (p + 1)) := bS_congr (fun c2 _ => ⟨fun z => z.elim (fun z => ⟨z.1, z.2.elim (fun i hi => ⟨i, by omega, hi.2⟩)⟩) (fun z => ⟨by omega, p, by omega, by rw [z]; exact hc⟩), fun z => by
              obtain ⟨z1, i, z2, z3⟩ := z
              by_cases ei : i = p
              · rw [ei, hc] at z3
                exact Or.inr (by omega)
              · exact Or.inl ⟨z1, i, by omega, z3⟩⟩)
            rw [eM]
            refine J.sub [(2, .int (nI p)), (1, .int (bS (tdM t many (p + 1)))), (0, .ref sr)] ⟨rfl, rfl, rfl, trivial⟩ ?_
            exact next h2 R5 (fun y y1 y2 y3 y4 => (K5 y y2).trans (hF y y1 y2 y3 y4))
  refine j_iconst (x := nI 0) E dX4_findBest_0 (by decide) ?_
  refine j_istore_n E dX4_findBest_1 (by decide) ?_
  refine j_iconst (x := nI 0) E dX4_findBest_2 (by decide) ?_
  refine j_istore_n E dX4_findBest_3 (by decide) ?_
  refine J.sub [(2, .int (nI 0)), (1, .int (bS (tdM t many 0))), (0, .ref sr)] ⟨rfl, by rw [bS_z.mpr (fun i _ z => z.2.elim (fun j hj => Nat.not_lt_zero _ hj.1))]; rfl, rfl, trivial⟩ ?_
  exact loop n 0 h (by omega) R (fun _ _ _ _ _ => rfl)
end C28
