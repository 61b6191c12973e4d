/-! goOn(), tryColour() -/
def afO (o : Nat → Nat) (p : Nat) : Prop := 0 < p ∧ o p = o (p - 1)
def hdS (many n : Nat) (t : Nat → Int) (p : Nat) (W : Nat → Nat) (HH : Nat → Nat → Prop) : Prop := ∀ c, c < many → ∀ i, i < 12 → (HH c i ↔ (i < n ∧ t i = (c : Int)) ∨ (i < p ∧ W i = c))
def mtS (many n : Nat) (t : Nat → Int) (p : Nat) (W : Nat → Nat) (MM : Nat → Prop) : Prop := ∀ c, c < many → (MM c ↔ (∃ i, i < n ∧ t i = (c : Int)) ∨ ∃ i, i < p ∧ W i = c)
def frS (h h1 : HM) (sr : Nat) (q : Nat → Nat) : Prop := ∀ z, z ≠ sr → z ≠ q 5 → z ≠ q 6 → z ≠ q 7 → h1 z = h z
def pfx (many : Nat) (t : Nat → Int) (NN : Nat → Nat → Prop) (p : Nat) (W : Nat → Nat) : Prop := ∀ k, k < p → (t k = -1 ∨ t k = (W k : Int)) ∧ ∀ i, i < k → ¬ (NN i k ∧ W i = W k)
/-- goOn's contract with the pieces ahead of p given by W -/
def goC (l : Launch) (B E0 : Nat) (D : va_G) (sr : Nat) (q : Nat → Nat) (many n : Nat) (NN : Nat → Nat → Prop) (t : Nat → Int) (o : Nat → Nat) (v p : Nat) : Prop :=
  ∀ (h : HM) (few : Nat) (HH : Nat → Nat → Prop) (W : Nat → Nat) (w b : Nat → Int32) (MM : Nat → Prop), SR h sr q many n few NN t (afO o) HH w b → (∀ i, i < p → w i = nI (W i) ∧ W i < many) → hdS many n t p W HH → mtS many n t p W MM → pfx many t NN p W →
    CM l B E0 D yX4_goOn wsX4_goOn v 0 0 [.ref sr, .int (nI p), .int (nI (uC o W p)), .int (bS MM)] h (fun r h1 => r = none ∧ ∃ few1 w1 b1, SR h1 sr q many n few1 NN t (afO o) HH w1 b1 ∧ (∀ i, i < p → w1 i = w i) ∧ Bst n o (Cm many n t NN p W) few b few1 b1 ∧ frS h h1 sr q)
section C24
variable {l : Launch} {B E0 : Nat} {D : va_G} {h : HM} {sr many n few : Nat} {q : Nat → Nat} {NN HH : Nat → Nat → Prop} {t : Nat → Int} {o : Nat → Nat} {w b : Nat → Int32}
theorem iw_X4_tryColour_X4 : ∀ w ∈ u_ws RX4 TX4 9, w ∈ wsX4_tryColour := by decide +kernel
theorem c_tryColour (v : Nat) {p c : Nat} (G : goC l B E0 D sr q many n NN t o (v + 1) (p + 1)) (R : SR h sr q many n few NN t (afO o) HH w b) (hp : p < n) (hc : c < many) {W : Nat → Nat} {MM : Nat → Prop} (hw : ∀ i, i < p → w i = nI (W i) ∧ W i < many) (hH : hdS many n t p W HH) (hM : mtS many n t p W MM) (hP : pfx many t NN p W) (hs : ∀ i j, i < n → j < n → NN i j → NN j i) (hh : hv t NN HH p c) : CM l B E0 D yX4_tryColour wsX4_tryColour (v + 2) 0 0 [.ref sr, .int (nI p), .int (nI c), .int (nI (uC o W p)), .int (bS (fun i => MM i ∨ i = c))] h (fun r h1 => r = none ∧ ∃ few1 w1 b1, SR h1 sr q many n few1 NN t (afO o) HH w1 b1 ∧ (∀ i, i < p → w1 i = w i) ∧ Bst n o (Cm many n t NN (p + 1) (updN W p c)) few b few1 b1 ∧ frS h h1 sr q) := by
  have R0 := R
  have hne := R.ne
  obtain ⟨R1, -, -, ⟨f4, F4, G4⟩, ⟨f5, F5, G5⟩, F6, F7, hd, m4, n12, fw, ht⟩ := R
  refine CM.of (cc := cX4_tryColour) (maxL := 7) (ret := none) (by decide) rfl (Nat.le_of_ble_eq_true rfl) (fun X E hin => ?_)
  show J X B D 7 _ h 0 0 0 [(0, .ref sr), (1, .int (nI p)), (2, .int (nI c)), (3, .int (nI (uC o W p))), (4, .int (bS (fun i => MM i ∨ i = c)))] []
  generalize hQ : jQ X B D _ _ _ = Q
  have wu : ∀ i, i < p → updN W p c i = W i := fun i hi => updN_ne (by omega)
  have ue : uC o (updN W p c) (p + 1) = uC o W p + bN (0 < p ∧ o p = o (p - 1) ∧ ¬ c = W (p - 1)) := by
    show uC o (updN W p c) p + bN _ = _
    rw [uC_congr (f := o) (g := o) (e := W) (fun k hk => ⟨rfl, wu k hk⟩), updN_eq]
    by_cases e : 0 < p
    · rw [wu (p - 1) (by omega)]
    · rw [bN_f (fun z => e z.1), bN_f (fun z => e z.1)]
  have ub := uC_le o W p
  have main : ∀ z : Prop, (z ↔ 0 < p ∧ o p = o (p - 1) ∧ ¬ c = W (p - 1)) → J X B D 7 Q h 0 0 55 [(0, .ref sr), (1, .int (nI p)), (2, .int (nI c)), (3, .int (nI (uC o W p))), (4, .int (bS (fun i => MM i ∨ i = c)))] [.int (bI z)] := by
    intro z hz
    have enU : nI (uC o W p) = nI (uC o W p) := rfl
    refine j_istore E dX4_tryColour_55 (by decide) ?_
    refine j_aload_n E dX4_tryColour_57 rfl ?_
    refine j_getfield (ref := "ColourParts$Search") (C := RX4) (T := TX4) (N := 9) (ci := 5) E 5 dX4_tryColour_58 iw_X4_tryColour_X4 rfl (by decide) (by decide +kernel) rfl (by first | with_reducible assumption | exact hput_eq _ _ _ | exact (hput_ne _ (by first | assumption | exact Ne.symm (by assumption))).trans (by assumption) | exact (hput_ne _ (by first | assumption | exact Ne.symm (by assumption))).trans (hput_eq _ _ _) | exact (hput_ne _ (by first | assumption | exact Ne.symm (by assumption))).trans ((hput_ne _ (by first | assumption | exact Ne.symm (by assumption))).trans (by assumption)) | exact (hput_ne _ (by first | assumption | exact Ne.symm (by assumption))).trans ((hput_ne _ (by first | assumption | exact Ne.symm (by assumption))).trans (hput_eq _ _ _))) rfl ?_
    refine j_iload_n E dX4_tryColour_61 rfl ?_
    refine j_iaload E c dX4_tryColour_62 (by first | with_reducible assumption | exact hput_eq _ _ _ | exact (hput_ne _ (by first | assumption | exact Ne.symm (by assumption))).trans (by assumption) | exact (hput_ne _ (by first | assumption | exact Ne.symm (by assumption))).trans (hput_eq _ _ _) | exact (hput_ne _ (by first | assumption | exact Ne.symm (by assumption))).trans ((hput_ne _ (by first | assumption | exact Ne.symm (by assumption))).trans (by assumption)) | exact (hput_ne _ (by first | assumption | exact Ne.symm (by assumption))).trans ((hput_ne _ (by first | assumption | exact Ne.symm (by assumption))).trans (hput_eq _ _ _))) rfl (by omega) (by omega) ?_
    refine J.topi (x' := bS (HH c)) (G5 c (by omega)) ?_
    refine j_istore E dX4_tryColour_63 (by decide) ?_
    refine j_aload_n E dX4_tryColour_65 rfl ?_
    refine j_getfield (ref := "ColourParts$Search") (C := RX4) (T := TX4) (N := 9) (ci := 5) E 6 dX4_tryColour_66 iw_X4_tryColour_X4 rfl (by decide) (by decide +kernel) rfl (by first | with_reducible assumption | exact hput_eq _ _ _ | exact (hput_ne _ (by first | assumption | exact Ne.symm (by assumption))).trans (by assumption) | exact (hput_ne _ (by first | assumption | exact Ne.symm (by assumption))).trans (hput_eq _ _ _) | exact (hput_ne _ (by first | assumption | exact Ne.symm (by assumption))).trans ((hput_ne _ (by first | assumption | exact Ne.symm (by assumption))).trans (by assumption)) | exact (hput_ne _ (by first | assumption | exact Ne.symm (by assumption))).trans ((hput_ne _ (by first | assumption | exact Ne.symm (by assumption))).trans (hput_eq _ _ _))) rfl ?_
    refine j_iload_n E dX4_tryColour_69 rfl ?_
    refine j_iload_n E dX4_tryColour_70 rfl ?_
    refine j_iastore E p dX4_tryColour_71 (by first | with_reducible assumption | exact hput_eq _ _ _ | exact (hput_ne _ (by first | assumption | exact Ne.symm (by assumption))).trans (by assumption) | exact (hput_ne _ (by first | assumption | exact Ne.symm (by assumption))).trans (hput_eq _ _ _) | exact (hput_ne _ (by first | assumption | exact Ne.symm (by assumption))).trans ((hput_ne _ (by first | assumption | exact Ne.symm (by assumption))).trans (by assumption)) | exact (hput_ne _ (by first | assumption | exact Ne.symm (by assumption))).trans ((hput_ne _ (by first | assumption | exact Ne.symm (by assumption))).trans (hput_eq _ _ _))) rfl (by omega) (by omega) ?_
    have R2 := R0.setRow (upd w p (nI c))
    have K2 : ∀ y, y ≠ q 6 → hput h (q 6) (hI 12 (upd w p (nI c))) y = h y := fun y hy => hput_ne _ hy
    show J X B D 7 Q (hput h (q 6) (hI 12 (upd w p (nI c)))) 0 0 72 _ []
    generalize hput h (q 6) (hI 12 (upd w p (nI c))) = h2 at R2 K2 ⊢
    obtain ⟨S1, -, -, -, ⟨f6, F6b, G6⟩, -⟩ := id R2
    have hf6 : ∀ c2, c2 < 4 → upd f6 c (bS (fun i => HH c i ∨ i = p)) c2 = bS (if c2 = c then (fun i => HH c i ∨ i = p) else HH c2) := fun c2 h2 => by
      by_cases e : c2 = c
      · rw [if_pos e, e]; exact upd_eq
      · rw [if_neg e]; exact (upd_ne e).trans (G6 c2 h2)
    have R3 := R2.setHold (fun c2 => if c2 = c then (fun i => HH c i ∨ i = p) else HH c2) hf6
    have K3 : ∀ y, y ≠ q 5 → hput h2 (q 5) (hI 4 (upd f6 c (bS (fun i => HH c i ∨ i = p)))) y = h2 y := fun y hy => hput_ne _ hy
    refine j_aload_n E dX4_tryColour_72 rfl ?_
    refine j_getfield (ref := "ColourParts$Search") (C := RX4) (T := TX4) (N := 9) (ci := 5) E 5 dX4_tryColour_73 iw_X4_tryColour_X4 rfl (by decide) (by decide +kernel) rfl (by first | with_reducible assumption | exact hput_eq _ _ _ | exact (hput_ne _ (by first | assumption | exact Ne.symm (by assumption))).trans (by assumption) | exact (hput_ne _ (by first | assumption | exact Ne.symm (by assumption))).trans (hput_eq _ _ _) | exact (hput_ne _ (by first | assumption | exact Ne.symm (by assumption))).trans ((hput_ne _ (by first | assumption | exact Ne.symm (by assumption))).trans (by assumption)) | exact (hput_ne _ (by first | assumption | exact Ne.symm (by assumption))).trans ((hput_ne _ (by first | assumption | exact Ne.symm (by assumption))).trans (hput_eq _ _ _))) rfl ?_
    refine j_iload_n E dX4_tryColour_76 rfl ?_
    refine j_iload E dX4_tryColour_77 rfl ?_
    refine j_iconst (x := nI 1) E dX4_tryColour_79 (by decide) ?_
    refine j_iload_n E dX4_tryColour_80 rfl ?_
    refine j_ishl E dX4_tryColour_81 ?_
    refine j_ior E dX4_tryColour_82 ?_
    refine J.topi (x' := bS (fun i => HH c i ∨ i = p)) (bS_add _ (by omega)) ?_
    refine j_iastore E c dX4_tryColour_83 (by first | with_reducible assumption | exact hput_eq _ _ _ | exact (hput_ne _ (by first | assumption | exact Ne.symm (by assumption))).trans (by assumption) | exact (hput_ne _ (by first | assumption | exact Ne.symm (by assumption))).trans (hput_eq _ _ _) | exact (hput_ne _ (by first | assumption | exact Ne.symm (by assumption))).trans ((hput_ne _ (by first | assumption | exact Ne.symm (by assumption))).trans (by assumption)) | exact (hput_ne _ (by first | assumption | exact Ne.symm (by assumption))).trans ((hput_ne _ (by first | assumption | exact Ne.symm (by assumption))).trans (hput_eq _ _ _))) rfl (by omega) (by omega) ?_
    show J X B D 7 Q (hput h2 (q 5) (hI 4 (upd f6 c (bS (fun i => HH c i ∨ i = p))))) 0 0 84 _ []
    generalize hput h2 (q 5) (hI 4 (upd f6 c (bS (fun i => HH c i ∨ i = p)))) = h3 at R3 K3 ⊢
    have call : J X B D 7 Q h3 0 0 100 [(0, .ref sr), (1, .int (nI p)), (2, .int (nI c)), (4, .int (bS (fun i => MM i ∨ i = c))), (6, .int (bS (HH c)))] [.int (nI (uC o (updN W p c) (p + 1))), .int (nI (p + 1)), .ref sr] := by
      have R3a := R3.1
      refine j_iload E dX4_tryColour_100 rfl ?_
      refine j_callV (np := 3) (C := RX4) (T := TX4) (N := 9) (ci := 5) E (G h3 few _ (updN W p c) _ b (fun i => MM i ∨ i = c) R3 (fun i hi => ?_) (fun c2 hc2 i hi => ?_) (fun c2 hc2 => ?_) (fun k hk => ?_)) gX4_tryColour_X4_goOn rfl ⟨rfl, by decide, by decide, by decide +kernel⟩ dX4_tryColour_102 (by omega) (by decide) rfl R3a rfl rfl (Nat.le_of_ble_eq_true rfl) (by omega) (by omega) (fun r h4 p4 => ?_)
      · by_cases e : i = p
        · rw [e, updN_eq]; exact ⟨upd_eq, hc⟩
        · rw [updN_ne e]
          exact ⟨(upd_ne e).trans (hw i (by omega)).1, (hw i (by omega)).2⟩
      · have e0 := hH c2 hc2 i hi
        by_cases e : c2 = c
        · subst e
          rw [if_pos rfl, e0]
          by_cases ei : i = p
          · subst ei
            exact ⟨fun _ => Or.inr ⟨by omega, updN_eq⟩, fun _ => Or.inr rfl⟩
          · rw [updN_ne ei]
            exact ⟨fun z => z.elim (fun z => z.imp id (fun z => ⟨by omega, z.2⟩)) (fun z => absurd z ei), fun z => Or.inl (z.imp id (fun z => ⟨by omega, z.2⟩))⟩
        · rw [if_neg e, e0]
          by_cases ei : i = p
          · subst ei
            rw [updN_eq]
            exact ⟨fun z => z.imp id (fun z => by omega), fun z => z.imp id (fun z => absurd z.2.symm e)⟩
          · rw [updN_ne ei]
            exact ⟨fun z => z.imp id (fun z => ⟨by omega, z.2⟩), fun z => z.imp id (fun z => ⟨by omega, z.2⟩)⟩
      · show (MM c2 ∨ c2 = c) ↔ _
        rw [hM c2 hc2]
        constructor
        · rintro ((z | ⟨i, h1, h2⟩) | rfl)
          · exact Or.inl z
          · exact Or.inr ⟨i, by omega, by rw [updN_ne (by omega)]; exact h2⟩
          · exact Or.inr ⟨p, by omega, updN_eq⟩
        · rintro (z | ⟨i, h1, h2⟩)
          · exact Or.inl (Or.inl z)
          · by_cases ei : i = p
            · rw [ei, updN_eq] at h2; exact Or.inr h2.symm
            · rw [updN_ne ei] at h2; exact Or.inl (Or.inr ⟨i, by omega, h2⟩)
      · by_cases ek : k = p
        · rw [ek, updN_eq]
          refine ⟨hh.1, fun i hi w => ?_⟩
          rw [updN_ne (by omega)] at w
          exact hh.2 i (by omega) ⟨hs i p (by omega) hp w.1, (hH c hc i (by omega)).mpr (Or.inr ⟨hi, w.2⟩)⟩
        · rw [updN_ne ek]
          obtain ⟨g1, g2⟩ := hP k (by omega)
          exact ⟨g1, fun i hi w => g2 i hi ⟨w.1, by rw [updN_ne (by omega)] at w; exact w.2⟩⟩
      · obtain ⟨rfl, few1, w1, b1, R4, P1, P2, P3⟩ := p4
        refine J.wide (k' := 0) (n' := 0) (by omega) (by omega) ?_
        obtain ⟨T1, -, -, -, ⟨f7, F7b, G7⟩, -⟩ := id R4
        have R5 := R4.setHold HH (f := upd f7 c (bS (HH c))) (fun c2 h5 => by
          by_cases e : c2 = c
          · rw [e]; exact upd_eq
          · refine (upd_ne e).trans ((G7 c2 h5).trans ?_)
            show bS (if c2 = c then _ else HH c2) = _
            rw [if_neg e])
        refine j_aload_n E dX4_tryColour_105 rfl ?_
        refine j_getfield (ref := "ColourParts$Search") (C := RX4) (T := TX4) (N := 9) (ci := 5) E 5 dX4_tryColour_106 iw_X4_tryColour_X4 rfl (by decide) (by decide +kernel) rfl (by first | with_reducible assumption | exact hput_eq _ _ _ | exact (hput_ne _ (by first | assumption | exact Ne.symm (by assumption))).trans (by assumption) | exact (hput_ne _ (by first | assumption | exact Ne.symm (by assumption))).trans (hput_eq _ _ _) | exact (hput_ne _ (by first | assumption | exact Ne.symm (by assumption))).trans ((hput_ne _ (by first | assumption | exact Ne.symm (by assumption))).trans (by assumption)) | exact (hput_ne _ (by first | assumption | exact Ne.symm (by assumption))).trans ((hput_ne _ (by first | assumption | exact Ne.symm (by assumption))).trans (hput_eq _ _ _))) rfl ?_
        refine j_iload_n E dX4_tryColour_109 rfl ?_
        refine j_iload E dX4_tryColour_110 rfl ?_
        refine j_iastore E c dX4_tryColour_112 (by first | with_reducible assumption | exact hput_eq _ _ _ | exact (hput_ne _ (by first | assumption | exact Ne.symm (by assumption))).trans (by assumption) | exact (hput_ne _ (by first | assumption | exact Ne.symm (by assumption))).trans (hput_eq _ _ _) | exact (hput_ne _ (by first | assumption | exact Ne.symm (by assumption))).trans ((hput_ne _ (by first | assumption | exact Ne.symm (by assumption))).trans (by assumption)) | exact (hput_ne _ (by first | assumption | exact Ne.symm (by assumption))).trans ((hput_ne _ (by first | assumption | exact Ne.symm (by assumption))).trans (hput_eq _ _ _))) rfl (by omega) (by omega) ?_
        rw [← hQ]
        refine j_vret E dX4_tryColour_113 rfl (by omega) (by omega) ⟨rfl, few1, w1, b1, R5, fun i hi => (P1 i (by omega)).trans (upd_ne (by omega)), P2, fun y y1 y2 y3 y4 => ?_⟩
        exact (hput_ne _ y2).trans ((P3 y y1 y2 y3 y4).trans ((K3 y y2).trans (K2 y y3)))
    refine j_aload_n E dX4_tryColour_84 rfl ?_
    refine j_iload_n E dX4_tryColour_85 rfl ?_
    refine j_iconst (x := nI 1) E dX4_tryColour_86 (by decide) ?_
    refine j_iadd E dX4_tryColour_87 ?_
    refine J.topi (x' := nI (p + 1)) (nI_1 p) ?_
    refine j_iload E dX4_tryColour_88 rfl ?_
    refine J.sub [(0, .ref sr), (1, .int (nI p)), (2, .int (nI c)), (3, .int (nI (uC o W p))), (4, .int (bS (fun i => MM i ∨ i = c))), (6, .int (bS (HH c)))] ⟨rfl, rfl, rfl, rfl, rfl, rfl, trivial⟩ ?_
    refine j_if_eq E (tgt := 99) dX4_tryColour_90 (by decide) (fun c1 => ?_) (fun c1 => ?_)
    · have nz := bI_z.mp c1
      refine j_iload_n E dX4_tryColour_99 rfl ?_
      refine J.topi (x' := nI (uC o (updN W p c) (p + 1))) (by rw [ue, bN_f (fun y => nz (hz.mpr y))]; rfl) ?_
      exact J.sub [(0, .ref sr), (1, .int (nI p)), (2, .int (nI c)), (4, .int (bS (fun i => MM i ∨ i = c))), (6, .int (bS (HH c)))] ⟨rfl, rfl, rfl, rfl, rfl, trivial⟩ call
    · have yz := bI_n.mp c1
      refine j_iload_n E dX4_tryColour_93 rfl ?_
      refine j_iconst (x := nI 1) E dX4_tryColour_94 (by decide) ?_
      refine j_iadd E dX4_tryColour_95 ?_
      refine J.topi (x' := nI (uC o (updN W p c) (p + 1))) (by rw [ue, bN_t (hz.mp yz)]; exact nI_1 _) ?_
      refine j_goto E (tgt := 100) dX4_tryColour_96 (by decide) ?_
      exact J.sub [(0, .ref sr), (1, .int (nI p)), (2, .int (nI c)), (4, .int (bS (fun i => MM i ∨ i = c))), (6, .int (bS (HH c)))] ⟨rfl, rfl, rfl, rfl, rfl, trivial⟩ call
  have no : ¬ (0 < p ∧ o p = o (p - 1) ∧ ¬ c = W (p - 1)) → J X B D 7 Q h 0 0 54 [(0, .ref sr), (1, .int (nI p)), (2, .int (nI c)), (3, .int (nI (uC o W p))), (4, .int (bS (fun i => MM i ∨ i = c)))] [] := by
    intro h1
    refine j_iconst (x := nI 0) E dX4_tryColour_54 (by decide) ?_
    refine J.topi (x' := bI False) ((bI_f id).symm) ?_
    exact main False ⟨fun z => z.elim, h1⟩
  refine j_iload_n E dX4_tryColour_0 rfl ?_
  refine j_if_lt E (tgt := 24) dX4_tryColour_1 (by decide) (fun c1 => ?_) (fun c1 => ?_)
  · exact absurd c1 (nI_pos (by omega))
  ·
    refine j_iload_n E dX4_tryColour_4 rfl ?_
    refine j_aload_n E dX4_tryColour_5 rfl ?_
    refine j_getfield (ref := "ColourParts$Search") (C := RX4) (T := TX4) (N := 9) (ci := 5) E 1 dX4_tryColour_6 iw_X4_tryColour_X4 rfl (by decide) (by decide +kernel) rfl (by first | with_reducible assumption | exact hput_eq _ _ _ | exact (hput_ne _ (by first | assumption | exact Ne.symm (by assumption))).trans (by assumption) | exact (hput_ne _ (by first | assumption | exact Ne.symm (by assumption))).trans (hput_eq _ _ _) | exact (hput_ne _ (by first | assumption | exact Ne.symm (by assumption))).trans ((hput_ne _ (by first | assumption | exact Ne.symm (by assumption))).trans (by assumption)) | exact (hput_ne _ (by first | assumption | exact Ne.symm (by assumption))).trans ((hput_ne _ (by first | assumption | exact Ne.symm (by assumption))).trans (hput_eq _ _ _))) rfl ?_
    refine j_icmp_ge E (tgt := 24) dX4_tryColour_9 (by decide) (fun c2 => ?_) (fun c2 => ?_)
    · exact absurd c2 (nI_ge hp (by omega))
    ·
      refine j_iload_n E dX4_tryColour_12 rfl ?_
      refine j_if_lt E (tgt := 24) dX4_tryColour_13 (by decide) (fun c3 => ?_) (fun c3 => ?_)
      · exact absurd c3 (nI_pos (by omega))
      ·
        refine j_iload_n E dX4_tryColour_16 rfl ?_
        refine j_aload_n E dX4_tryColour_17 rfl ?_
        refine j_getfield (ref := "ColourParts$Search") (C := RX4) (T := TX4) (N := 9) (ci := 5) E 0 dX4_tryColour_18 iw_X4_tryColour_X4 rfl (by decide) (by decide +kernel) rfl (by first | with_reducible assumption | exact hput_eq _ _ _ | exact (hput_ne _ (by first | assumption | exact Ne.symm (by assumption))).trans (by assumption) | exact (hput_ne _ (by first | assumption | exact Ne.symm (by assumption))).trans (hput_eq _ _ _) | exact (hput_ne _ (by first | assumption | exact Ne.symm (by assumption))).trans ((hput_ne _ (by first | assumption | exact Ne.symm (by assumption))).trans (by assumption)) | exact (hput_ne _ (by first | assumption | exact Ne.symm (by assumption))).trans ((hput_ne _ (by first | assumption | exact Ne.symm (by assumption))).trans (hput_eq _ _ _))) rfl ?_
        refine j_icmp_lt E (tgt := 25) dX4_tryColour_21 (by decide) (fun c4 => ?_) (fun c4 => ?_)
        ·
          refine j_iload_n E dX4_tryColour_25 rfl ?_
          refine j_if_le E (tgt := 54) dX4_tryColour_26 (by decide) (fun c5 => ?_) (fun c5 => ?_)
          · exact no (fun z => Int32.not_le.mpr (nI_lt z.1 (by omega)) c5)
          · have p0 : 0 < p := Nat.pos_of_ne_zero (fun z => c5 (by rw [z]; exact Int32.le_refl _))
            refine j_aload_n E dX4_tryColour_29 rfl ?_
            refine j_getfield (ref := "ColourParts$Search") (C := RX4) (T := TX4) (N := 9) (ci := 5) E 4 dX4_tryColour_30 iw_X4_tryColour_X4 rfl (by decide) (by decide +kernel) rfl (by first | with_reducible assumption | exact hput_eq _ _ _ | exact (hput_ne _ (by first | assumption | exact Ne.symm (by assumption))).trans (by assumption) | exact (hput_ne _ (by first | assumption | exact Ne.symm (by assumption))).trans (hput_eq _ _ _) | exact (hput_ne _ (by first | assumption | exact Ne.symm (by assumption))).trans ((hput_ne _ (by first | assumption | exact Ne.symm (by assumption))).trans (by assumption)) | exact (hput_ne _ (by first | assumption | exact Ne.symm (by assumption))).trans ((hput_ne _ (by first | assumption | exact Ne.symm (by assumption))).trans (hput_eq _ _ _))) rfl ?_
            refine j_iload_n E dX4_tryColour_33 rfl ?_
            refine j_zaload E p dX4_tryColour_34 (by first | with_reducible assumption | exact hput_eq _ _ _ | exact (hput_ne _ (by first | assumption | exact Ne.symm (by assumption))).trans (by assumption) | exact (hput_ne _ (by first | assumption | exact Ne.symm (by assumption))).trans (hput_eq _ _ _) | exact (hput_ne _ (by first | assumption | exact Ne.symm (by assumption))).trans ((hput_ne _ (by first | assumption | exact Ne.symm (by assumption))).trans (by assumption)) | exact (hput_ne _ (by first | assumption | exact Ne.symm (by assumption))).trans ((hput_ne _ (by first | assumption | exact Ne.symm (by assumption))).trans (hput_eq _ _ _))) rfl (by omega) (by omega) ?_
            refine J.topi (x' := bI (afO o p)) (G4 p hp) ?_
            refine j_if_eq E (tgt := 54) dX4_tryColour_35 (by decide) (fun c6 => ?_) (fun c6 => ?_)
            · exact no (fun z => bI_z.mp c6 ⟨z.1, z.2.1⟩)
            · have ap := bI_n.mp c6
              obtain ⟨p1, rfl⟩ : ∃ p1, p = p1 + 1 := ⟨p - 1, by omega⟩
              have wp := hw p1 (by omega)
              refine j_aload_n E dX4_tryColour_38 rfl ?_
              refine j_getfield (ref := "ColourParts$Search") (C := RX4) (T := TX4) (N := 9) (ci := 5) E 6 dX4_tryColour_39 iw_X4_tryColour_X4 rfl (by decide) (by decide +kernel) rfl (by first | with_reducible assumption | exact hput_eq _ _ _ | exact (hput_ne _ (by first | assumption | exact Ne.symm (by assumption))).trans (by assumption) | exact (hput_ne _ (by first | assumption | exact Ne.symm (by assumption))).trans (hput_eq _ _ _) | exact (hput_ne _ (by first | assumption | exact Ne.symm (by assumption))).trans ((hput_ne _ (by first | assumption | exact Ne.symm (by assumption))).trans (by assumption)) | exact (hput_ne _ (by first | assumption | exact Ne.symm (by assumption))).trans ((hput_ne _ (by first | assumption | exact Ne.symm (by assumption))).trans (hput_eq _ _ _))) rfl ?_
              refine j_iload_n E dX4_tryColour_42 rfl ?_
              refine j_iconst (x := nI 1) E dX4_tryColour_43 (by decide) ?_
              refine j_isub E dX4_tryColour_44 ?_
              refine J.topi (x' := nI p1) (nI_pred p1) ?_
              refine j_iaload E p1 dX4_tryColour_45 (by first | with_reducible assumption | exact hput_eq _ _ _ | exact (hput_ne _ (by first | assumption | exact Ne.symm (by assumption))).trans (by assumption) | exact (hput_ne _ (by first | assumption | exact Ne.symm (by assumption))).trans (hput_eq _ _ _) | exact (hput_ne _ (by first | assumption | exact Ne.symm (by assumption))).trans ((hput_ne _ (by first | assumption | exact Ne.symm (by assumption))).trans (by assumption)) | exact (hput_ne _ (by first | assumption | exact Ne.symm (by assumption))).trans ((hput_ne _ (by first | assumption | exact Ne.symm (by assumption))).trans (hput_eq _ _ _))) rfl (by omega) (by omega) ?_
              refine J.topi (x' := nI (W p1)) (wp.1) ?_
              refine j_iload_n E dX4_tryColour_46 rfl ?_
              refine j_icmp_eq E (tgt := 54) dX4_tryColour_47 (by decide) (fun c7 => ?_) (fun c7 => ?_)
              · exact no (fun z => z.2.2 ((nI_eq (show W p1 < 2 ^ 31 by omega) (show c < 2 ^ 31 by omega)).mp c7).symm)
              ·
                refine j_iconst (x := nI 1) E dX4_tryColour_50 (by decide) ?_
                refine J.topi (x' := bI True) ((bI_t trivial).symm) ?_
                refine j_goto E (tgt := 55) dX4_tryColour_51 (by decide) ?_
                exact main True ⟨fun _ => ⟨p0, ap.2, fun z => c7 (by rw [z]; rfl)⟩, fun _ => trivial⟩
        · exact absurd (nI_lt hc (by omega)) c4
end C24
