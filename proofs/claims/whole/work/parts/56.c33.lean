/-! the odd ring -/
section C33
variable {l : Launch} {B E0 : Nat} {D : va_G} {h h0 : HM} {d : Int} {ps row re : Nat} {pg : List PG} {o : Nat → Nat} {t : Nat → Int} {bb : Nat → List BB} {N : Nat → Nat → Prop}
theorem iw_X3_findOddRing_X3 : ∀ w ∈ u_ws RX3 TX3 1, w ∈ wsX3_findOddRing := by decide +kernel
theorem c_findOddRing (v : Nat) (R : PSR E0 h0 h ps row re pg o t bb N) {oa : Nat} {g : Nat → Int32} (hoa : h oa = some (hI 12 g)) (hs : ∀ i j, N i j → N j i) : CM l B E0 D yX3_findOddRing wsX3_findOddRing (v + 7) 1 13 [.ref ps, .ref oa] h (fun r h1 => ∃ rg g1, r = some (.int (nI rg.length)) ∧ oddR N pg.length o rg ∧ rg.length ≤ 12 ∧ h1 oa = some (hI 12 g1) ∧ (∀ k, k < rg.length → g1 k = nI (rg.getD k 0)) ∧ FR h h1 (fun z => z = oa)) := by
  have h12 := R.2.2.2.1
  refine CM.of (cc := cX3_findOddRing) (maxL := 5) (ret := (some .int)) (by decide) rfl (Nat.le_of_ble_eq_true rfl) (fun X E hin => ?_)
  show J X B D 5 _ h 0 0 0 [(0, .ref ps), (1, .ref oa)] []
  generalize hQ : jQ X B D _ _ _ = Q
  refine j_bipush (x := nI 13) E dX3_findOddRing_0 (by decide) ?_
  refine j_newI E 13 dX3_findOddRing_2 (by decide +kernel) rfl (by omega) (by omega) (by omega) (fun wa nwa bwa => ?_)
  have hao : oa ≠ wa := hm_neN hoa nwa
  have old : ∀ z, h z ≠ none → z ≠ wa := fun z hz e => hz (by rw [e]; exact nwa)
  have outer : ∀ (u m : Nat) (f : Nat → Int32), pg.length + 2 - m ≤ u → 3 ≤ m → m % 2 = 1 → m ≤ 20 → (∀ k, 3 ≤ k → k % 2 = 1 → k < m → ∀ v, ¬ ECW N pg.length k v) → J X B D 5 Q (hput h wa (hI 13 f)) 1 13 7 [(3, .int (nI m)), (2, .ref wa), (0, .ref ps), (1, .ref oa)] [] := by
    intro u
    induction u with
    | zero =>
      intro m f hu h3 ho h20 no
      have R2 := R.chgI (a := wa) (k := 13) (f := f) (Or.inl nwa)
      obtain ⟨R21, L, hL, -, zl, hl⟩ := R2.lst
      refine j_iload_n E dX3_findOddRing_7 rfl ?_
      refine j_aload_n E dX3_findOddRing_8 rfl ?_
      refine j_getfield (ref := "ColourParts$Pieces") (C := RX3) (T := TX3) (N := 1) (ci := 4) E 0 dX3_findOddRing_9 iw_X3_findOddRing_X3 rfl (by decide) (by decide +kernel) rfl (by first | with_reducible assumption | exact hput_eq _ _ _ | exact (hput_ne _ (by first | assumption | exact Ne.symm (by assumption))).trans (by assumption) | exact (hput_ne _ (by first | assumption | exact Ne.symm (by assumption))).trans (hput_eq _ _ _) | exact (hput_ne _ (by first | assumption | exact Ne.symm (by assumption))).trans ((hput_ne _ (by first | assumption | exact Ne.symm (by assumption))).trans (by assumption)) | exact (hput_ne _ (by first | assumption | exact Ne.symm (by assumption))).trans ((hput_ne _ (by first | assumption | exact Ne.symm (by assumption))).trans (hput_eq _ _ _))) rfl ?_
      refine j_callV (np := 0) (C := RJx4a65c) (T := TJx4a65c) (N := 3) (ci := 0) E (c_size (v + 5) L) gX3_findOddRing_Jx4a65c_size_8abf5 rfl ⟨rfl, by decide, by decide, by decide +kernel⟩ dX3_findOddRing_12 (by omega) (by decide) rfl hl rfl rfl (Nat.le_of_ble_eq_true rfl) (by omega) (by omega) (fun r9 h9 p9 => J.pure p9 ?_)
      rw [hL]
      refine J.wide (k' := 1) (n' := 13) (by omega) (by omega) ?_
      refine j_icmp_gt E (tgt := 75) dX3_findOddRing_15 (by decide) (fun c1 => ?_) (fun c1 => ?_)
      ·
        refine j_iconst (x := nI 0) E dX3_findOddRing_75 (by decide) ?_
        rw [← hQ]
        exact j_iret E dX3_findOddRing_76 rfl rfl (by omega) (by omega) ⟨[], g, rfl, Or.inl ⟨rfl, fun k k1 k2 k3 => no k k1 k2 (by omega)⟩, Nat.zero_le _, (hput_ne _ hao).trans hoa, fun k hk => absurd hk (Nat.not_lt_zero _), fun z hz _ => hput_ne _ (old z hz)⟩
      · exact absurd (nI_lt (show pg.length < m by omega) (by omega)) c1
    | succ u ih =>
      intro m f hu h3 ho h20 no
      have R2 := R.chgI (a := wa) (k := 13) (f := f) (Or.inl nwa)
      obtain ⟨R21, L, hL, -, zl, hl⟩ := R2.lst
      refine j_iload_n E dX3_findOddRing_7 rfl ?_
      refine j_aload_n E dX3_findOddRing_8 rfl ?_
      refine j_getfield (ref := "ColourParts$Pieces") (C := RX3) (T := TX3) (N := 1) (ci := 4) E 0 dX3_findOddRing_9 iw_X3_findOddRing_X3 rfl (by decide) (by decide +kernel) rfl (by first | with_reducible assumption | exact hput_eq _ _ _ | exact (hput_ne _ (by first | assumption | exact Ne.symm (by assumption))).trans (by assumption) | exact (hput_ne _ (by first | assumption | exact Ne.symm (by assumption))).trans (hput_eq _ _ _) | exact (hput_ne _ (by first | assumption | exact Ne.symm (by assumption))).trans ((hput_ne _ (by first | assumption | exact Ne.symm (by assumption))).trans (by assumption)) | exact (hput_ne _ (by first | assumption | exact Ne.symm (by assumption))).trans ((hput_ne _ (by first | assumption | exact Ne.symm (by assumption))).trans (hput_eq _ _ _))) rfl ?_
      refine j_callV (np := 0) (C := RJx4a65c) (T := TJx4a65c) (N := 3) (ci := 0) E (c_size (v + 5) L) gX3_findOddRing_Jx4a65c_size_8abf5 rfl ⟨rfl, by decide, by decide, by decide +kernel⟩ dX3_findOddRing_12 (by omega) (by decide) rfl hl rfl rfl (Nat.le_of_ble_eq_true rfl) (by omega) (by omega) (fun r9 h9 p9 => J.pure p9 ?_)
      rw [hL]
      refine J.wide (k' := 1) (n' := 13) (by omega) (by omega) ?_
      refine j_icmp_gt E (tgt := 75) dX3_findOddRing_15 (by decide) (fun c1 => ?_) (fun c1 => ?_)
      ·
        refine j_iconst (x := nI 0) E dX3_findOddRing_75 (by decide) ?_
        rw [← hQ]
        exact j_iret E dX3_findOddRing_76 rfl rfl (by omega) (by omega) ⟨[], g, rfl, Or.inl ⟨rfl, fun k k1 k2 k3 => no k k1 k2 (Nat.not_le.mp (fun z => nI_nlt (show m ≤ pg.length by omega) (by omega) c1))⟩, Nat.zero_le _, (hput_ne _ hao).trans hoa, fun k hk => absurd hk (Nat.not_lt_zero _), fun z hz _ => hput_ne _ (old z hz)⟩
      · have hm : m ≤ pg.length := Nat.not_lt.mp (fun z => c1 (nI_lt z (by omega)))
        have inner : ∀ (u2 p : Nat) (f : Nat → Int32), p + u2 = pg.length → (∀ q, q < p → ∀ v, ECW N pg.length m v → ¬ v 0 = q) → J X B D 5 Q (hput h wa (hI 13 f)) 1 13 21 [(4, .int (nI p)), (3, .int (nI m)), (2, .ref wa), (0, .ref ps), (1, .ref oa)] [] := by
          intro u2
          induction u2 with
          | zero =>
            intro p f hp no2
            have R2 := R.chgI (a := wa) (k := 13) (f := f) (Or.inl nwa)
            obtain ⟨R21, L, hL, -, zl, hl⟩ := R2.lst
            refine j_iload E dX3_findOddRing_21 rfl ?_
            refine j_aload_n E dX3_findOddRing_23 rfl ?_
            refine j_getfield (ref := "ColourParts$Pieces") (C := RX3) (T := TX3) (N := 1) (ci := 4) E 0 dX3_findOddRing_24 iw_X3_findOddRing_X3 rfl (by decide) (by decide +kernel) rfl (by first | with_reducible assumption | exact hput_eq _ _ _ | exact (hput_ne _ (by first | assumption | exact Ne.symm (by assumption))).trans (by assumption) | exact (hput_ne _ (by first | assumption | exact Ne.symm (by assumption))).trans (hput_eq _ _ _) | exact (hput_ne _ (by first | assumption | exact Ne.symm (by assumption))).trans ((hput_ne _ (by first | assumption | exact Ne.symm (by assumption))).trans (by assumption)) | exact (hput_ne _ (by first | assumption | exact Ne.symm (by assumption))).trans ((hput_ne _ (by first | assumption | exact Ne.symm (by assumption))).trans (hput_eq _ _ _))) rfl ?_
            refine j_callV (np := 0) (C := RJx4a65c) (T := TJx4a65c) (N := 3) (ci := 0) E (c_size (v + 5) L) gX3_findOddRing_Jx4a65c_size_8abf5 rfl ⟨rfl, by decide, by decide, by decide +kernel⟩ dX3_findOddRing_27 (by omega) (by decide) rfl hl rfl rfl (Nat.le_of_ble_eq_true rfl) (by omega) (by omega) (fun r9 h9 p9 => J.pure p9 ?_)
            rw [hL]
            refine J.wide (k' := 1) (n' := 13) (by omega) (by omega) ?_
            refine j_icmp_ge E (tgt := 69) dX3_findOddRing_30 (by decide) (fun c2 => ?_) (fun c2 => ?_)
            ·
              refine j_iinc E dX3_findOddRing_69 rfl (show nI m + Int32.ofInt 2 = nI (m + 2) from nI_add m 2) (by decide) ?_
              refine j_goto E (tgt := 7) dX3_findOddRing_72 (by decide) ?_
              refine J.sub [(3, .int (nI (m + 2))), (2, .ref wa), (0, .ref ps), (1, .ref oa)] ⟨rfl, rfl, rfl, rfl, trivial⟩ ?_
              refine ih (m + 2) f (by omega) (by omega) (by omega) (by omega) (fun k k1 k2 k3 v => ?_)
              by_cases e : k = m
              · rw [e]
                intro hv
                have hv0 := hv.1 0 (Nat.zero_le _)
                exact no2 (v 0) (by omega) v hv rfl
              · exact no k k1 k2 (by omega) v
            · exact absurd (nI_le (show pg.length ≤ p by omega) (by omega)) c2
          | succ u2 ih2 =>
            intro p f hp no2
            have hpl : p < pg.length := by omega
            have R2 := R.chgI (a := wa) (k := 13) (f := f) (Or.inl nwa)
            obtain ⟨R21, L, hL, -, zl, hl⟩ := R2.lst
            refine j_iload E dX3_findOddRing_21 rfl ?_
            refine j_aload_n E dX3_findOddRing_23 rfl ?_
            refine j_getfield (ref := "ColourParts$Pieces") (C := RX3) (T := TX3) (N := 1) (ci := 4) E 0 dX3_findOddRing_24 iw_X3_findOddRing_X3 rfl (by decide) (by decide +kernel) rfl (by first | with_reducible assumption | exact hput_eq _ _ _ | exact (hput_ne _ (by first | assumption | exact Ne.symm (by assumption))).trans (by assumption) | exact (hput_ne _ (by first | assumption | exact Ne.symm (by assumption))).trans (hput_eq _ _ _) | exact (hput_ne _ (by first | assumption | exact Ne.symm (by assumption))).trans ((hput_ne _ (by first | assumption | exact Ne.symm (by assumption))).trans (by assumption)) | exact (hput_ne _ (by first | assumption | exact Ne.symm (by assumption))).trans ((hput_ne _ (by first | assumption | exact Ne.symm (by assumption))).trans (hput_eq _ _ _))) rfl ?_
            refine j_callV (np := 0) (C := RJx4a65c) (T := TJx4a65c) (N := 3) (ci := 0) E (c_size (v + 5) L) gX3_findOddRing_Jx4a65c_size_8abf5 rfl ⟨rfl, by decide, by decide, by decide +kernel⟩ dX3_findOddRing_27 (by omega) (by decide) rfl hl rfl rfl (Nat.le_of_ble_eq_true rfl) (by omega) (by omega) (fun r9 h9 p9 => J.pure p9 ?_)
            rw [hL]
            refine J.wide (k' := 1) (n' := 13) (by omega) (by omega) ?_
            refine j_icmp_ge E (tgt := 69) dX3_findOddRing_30 (by decide) (fun c2 => ?_) (fun c2 => ?_)
            · exact absurd c2 (nI_ge hpl (by omega))
            ·
              refine j_aload_n E dX3_findOddRing_33 rfl ?_
              refine j_iload E dX3_findOddRing_34 rfl ?_
              refine j_iload_n E dX3_findOddRing_36 rfl ?_
              refine j_aload_n E dX3_findOddRing_37 rfl ?_
              refine j_callV (np := 3) (C := RX3) (T := TX3) (N := 1) (ci := 4) E (c_fillWalks v R2 (hput_eq _ _ _) hpl (show m ≤ 12 by omega)) gX3_findOddRing_X3_fillWalks rfl ⟨rfl, by decide, by decide, by decide +kernel⟩ dX3_findOddRing_38 (by omega) (by decide) rfl R21 rfl rfl (Nat.le_of_ble_eq_true rfl) (by omega) (by omega) (fun r h2 p2 => ?_)
              obtain ⟨rfl, f2, rfl, hf2⟩ := p2
              rw [hput_hput]
              refine J.wide (k' := 1) (n' := 13) (by omega) (by omega) ?_
              refine j_aload_n E dX3_findOddRing_41 rfl ?_
              refine j_iload_n E dX3_findOddRing_42 rfl ?_
              refine j_iaload E m dX3_findOddRing_43 (hput_eq _ _ _) rfl (by omega) (by omega) ?_
              refine J.topi (x' := bS (WS N pg.length p m)) (hf2 m (Nat.le_refl _)) ?_
              refine j_iload E dX3_findOddRing_44 rfl ?_
              refine j_ishr E dX3_findOddRing_46 ?_
              refine j_iconst (x := nI 1) E dX3_findOddRing_47 (by decide) ?_
              refine j_iand E dX3_findOddRing_48 ?_
              refine J.topi (x' := bI (WS N pg.length p m p)) (bS_has _ (by omega)) ?_
              refine j_if_eq E (tgt := 63) dX3_findOddRing_49 (by decide) (fun c3 => ?_) (fun c3 => ?_)
              · have nw := bI_z.mp c3
                refine j_iinc E dX3_findOddRing_63 rfl (nI_1 p) (by decide) ?_
                refine j_goto E (tgt := 21) dX3_findOddRing_66 (by decide) ?_
                refine J.sub [(4, .int (nI (p + 1))), (3, .int (nI m)), (2, .ref wa), (0, .ref ps), (1, .ref oa)] ⟨rfl, rfl, rfl, rfl, rfl, trivial⟩ ?_
                refine ih2 (p + 1) f2 (by omega) (fun q hq v hv e => ?_)
                by_cases e2 : q = p
                · have w1 := hv.ws hs m (Nat.le_refl _)
                  rw [Nat.sub_self, e, e2] at w1
                  exact nw w1
                · exact no2 q (by omega) v hv e
              · have yw := bI_n.mp c3
                have R3 := R.chgI (a := wa) (k := 13) (f := f2) (Or.inl nwa)
                have R31 := R3.2.1
                refine j_aload_n E dX3_findOddRing_52 rfl ?_
                refine j_iload E dX3_findOddRing_53 rfl ?_
                refine j_iload_n E dX3_findOddRing_55 rfl ?_
                refine j_aload_n E dX3_findOddRing_56 rfl ?_
                refine j_aload_n E dX3_findOddRing_57 rfl ?_
                refine j_callV (np := 4) (C := RX3) (T := TX3) (N := 1) (ci := 4) E (c_writeLeastRing (v + 1) R3 (hput_eq _ _ _) ((hput_ne _ hao).trans hoa) hpl hm hf2 yw hs) gX3_findOddRing_X3_writeLeastRing rfl ⟨rfl, by decide, by decide, by decide +kernel⟩ dX3_findOddRing_58 (by omega) (by decide) rfl R31 rfl rfl (Nat.le_of_ble_eq_true rfl) (by omega) (by omega) (fun r h3 p3 => ?_)
                obtain ⟨rfl, g1, w, rfl, w1, w2, w3, w4⟩ := p3
                refine J.wide (k' := 1) (n' := 13) (by omega) (by omega) ?_
                refine j_iload_n E dX3_findOddRing_61 rfl ?_
                rw [← hQ]
                refine j_iret E dX3_findOddRing_62 rfl rfl (by omega) (by omega) ⟨(List.range m).map (fun i => o (w i)), g1, by rw [List.length_map, List.length_range], Or.inr ⟨m, w, h3, ho, hm, no, w1, fun v hv => ?_, rfl⟩, by rw [List.length_map, List.length_range]; omega, hput_eq _ _ _, fun k hk => ?_, fun z hz hz2 => (hput_ne _ hz2).trans (hput_ne _ (old z hz))⟩
                · by_cases e : v 0 = p
                  · exact w3 v hv e
                  · have : ¬ v 0 < p := fun z => no2 _ z v hv rfl
                    exact Or.inr ⟨0, by omega, fun j hj => absurd hj (Nat.not_lt_zero _), by omega⟩
                · rw [List.length_map, List.length_range] at hk
                  rw [w4 k hk, List.getD_eq_getElem?_getD, List.getElem?_map, List.getElem?_range hk]
                  rfl
        refine j_iconst (x := nI 0) E dX3_findOddRing_18 (by decide) ?_
        refine j_istore E dX3_findOddRing_19 (by decide) ?_
        refine J.sub [(4, .int (nI 0)), (3, .int (nI m)), (2, .ref wa), (0, .ref ps), (1, .ref oa)] ⟨rfl, rfl, rfl, rfl, rfl, trivial⟩ ?_
        exact inner pg.length 0 f (by omega) (fun q hq => absurd hq (Nat.not_lt_zero _))
  refine j_astore_n E dX3_findOddRing_4 (by decide) ?_
  refine j_iconst (x := nI 3) E dX3_findOddRing_5 (by decide) ?_
  refine j_istore_n E dX3_findOddRing_6 (by decide) ?_
  refine J.sub [(3, .int (nI 3)), (2, .ref wa), (0, .ref ps), (1, .ref oa)] ⟨rfl, rfl, rfl, rfl, trivial⟩ ?_
  exact outer 20 3 _ (by omega) (Nat.le_refl _) rfl (by decide) (fun k k1 k2 k3 => by omega)
end C33
