/-! goOn(), a step -/
section C26
variable {l : Launch} {B E0 : Nat} {D : va_G} {sr many n : Nat} {q : Nat → Nat} {NN : Nat → Nat → Prop} {t : Nat → Int} {o : Nat → Nat}
theorem iw_X4_goOn_X4 : ∀ w ∈ u_ws RX4 TX4 9, w ∈ wsX4_goOn := by decide +kernel
theorem c_goOn (v : Nat) {p : Nat} (hp : p ≤ n) (hs : ∀ i j, i < n → j < n → NN i j → NN j i) (hi : ∀ i, ¬ NN i i) (hb : ∀ i j, NN i j → j < n) (hG : p < n → goC l B E0 D sr q many n NN t o (v + 1) (p + 1)) : goC l B E0 D sr q many n NN t o (v + 3) p := by
  intro h few HH W w b MM R hw hH hM hP
  have R0 := R
  have n12 : n ≤ 12 := R.2.2.2.2.2.2.2.2.2.1
  have m4 : many ≤ 4 := R.2.2.2.2.2.2.2.2.1
  have fw : few ≤ 12 := R.2.2.2.2.2.2.2.2.2.2.1
  have R1 := R.1
  have ub := uC_le o W p
  have pre : ∀ V, Cm many n t NN p W V → uC o W p ≤ uC o V n := fun V hV => by
    rw [← uC_congr (f := o) (g := o) (c := V) (e := W) (n := p) (fun k hk => ⟨rfl, hV.1 k hk⟩)]
    exact uC_mono hp
  refine CM.of (cc := cX4_goOn) (maxL := 7) (ret := none) (by decide) rfl (Nat.le_of_ble_eq_true rfl) (fun X E hin => ?_)
  show J X B D 7 _ h 0 0 0 [(0, .ref sr), (1, .int (nI p)), (2, .int (nI (uC o W p))), (3, .int (bS MM))] []
  generalize hQ : jQ X B D _ _ _ = Q
  have out : (∀ V, Cm many n t NN p W V → few ≤ uC o V n) → J X B D 7 Q h 0 0 16 [(0, .ref sr)] [] := by
    intro hn
    rw [← hQ]
    exact j_vret E dX4_goOn_16 rfl (by omega) (by omega) ⟨rfl, few, w, b, R0, fun _ _ => rfl, Bst.none hn, fun _ _ _ _ _ => rfl⟩
  refine j_iload_n E dX4_goOn_0 rfl ?_
  refine j_aload_n E dX4_goOn_1 rfl ?_
  refine j_getfield (ref := "ColourParts$Search") (C := RX4) (T := TX4) (N := 9) (ci := 5) E 8 dX4_goOn_2 iw_X4_goOn_X4 rfl (by decide) (by decide +kernel) rfl (by first | with_reducible assumption | exact hput_eq _ _ _ | exact (hput_ne _ (by first | assumption | exact Ne.symm (by assumption))).trans (by assumption) | exact (hput_ne _ (by first | assumption | exact Ne.symm (by assumption))).trans (hput_eq _ _ _) | exact (hput_ne _ (by first | assumption | exact Ne.symm (by assumption))).trans ((hput_ne _ (by first | assumption | exact Ne.symm (by assumption))).trans (by assumption)) | exact (hput_ne _ (by first | assumption | exact Ne.symm (by assumption))).trans ((hput_ne _ (by first | assumption | exact Ne.symm (by assumption))).trans (hput_eq _ _ _))) rfl ?_
  refine j_icmp_ge E (tgt := 16) dX4_goOn_5 (by decide) (fun c1 => ?_) (fun c1 => ?_)
  · refine J.sub [(0, .ref sr)] ⟨rfl, trivial⟩ ?_
    have : few ≤ uC o W p := Nat.not_lt.mp (fun z => nI_ge z (by omega) c1)
    exact out (fun V hV => Nat.le_trans this (pre V hV))
  · have lf : uC o W p < few := Nat.not_le.mp (fun z => c1 (nI_le z (by omega)))
    refine j_aload_n E dX4_goOn_8 rfl ?_
    refine j_iload_n E dX4_goOn_9 rfl ?_
    refine j_callV (np := 1) (C := RX4) (T := TX4) (N := 9) (ci := 5) E (c_isDeadEnd v R0 hp) gX4_goOn_X4_isDeadEnd rfl ⟨rfl, by decide, by decide, by decide +kernel⟩ dX4_goOn_10 (by omega) (by decide) rfl R1 rfl rfl (Nat.le_of_ble_eq_true rfl) (by omega) (by omega) (fun r9 h9 p9 => J.pure p9 ?_)
    refine J.wide (k' := 0) (n' := 0) (by omega) (by omega) ?_
    refine j_if_eq E (tgt := 17) dX4_goOn_13 (by decide) (fun c2 => ?_) (fun c2 => ?_)
    ·
      refine j_iload_n E dX4_goOn_17 rfl ?_
      refine j_aload_n E dX4_goOn_18 rfl ?_
      refine j_getfield (ref := "ColourParts$Search") (C := RX4) (T := TX4) (N := 9) (ci := 5) E 1 dX4_goOn_19 iw_X4_goOn_X4 rfl (by decide) (by decide +kernel) rfl (by first | with_reducible assumption | exact hput_eq _ _ _ | exact (hput_ne _ (by first | assumption | exact Ne.symm (by assumption))).trans (by assumption) | exact (hput_ne _ (by first | assumption | exact Ne.symm (by assumption))).trans (hput_eq _ _ _) | exact (hput_ne _ (by first | assumption | exact Ne.symm (by assumption))).trans ((hput_ne _ (by first | assumption | exact Ne.symm (by assumption))).trans (by assumption)) | exact (hput_ne _ (by first | assumption | exact Ne.symm (by assumption))).trans ((hput_ne _ (by first | assumption | exact Ne.symm (by assumption))).trans (hput_eq _ _ _))) rfl ?_
      refine j_icmp_lt E (tgt := 46) dX4_goOn_22 (by decide) (fun c3 => ?_) (fun c3 => ?_)
      · have pn : p < n := Nat.not_le.mp (fun z => nI_nlt z (by omega) c3)
        have loop : ∀ (u c few1 : Nat) (h1 : HM) (w1 b1 : Nat → Int32), c + u = many → SR h1 sr q many n few1 NN t (afO o) HH w1 b1 → (∀ i, i < p → w1 i = w i) → Bst n o (fun V => Cm many n t NN p W V ∧ V p < c) few b few1 b1 → frS h h1 sr q → J X B D 7 Q h1 0 0 52 [(5, .int (nI c)), (4, .int (bI (∃ c0, c0 < c ∧ ¬ MM c0))), (0, .ref sr), (1, .int (nI p)), (2, .int (nI (uC o W p))), (3, .int (bS MM))] [] := by
          intro u
          induction u with
          | zero =>
            intro c few1 h1 w1 b1 hc R hw1 hB hF
            have R1 := R.1
            refine j_iload E dX4_goOn_52 rfl ?_
            refine j_aload_n E dX4_goOn_54 rfl ?_
            refine j_getfield (ref := "ColourParts$Search") (C := RX4) (T := TX4) (N := 9) (ci := 5) E 0 dX4_goOn_55 iw_X4_goOn_X4 rfl (by decide) (by decide +kernel) rfl (by first | with_reducible assumption | exact hput_eq _ _ _ | exact (hput_ne _ (by first | assumption | exact Ne.symm (by assumption))).trans (by assumption) | exact (hput_ne _ (by first | assumption | exact Ne.symm (by assumption))).trans (hput_eq _ _ _) | exact (hput_ne _ (by first | assumption | exact Ne.symm (by assumption))).trans ((hput_ne _ (by first | assumption | exact Ne.symm (by assumption))).trans (by assumption)) | exact (hput_ne _ (by first | assumption | exact Ne.symm (by assumption))).trans ((hput_ne _ (by first | assumption | exact Ne.symm (by assumption))).trans (hput_eq _ _ _))) rfl ?_
            refine j_icmp_ge E (tgt := 134) dX4_goOn_58 (by decide) (fun c4 => ?_) (fun c4 => ?_)
            ·
              rw [← hQ]
              exact j_vret E dX4_goOn_134 rfl (by omega) (by omega) ⟨rfl, few1, w1, b1, R, hw1, hB.congr (fun V => ⟨And.left, fun z => ⟨z, by have := (z.2 p pn).1; omega⟩⟩), hF⟩
            · exact absurd (nI_le (show many ≤ c by omega) (by omega)) c4
          | succ u ih =>
            intro c few1 h1 w1 b1 hc R hw1 hB hF
            have R1 := R.1
            have hcm : c < many := by omega
            have next : ∀ (few2 : Nat) (h2 : HM) (w2 b2 : Nat → Int32), SR h2 sr q many n few2 NN t (afO o) HH w2 b2 → (∀ i, i < p → w2 i = w i) → Bst n o (fun V => Cm many n t NN p W V ∧ V p < c + 1) few b few2 b2 → frS h h2 sr q → J X B D 7 Q h2 0 0 111 [(6, .int (bI (¬ MM c))), (5, .int (nI c)), (4, .int (bI (∃ c0, c0 < c ∧ ¬ MM c0))), (0, .ref sr), (1, .int (nI p)), (2, .int (nI (uC o W p))), (3, .int (bS MM))] [] := by
              intro few2 h2 w2 b2 R2 hw2 hB2 hF2
              have fin : J X B D 7 Q h2 0 0 126 [(6, .int (bI (¬ MM c))), (5, .int (nI c)), (4, .int (bI (∃ c0, c0 < c ∧ ¬ MM c0))), (0, .ref sr), (1, .int (nI p)), (2, .int (nI (uC o W p))), (3, .int (bS MM))] [.int (bI (∃ c0, c0 < c + 1 ∧ ¬ MM c0))] := by
                refine j_istore E dX4_goOn_126 (by decide) ?_
                refine j_iinc E dX4_goOn_128 rfl (nI_1 c) (by decide) ?_
                refine j_goto E (tgt := 52) dX4_goOn_131 (by decide) ?_
                refine J.sub [(5, .int (nI (c + 1))), (4, .int (bI (∃ c0, c0 < c + 1 ∧ ¬ MM c0))), (0, .ref sr), (1, .int (nI p)), (2, .int (nI (uC o W p))), (3, .int (bS MM))] ⟨rfl, rfl, rfl, rfl, rfl, rfl, trivial⟩ ?_
                exact ih (c + 1) few2 h2 w2 b2 (by omega) R2 hw2 hB2 hF2
              refine j_iload E dX4_goOn_111 rfl ?_
              refine j_if_ne E (tgt := 121) dX4_goOn_113 (by decide) (fun d1 => ?_) (fun d1 => ?_)
              · obtain ⟨c0, g1, g2⟩ := bI_n.mp d1
                refine j_iconst (x := nI 1) E dX4_goOn_121 (by decide) ?_
                refine J.topi (x' := bI (∃ c0, c0 < c + 1 ∧ ¬ MM c0)) ((bI_t (show ∃ c0, c0 < c + 1 ∧ ¬ MM c0 from ⟨c0, by omega, g2⟩)).symm) ?_
                refine j_goto E (tgt := 126) dX4_goOn_122 (by decide) ?_
                exact fin
              · have n1 := bI_z.mp d1
                refine j_iload E dX4_goOn_116 rfl ?_
                refine j_if_eq E (tgt := 125) dX4_goOn_118 (by decide) (fun d2 => ?_) (fun d2 => ?_)
                · have n2 := bI_z.mp d2
                  have n3 : ¬ ∃ c0, c0 < c + 1 ∧ ¬ MM c0 := fun ⟨c0, g1, g2⟩ => by
                    rcases Nat.lt_or_eq_of_le (Nat.le_of_lt_succ g1) with z | z
                    · exact n1 ⟨c0, z, g2⟩
                    · exact n2 (z ▸ g2)
                  refine j_iconst (x := nI 0) E dX4_goOn_125 (by decide) ?_
                  refine J.topi (x' := bI (∃ c0, c0 < c + 1 ∧ ¬ MM c0)) ((bI_f n3).symm) ?_
                  exact fin
                ·
                  refine j_iconst (x := nI 1) E dX4_goOn_121 (by decide) ?_
                  refine J.topi (x' := bI (∃ c0, c0 < c + 1 ∧ ¬ MM c0)) ((bI_t (show ∃ c0, c0 < c + 1 ∧ ¬ MM c0 from ⟨c, Nat.lt_succ_self _, bI_n.mp d2⟩)).symm) ?_
                  refine j_goto E (tgt := 126) dX4_goOn_122 (by decide) ?_
                  exact fin
            have join : J X B D 7 Q h1 0 0 75 [(5, .int (nI c)), (4, .int (bI (∃ c0, c0 < c ∧ ¬ MM c0))), (0, .ref sr), (1, .int (nI p)), (2, .int (nI (uC o W p))), (3, .int (bS MM))] [.int (bI (¬ MM c))] := by
              have hw' : ∀ i, i < p → w1 i = nI (W i) ∧ W i < many := fun i hi => ⟨(hw1 i hi).trans (hw i hi).1, (hw i hi).2⟩
              have ec : ∀ V, Cm many n t NN (p + 1) (updN W p c) V ↔ Cm many n t NN p W V ∧ V p = c := fun V => ⟨fun z => ⟨⟨fun i hi => by rw [z.1 i (by omega), updN_ne (by omega)], z.2⟩, by rw [z.1 p (by omega), updN_eq]⟩, fun z => ⟨fun i hi => by
                by_cases e : i = p
                · rw [e, updN_eq]; exact z.2
                · rw [updN_ne e]; exact z.1.1 i (by omega), z.1.2⟩⟩
              have hl : ∀ V V2, (Cm many n t NN p W V ∧ V p < c) → (Cm many n t NN p W V2 ∧ V2 p = c) → lexL n V V2 := fun V V2 a b => Or.inr ⟨p, pn, fun j hj => by rw [a.1.1 j hj, b.1.1 j hj], by rw [b.2]; exact a.2⟩
              have es : ∀ V, ((Cm many n t NN p W V ∧ V p < c) ∨ (Cm many n t NN p W V ∧ V p = c)) ↔ (Cm many n t NN p W V ∧ V p < c + 1) := fun V => ⟨fun z => z.elim (fun z => ⟨z.1, by omega⟩) (fun z => ⟨z.1, by omega⟩), fun z => by
                by_cases e : V p = c
                · exact Or.inr ⟨z.1, e⟩
                · exact Or.inl ⟨z.1, by omega⟩⟩
              refine j_istore E dX4_goOn_75 (by decide) ?_
              refine j_aload_n E dX4_goOn_77 rfl ?_
              refine j_iload_n E dX4_goOn_78 rfl ?_
              refine j_iload E dX4_goOn_79 rfl ?_
              refine j_callV (np := 2) (C := RX4) (T := TX4) (N := 9) (ci := 5) E (c_canHave (v + 1) R pn hcm) gX4_goOn_X4_canHave rfl ⟨rfl, by decide, by decide, by decide +kernel⟩ dX4_goOn_81 (by omega) (by decide) rfl (by first | with_reducible assumption | exact hput_eq _ _ _ | exact (hput_ne _ (by first | assumption | exact Ne.symm (by assumption))).trans (by assumption) | exact (hput_ne _ (by first | assumption | exact Ne.symm (by assumption))).trans (hput_eq _ _ _) | exact (hput_ne _ (by first | assumption | exact Ne.symm (by assumption))).trans ((hput_ne _ (by first | assumption | exact Ne.symm (by assumption))).trans (by assumption)) | exact (hput_ne _ (by first | assumption | exact Ne.symm (by assumption))).trans ((hput_ne _ (by first | assumption | exact Ne.symm (by assumption))).trans (hput_eq _ _ _))) rfl rfl (Nat.le_of_ble_eq_true rfl) (by omega) (by omega) (fun r9 h9 p9 => J.pure p9 ?_)
              refine J.wide (k' := 0) (n' := 0) (by omega) (by omega) ?_
              refine j_if_eq E (tgt := 111) dX4_goOn_84 (by decide) (fun c6 => ?_) (fun c6 => ?_)
              · have nh := bI_z.mp c6
                exact next few1 h1 w1 b1 R hw1 (hB.congr (fun V => ⟨fun z => ⟨z.1, by omega⟩, fun z => ⟨z.1, by
                  have : V p ≠ c := fun e => nh (no_hv hs hi n12 hb hH z.1 pn (Nat.le_refl _) hcm e)
                  omega⟩⟩)) hF
              · have hh := bI_n.mp c6
                have try_ : J X B D 7 Q h1 0 0 97 [(6, .int (bI (¬ MM c))), (5, .int (nI c)), (4, .int (bI (∃ c0, c0 < c ∧ ¬ MM c0))), (0, .ref sr), (1, .int (nI p)), (2, .int (nI (uC o W p))), (3, .int (bS MM))] [] := by
                  refine j_aload_n E dX4_goOn_97 rfl ?_
                  refine j_iload_n E dX4_goOn_98 rfl ?_
                  refine j_iload E dX4_goOn_99 rfl ?_
                  refine j_iload_n E dX4_goOn_101 rfl ?_
                  refine j_iload_n E dX4_goOn_102 rfl ?_
                  refine j_iconst (x := nI 1) E dX4_goOn_103 (by decide) ?_
                  refine j_iload E dX4_goOn_104 rfl ?_
                  refine j_ishl E dX4_goOn_106 ?_
                  refine j_ior E dX4_goOn_107 ?_
                  refine J.topi (x' := bS (fun i => MM i ∨ i = c)) (bS_add MM (by omega)) ?_
                  refine j_callV (np := 4) (C := RX4) (T := TX4) (N := 9) (ci := 5) E (c_tryColour v (hG pn) R pn hcm hw' hH hM hP hs hh) gX4_goOn_X4_tryColour rfl ⟨rfl, by decide, by decide, by decide +kernel⟩ dX4_goOn_108 (by omega) (by decide) rfl (by first | with_reducible assumption | exact hput_eq _ _ _ | exact (hput_ne _ (by first | assumption | exact Ne.symm (by assumption))).trans (by assumption) | exact (hput_ne _ (by first | assumption | exact Ne.symm (by assumption))).trans (hput_eq _ _ _) | exact (hput_ne _ (by first | assumption | exact Ne.symm (by assumption))).trans ((hput_ne _ (by first | assumption | exact Ne.symm (by assumption))).trans (by assumption)) | exact (hput_ne _ (by first | assumption | exact Ne.symm (by assumption))).trans ((hput_ne _ (by first | assumption | exact Ne.symm (by assumption))).trans (hput_eq _ _ _))) rfl rfl (Nat.le_of_ble_eq_true rfl) (by omega) (by omega) (fun r h2 p2 => ?_)
                  obtain ⟨rfl, few2, w2, b2, R2, g1, g2, g3⟩ := p2
                  refine J.wide (k' := 0) (n' := 0) (by omega) (by omega) ?_
                  exact next few2 h2 w2 b2 R2 (fun i hi => (g1 i hi).trans (hw1 i hi)) ((hB.join (g2.congr ec) hl).congr es) (fun y y1 y2 y3 y4 => (g3 y y1 y2 y3 y4).trans (hF y y1 y2 y3 y4))
                refine j_iload E dX4_goOn_87 rfl ?_
                refine j_if_eq E (tgt := 97) dX4_goOn_89 (by decide) (fun c7 => ?_) (fun c7 => ?_)
                · exact try_
                · have nw := bI_n.mp c7
                  refine j_iload E dX4_goOn_92 rfl ?_
                  refine j_if_ne E (tgt := 111) dX4_goOn_94 (by decide) (fun c8 => ?_) (fun c8 => ?_)
                  · obtain ⟨c0, g1, g2⟩ := bI_n.mp c8
                    exact next few1 h1 w1 b1 R hw1 ((hB.skip (S2 := fun V => Cm many n t NN p W V ∧ V p = c) (fun V2 z => by
                      obtain ⟨a1, a2, a3⟩ := swap_ok hM z.1 hcm (show c0 < many by omega) nw g2 pn z.2
                      exact ⟨_, ⟨a1, Nat.lt_of_le_of_lt (Nat.le_of_eq a2) g1⟩, a3⟩) hl).congr es) hF
                  · exact try_
            refine j_iload E dX4_goOn_52 rfl ?_
            refine j_aload_n E dX4_goOn_54 rfl ?_
            refine j_getfield (ref := "ColourParts$Search") (C := RX4) (T := TX4) (N := 9) (ci := 5) E 0 dX4_goOn_55 iw_X4_goOn_X4 rfl (by decide) (by decide +kernel) rfl (by first | with_reducible assumption | exact hput_eq _ _ _ | exact (hput_ne _ (by first | assumption | exact Ne.symm (by assumption))).trans (by assumption) | exact (hput_ne _ (by first | assumption | exact Ne.symm (by assumption))).trans (hput_eq _ _ _) | exact (hput_ne _ (by first | assumption | exact Ne.symm (by assumption))).trans ((hput_ne _ (by first | assumption | exact Ne.symm (by assumption))).trans (by assumption)) | exact (hput_ne _ (by first | assumption | exact Ne.symm (by assumption))).trans ((hput_ne _ (by first | assumption | exact Ne.symm (by assumption))).trans (hput_eq _ _ _))) rfl ?_
            refine j_icmp_ge E (tgt := 134) dX4_goOn_58 (by decide) (fun c4 => ?_) (fun c4 => ?_)
            · exact absurd c4 (nI_ge hcm (by omega))
            ·
              refine j_iload_n E dX4_goOn_61 rfl ?_
              refine j_iload E dX4_goOn_62 rfl ?_
              refine j_ishr E dX4_goOn_64 ?_
              refine j_iconst (x := nI 1) E dX4_goOn_65 (by decide) ?_
              refine j_iand E dX4_goOn_66 ?_
              refine J.topi (x' := bI (MM c)) (bS_has MM (by omega)) ?_
              refine j_if_ne E (tgt := 74) dX4_goOn_67 (by decide) (fun c5 => ?_) (fun c5 => ?_)
              ·
                refine j_iconst (x := nI 0) E dX4_goOn_74 (by decide) ?_
                refine J.topi (x' := bI (¬ MM c)) ((bI_f (fun z => z (bI_n.mp c5))).symm) ?_
                exact join
              ·
                refine j_iconst (x := nI 1) E dX4_goOn_70 (by decide) ?_
                refine J.topi (x' := bI (¬ MM c)) ((bI_t (bI_z.mp c5)).symm) ?_
                refine j_goto E (tgt := 75) dX4_goOn_71 (by decide) ?_
                exact join
        refine j_iconst (x := nI 0) E dX4_goOn_46 (by decide) ?_
        refine j_istore E dX4_goOn_47 (by decide) ?_
        refine j_iconst (x := nI 0) E dX4_goOn_49 (by decide) ?_
        refine j_istore E dX4_goOn_50 (by decide) ?_
        refine J.sub [(5, .int (nI 0)), (4, .int (bI (∃ c0, c0 < 0 ∧ ¬ MM c0))), (0, .ref sr), (1, .int (nI p)), (2, .int (nI (uC o W p))), (3, .int (bS MM))] ⟨rfl, by rw [bI_f (fun ⟨c0, z, _⟩ => Nat.not_lt_zero _ z)]; rfl, rfl, rfl, rfl, rfl, trivial⟩ ?_
        exact loop many 0 few h w b (by omega) R0 (fun _ _ => rfl) (Bst.none (fun V hV => absurd hV.2 (Nat.not_lt_zero _))) (fun _ _ _ _ _ => rfl)
      · have en : p = n := by
          have := Nat.not_lt.mp (fun z => c3 (nI_lt z (by omega)))
          omega
        have R2 := R0.setFew (few1 := uC o W p) (by omega) (fs := ([.int (nI many), .int (nI n), .ref (q 2), .ref (q 3), .ref (q 4), .ref (q 5), .ref (q 6), .ref (q 7), .int (nI few)] : List Value).set 8 (.int (nI (uC o W p)))) rfl
        have K2 : ∀ y, y ≠ sr → hput h sr (hO 5 (([.int (nI many), .int (nI n), .ref (q 2), .ref (q 3), .ref (q 4), .ref (q 5), .ref (q 6), .ref (q 7), .int (nI few)] : List Value).set 8 (.int (nI (uC o W p))))) y = h y := fun y hy => hput_ne _ hy
        refine j_aload_n E dX4_goOn_25 rfl ?_
        refine j_iload_n E dX4_goOn_26 rfl ?_
        refine j_putfield (ref := "ColourParts$Search") (C := RX4) (T := TX4) (N := 9) (ci := 5) E 8 dX4_goOn_27 iw_X4_goOn_X4 tyX4 tyX4_ok nmX4 rfl (by decide) (by decide +kernel) rfl rfl rfl rfl (by first | with_reducible assumption | exact hput_eq _ _ _ | exact (hput_ne _ (by first | assumption | exact Ne.symm (by assumption))).trans (by assumption) | exact (hput_ne _ (by first | assumption | exact Ne.symm (by assumption))).trans (hput_eq _ _ _) | exact (hput_ne _ (by first | assumption | exact Ne.symm (by assumption))).trans ((hput_ne _ (by first | assumption | exact Ne.symm (by assumption))).trans (by assumption)) | exact (hput_ne _ (by first | assumption | exact Ne.symm (by assumption))).trans ((hput_ne _ (by first | assumption | exact Ne.symm (by assumption))).trans (hput_eq _ _ _))) (Nat.le_of_ble_eq_true rfl) ?_
        generalize hput h sr (hO 5 _) = h2 at R2 K2 ⊢
        have S1 := R2.1
        have F6 := R2.2.2.2.2.2.1
        have F7 := R2.2.2.2.2.2.2.1
        refine j_aload_n E dX4_goOn_30 rfl ?_
        refine j_getfield (ref := "ColourParts$Search") (C := RX4) (T := TX4) (N := 9) (ci := 5) E 6 dX4_goOn_31 iw_X4_goOn_X4 rfl (by decide) (by decide +kernel) rfl (by first | with_reducible assumption | exact hput_eq _ _ _ | exact (hput_ne _ (by first | assumption | exact Ne.symm (by assumption))).trans (by assumption) | exact (hput_ne _ (by first | assumption | exact Ne.symm (by assumption))).trans (hput_eq _ _ _) | exact (hput_ne _ (by first | assumption | exact Ne.symm (by assumption))).trans ((hput_ne _ (by first | assumption | exact Ne.symm (by assumption))).trans (by assumption)) | exact (hput_ne _ (by first | assumption | exact Ne.symm (by assumption))).trans ((hput_ne _ (by first | assumption | exact Ne.symm (by assumption))).trans (hput_eq _ _ _))) rfl ?_
        refine j_iconst (x := nI 0) E dX4_goOn_34 (by decide) ?_
        refine j_aload_n E dX4_goOn_35 rfl ?_
        refine j_getfield (ref := "ColourParts$Search") (C := RX4) (T := TX4) (N := 9) (ci := 5) E 7 dX4_goOn_36 iw_X4_goOn_X4 rfl (by decide) (by decide +kernel) rfl (by first | with_reducible assumption | exact hput_eq _ _ _ | exact (hput_ne _ (by first | assumption | exact Ne.symm (by assumption))).trans (by assumption) | exact (hput_ne _ (by first | assumption | exact Ne.symm (by assumption))).trans (hput_eq _ _ _) | exact (hput_ne _ (by first | assumption | exact Ne.symm (by assumption))).trans ((hput_ne _ (by first | assumption | exact Ne.symm (by assumption))).trans (by assumption)) | exact (hput_ne _ (by first | assumption | exact Ne.symm (by assumption))).trans ((hput_ne _ (by first | assumption | exact Ne.symm (by assumption))).trans (hput_eq _ _ _))) rfl ?_
        refine j_iconst (x := nI 0) E dX4_goOn_39 (by decide) ?_
        refine j_bipush (x := nI 12) E dX4_goOn_40 (by decide) ?_
        refine j_copyI E 12 dX4_goOn_42 (by decide +kernel) (by decide +kernel) (by decide +kernel) (by decide +kernel) (by omega) (Nat.le_of_ble_eq_true rfl) F6 F7 (by decide) (by decide) (Nat.le_refl _) (Nat.le_refl _) (by decide) ?_
        have R3 := R2.setBest (va_cpy w b 0 0 12)
        have pv : PV many n t NN W := fun k hk => ⟨(hw k (by omega)).2, hP k (by omega)⟩
        rw [← hQ]
        refine j_vret E dX4_goOn_45 rfl (by omega) (by omega) ⟨rfl, _, w, _, R3, fun _ _ => rfl, Or.inr ⟨W, ⟨fun _ _ => rfl, pv⟩, by rw [en], lf, fun i hi => ?_, fun V2 hV => ⟨pre V2 hV, fun _ => Or.inl (fun i hi => (hV.1 i (by omega)).symm)⟩⟩, fun y y1 y2 y3 y4 => (hput_ne _ y4).trans (K2 y y1)⟩
        rw [pk_cpy_in (Nat.zero_le _) (by omega), Nat.zero_add, Nat.sub_zero]
        exact (hw i (by omega)).1
    · obtain ⟨k, h1, h2, h3⟩ := bI_n.mp c2
      refine J.sub [(0, .ref sr)] ⟨rfl, trivial⟩ ?_
      exact out (fun V hV => absurd (no_hv hs hi n12 hb hH hV h2 h1 (hV.2 k h2).1 rfl) (h3 _ (hV.2 k h2).1))
end C26
