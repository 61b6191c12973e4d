/-! cutShapes() -/
def pbb (ss : List SH) (p : Nat) : List BB := pbx (gS ss (ow ss p)) (nu ss p)
theorem PSR.on {E0 : Nat} {h0 h h1 : HM} {ps row re : Nat} {pg : List PG} {o : Nat → Nat} {t : Nat → Int} {bb : Nat → List BB} {N : Nat → Nat → Prop} (R : PSR E0 h0 h ps row re pg o t bb N) (f : onF h h1) : PSR E0 h0 h1 ps row re pg o t bb N := by
  obtain ⟨⟨c1, c2, c3, c4, c5⟩, r1, r2, r3, r4, r5⟩ := R
  obtain ⟨⟨zl, hl1⟩, ne, fe, hl2⟩ := r2.ty
  refine ⟨⟨c1.tr f, c2, c3, c4, c5⟩, f.at r1, r2.keep ((f.at hl1).trans hl1.symm) ((f.at hl2).trans hl2.symm), r3, fun p hp => ?_, r5⟩
  obtain ⟨s1, s2, s3, s4⟩ := r4 p hp
  exact ⟨s1, f.at s2, s3.on f, s4⟩
section C18
variable {l : Launch} {B E0 : Nat} {D : va_G} {h : HM} {T : Nat → Nat} {c : Nat} {d : Int} {ss : List SH} {kp : Option KPs} {rg : List Nat} {cl : Prop} {gs : List SG} {la le ra : Nat} {kr : Value}
theorem iw_X6_cutShapes_X3 : ∀ w ∈ u_ws RX3 TX3 1, w ∈ wsX6_cutShapes := by decide +kernel
theorem iw_X6_cutShapes_X5 : ∀ w ∈ u_ws RX5 TX5 9, w ∈ wsX6_cutShapes := by decide +kernel
theorem iw_X6_cutShapes_X6 : ∀ w ∈ u_ws RX6 TX6 6, w ∈ wsX6_cutShapes := by decide +kernel
theorem c_cutShapes (v : Nat) (R : CR E0 h T c d ss kp rg cl gs la le ra kr) (hw : wfSS ss) (nop : ¬ opS ss) : CM l B E0 D yX6_cutShapes wsX6_cutShapes (v + 8) 62 496 [.ref c] h (fun r h1 => ∃ ps row re pg, r = some (.ref ps) ∧ pg.length = tS ss ss.length ∧ PSR E0 h h1 ps row re pg (ow ss) (td ss) (pbb ss) (fun _ _ => False)) := by
  obtain ⟨f0, hE⟩ := R.1
  have R1 := R.2.1
  obtain ⟨L, hL, zl, hl⟩ := R.lst
  have h10 := hw.1
  have h12 := hw.2.1
  have nn : ∀ {q o}, h q = some o → h q ≠ none := fun e w => by rw [e] at w; cases w
  refine CM.of (cc := cX6_cutShapes) (maxL := 5) (ret := (some (.object "ColourParts$Pieces"))) (by decide) rfl (Nat.le_of_ble_eq_true rfl) (fun X E hin => ?_)
  show J X B D 5 _ h 0 0 0 [(0, .ref c)] []
  generalize hQ : jQ X B D _ _ _ = Q
  refine j_new (C := RX3) (T := TX3) (N := 1) (ci := 4) E [.null] dX6_cutShapes_0 iw_X6_cutShapes_X3 tyX3 tyX3_ok (by decide +kernel) (by decide +kernel) (by decide +kernel) rfl (by decide) (by omega) (by omega) (fun ps nps bps => ?_)
  refine j_dup E dX6_cutShapes_3 rfl ?_
  refine j_callIN (np := 0) E (c_piecesInit v (h := hput h ps (hO 4 [.null])) ((hput_ne _ (hm_neN hE nps)).trans hE) (hput_eq _ _ _)) gX6_cutShapes_X3_init_n237 rfl (by decide +kernel) E.2.2.2.2.2.2.2.1.1.2.2.2.2.2.2.2.2.1 (by decide +kernel) rfl ⟨by decide, by decide, by decide +kernel⟩ dX6_cutShapes_4 (by omega) (by decide) rfl rfl (Nat.le_of_ble_eq_true rfl) (by omega) (by omega) (fun r h1 p => ?_)
  obtain ⟨rfl, row, nrow, q1, q2, q3⟩ := p
  have nrow2 := hput_none nrow
  refine J.wide (k' := 2) (n' := 4) (by omega) (by omega) ?_
  have o1 : onF h h1 := fun z hz => by
    have zq : z ≠ ps := fun e => hz (by rw [e]; exact nps)
    exact (q3 z (by rw [hput_ne _ zq]; exact hz) zq).trans (hput_ne _ zq)
  have P0 : PSR E0 h h1 ps row E0 [] (ow ss) (td ss) (pbb ss) (fun _ _ => False) := ⟨⟨o1, nps, nrow2.1, fun e => absurd rfl e, f0, hE⟩, q1, q2, Nat.zero_le _, fun p hp => absurd hp (Nat.not_lt_zero _), fun p q hp => absurd hp (Nat.not_lt_zero _)⟩
  have outer : ∀ (t i : Nat) (h1 : HM) (re : Nat) (pg : List PG), i + t = ss.length → pg.length = tS ss i → PSR E0 h h1 ps row re pg (ow ss) (td ss) (pbb ss) (fun _ _ => False) → J X B D 5 Q h1 (5 * pg.length + 2) (41 * pg.length + 4) 10 [(2, .int (nI i)), (1, .ref ps), (0, .ref c)] [] := by
    intro t
    induction t with
    | zero =>
      intro i h1 re pg hi hpg P
      have o1 := P.1.1
      obtain ⟨-, ne, fe, hl2⟩ := L.ty
      have hi2 : i = ss.length := by omega
      subst hi2
      refine j_iload_n E dX6_cutShapes_10 rfl ?_
      refine j_aload_n E dX6_cutShapes_11 rfl ?_
      refine j_getfield (ref := "ColourParts") (C := RX6) (T := TX6) (N := 6) (ci := 7) E 1 dX6_cutShapes_12 iw_X6_cutShapes_X6 rfl (by decide) (by decide +kernel) rfl (o1.at R1) rfl ?_
      refine j_callV (np := 0) (C := RJx4a65c) (T := TJx4a65c) (N := 3) (ci := 0) E (c_size (v + 2) (L.keep ((o1.at hl).trans hl.symm) ((o1.at hl2).trans hl2.symm))) gX6_cutShapes_Jx4a65c_size_8abf5 rfl ⟨rfl, by decide, by decide, by decide +kernel⟩ dX6_cutShapes_15 (by omega) (by decide) rfl (o1.at hl) rfl rfl (Nat.le_of_ble_eq_true rfl) (by omega) (by omega) (fun r9 h9 p9 => J.pure p9 ?_)
      rw [hL]
      refine J.wide (k' := 62) (n' := 496) (by omega) (by omega) ?_
      refine j_icmp_ge E (tgt := 72) dX6_cutShapes_18 (by decide) (fun c1 => ?_) (fun c1 => ?_)
      ·
        refine j_aload_n E dX6_cutShapes_72 rfl ?_
        rw [← hQ]
        exact j_aret E dX6_cutShapes_73 rfl (Or.inl ⟨_, rfl⟩) (by omega) (by omega) ⟨ps, row, re, pg, rfl, hpg, P⟩
      · exact absurd (Int32.le_refl _) c1
    | succ t ih =>
      intro i h1 re pg hi hpg P
      have o1 := P.1.1
      obtain ⟨-, ne, fe, hl2⟩ := L.ty
      have hil : i < ss.length := by omega
      have L1 := L.keep ((o1.at hl).trans hl.symm) ((o1.at hl2).trans hl2.symm)
      have SR := R.sh hil
      obtain ⟨⟨hx, hy, S1, -⟩, -⟩ := R.sh hil
      unfold shF at S1
      have hwi := hw.2.2 i hil
      have nopi : ¬ opn (gS ss i) := fun w => nop ⟨i, hil, w⟩
      have hti : tS ss (i + 1) ≤ 12 := tS_bnd ss hw (by omega)
      have htn : tS ss (i + 1) = tS ss i + (nk (gS ss i) + 1) := rfl
      refine j_iload_n E dX6_cutShapes_10 rfl ?_
      refine j_aload_n E dX6_cutShapes_11 rfl ?_
      refine j_getfield (ref := "ColourParts") (C := RX6) (T := TX6) (N := 6) (ci := 7) E 1 dX6_cutShapes_12 iw_X6_cutShapes_X6 rfl (by decide) (by decide +kernel) rfl (o1.at R1) rfl ?_
      refine j_callV (np := 0) (C := RJx4a65c) (T := TJx4a65c) (N := 3) (ci := 0) E (c_size (v + 2) L1) gX6_cutShapes_Jx4a65c_size_8abf5 rfl ⟨rfl, by decide, by decide, by decide +kernel⟩ dX6_cutShapes_15 (by omega) (by decide) rfl (o1.at hl) rfl rfl (Nat.le_of_ble_eq_true rfl) (by omega) (by omega) (fun r9 h9 p9 => J.pure p9 ?_)
      rw [hL]
      refine J.wide (k' := 5 * pg.length + 2) (n' := 41 * pg.length + 4) (by omega) (by omega) ?_
      refine j_icmp_ge E (tgt := 72) dX6_cutShapes_18 (by decide) (fun c1 => ?_) (fun c1 => ?_)
      · exact absurd c1 (nI_ge hil (by omega))
      ·
        refine j_aload_n E dX6_cutShapes_21 rfl ?_
        refine j_getfield (ref := "ColourParts") (C := RX6) (T := TX6) (N := 6) (ci := 7) E 1 dX6_cutShapes_22 iw_X6_cutShapes_X6 rfl (by decide) (by decide +kernel) rfl (o1.at R1) rfl ?_
        refine j_iload_n E dX6_cutShapes_25 rfl ?_
        refine j_callV (np := 1) (C := RJx4a65c) (T := TJx4a65c) (N := 3) (ci := 0) E (c_get v L1 (show i < (gs.map (·.1)).length by omega) (by omega)) gX6_cutShapes_Jx4a65c_get_915e3 rfl ⟨rfl, by decide, by decide, by decide +kernel⟩ dX6_cutShapes_26 (by omega) (by decide) rfl (o1.at hl) rfl rfl (Nat.le_of_ble_eq_true rfl) (by omega) (by omega) (fun r9 h9 p9 => J.pure p9 ?_)
        rw [R.el]
        refine J.wide (k' := 5 * pg.length + 2) (n' := 41 * pg.length + 4) (by omega) (by omega) ?_
        have inner : ∀ (t2 k : Nat) (h1 : HM) (re : Nat) (pg : List PG), k + t2 = nk (gS ss i) + 1 → pg.length = tS ss i + k → PSR E0 h h1 ps row re pg (ow ss) (td ss) (pbb ss) (fun _ _ => False) → J X B D 5 Q h1 (5 * pg.length + 2) (41 * pg.length + 4) 36 [(4, .int (nI k)), (3, .ref (gG gs i).1), (2, .int (nI i)), (1, .ref ps), (0, .ref c)] [] := by
          intro t2
          induction t2 with
          | zero =>
            intro k h1 re pg hk hpg P
            have o1 := P.1.1
            refine j_iload E dX6_cutShapes_36 rfl ?_
            refine j_aload_n E dX6_cutShapes_38 rfl ?_
            refine j_getfield (ref := "ColourParts$Shape") (C := RX5) (T := TX5) (N := 9) (ci := 6) E 2 dX6_cutShapes_39 iw_X6_cutShapes_X5 rfl (by decide) (by decide +kernel) rfl (o1.at S1) rfl ?_
            refine j_icmp_gt E (tgt := 66) dX6_cutShapes_42 (by decide) (fun c2 => ?_) (fun c2 => ?_)
            ·
              refine j_iinc E dX6_cutShapes_66 rfl (nI_1 i) (by decide) ?_
              refine j_goto E (tgt := 10) dX6_cutShapes_69 (by decide) ?_
              refine J.sub [(2, .int (nI (i + 1))), (1, .ref ps), (0, .ref c)] ⟨rfl, rfl, rfl, trivial⟩ ?_
              exact ih (i + 1) h1 re pg (by omega) (by omega) P
            · exact absurd (nI_lt (show nk (gS ss i) < k by omega) (by omega)) c2
          | succ t2 ih2 =>
            intro k h1 re pg hk hpg P
            have o1 := P.1.1
            have hkl : k ≤ nk (gS ss i) := by omega
            have eo : ow ss pg.length = i := by rw [hpg]; exact ow_at hil hkl
            have en : nu ss pg.length = k := by rw [hpg]; exact nu_at hil hkl
            have et : td ss pg.length = tl (gS ss i) := by unfold td; rw [eo]
            refine j_iload E dX6_cutShapes_36 rfl ?_
            refine j_aload_n E dX6_cutShapes_38 rfl ?_
            refine j_getfield (ref := "ColourParts$Shape") (C := RX5) (T := TX5) (N := 9) (ci := 6) E 2 dX6_cutShapes_39 iw_X6_cutShapes_X5 rfl (by decide) (by decide +kernel) rfl (o1.at S1) rfl ?_
            refine j_icmp_gt E (tgt := 66) dX6_cutShapes_42 (by decide) (fun c2 => ?_) (fun c2 => ?_)
            · exact absurd c2 (nI_nlt hkl (by omega))
            ·
              refine j_aload_n E dX6_cutShapes_45 rfl ?_
              refine j_iload_n E dX6_cutShapes_46 rfl ?_
              refine j_aload_n E dX6_cutShapes_47 rfl ?_
              refine j_getfield (ref := "ColourParts$Shape") (C := RX5) (T := TX5) (N := 9) (ci := 6) E 4 dX6_cutShapes_48 iw_X6_cutShapes_X5 rfl (by decide) (by decide +kernel) rfl (o1.at S1) rfl ?_
              refine j_aload_n E dX6_cutShapes_51 rfl ?_
              refine j_iload E dX6_cutShapes_52 rfl ?_
              refine j_callV (np := 1) (C := RX5) (T := TX5) (N := 9) (ci := 6) E (c_pieceBoxes v (SR.on o1) hwi (o1.at hE) nopi hkl) gX6_cutShapes_X5_pieceBoxes rfl ⟨rfl, by decide, by decide, by decide +kernel⟩ dX6_cutShapes_54 (by omega) (by decide) rfl (o1.at S1) rfl rfl (Nat.le_of_ble_eq_true rfl) (by omega) (by omega) (fun r h2 p => ?_)
              obtain ⟨bl, be, els, rfl, o2, BL, hfr⟩ := p
              refine J.wide (k' := 5 * pg.length + 5) (n' := 41 * pg.length + 26) (by omega) (by omega) ?_
              have P2 := P.on o2
              obtain ⟨⟨-, g2, g3, g4, -⟩, g5, g6, -⟩ := P
              obtain ⟨⟨zr, hr1⟩, nr2, fr2, hr2⟩ := g6.ty
              obtain ⟨b1, b2, b3, b4, b5⟩ := SR.nn
              have hbl : bl ≠ row := by
                rcases hfr with ⟨e, -⟩ | ⟨e, -⟩
                · intro z; rw [← e, z] at b2; exact b2 g3
                · intro z; rw [z, hr1] at e; cases e
              have hbe : be = re → re = E0 := by
                intro z
                rcases hfr with ⟨-, e⟩ | ⟨-, e | e⟩
                · by_cases e2 : re = E0
                  · exact e2
                  · rw [← e, z] at b3; exact absurd (g4 e2) b3
                · exact z.symm.trans e
                · rw [z, hr2] at e; cases e
              have hbb : pbb ss pg.length = pbx (gS ss i) k := by unfold pbb; rw [eo, en]
              refine J.stk (st' := [.ref bl, .int (iZ (td ss pg.length)), .int (nI (ow ss pg.length)), .ref ps]) (by rw [eo, et]; rfl) ?_
              refine j_callV (np := 3) (C := RX3) (T := TX3) (N := 1) (ci := 4) E (c_padd v P2 (by omega) bS_0 (hbb ▸ BL) hbl hbe) gX6_cutShapes_X3_add rfl ⟨rfl, by decide, by decide, by decide +kernel⟩ dX6_cutShapes_57 (by omega) (by decide) rfl (o2.at g5) rfl rfl (Nat.le_of_ble_eq_true rfl) (by omega) (by omega) (fun r h3 p => ?_)
              obtain ⟨rfl, re1, q, P3⟩ := p
              refine J.wide (k' := 5 * (pg ++ [(q, bl, be, els)]).length + 2) (n' := 41 * (pg ++ [(q, bl, be, els)]).length + 4) (by rw [List.length_append, List.length_singleton]; omega) (by rw [List.length_append, List.length_singleton]; omega) ?_
              refine j_iinc E dX6_cutShapes_60 rfl (nI_1 k) (by decide) ?_
              refine j_goto E (tgt := 36) dX6_cutShapes_63 (by decide) ?_
              refine J.sub [(4, .int (nI (k + 1))), (3, .ref (gG gs i).1), (2, .int (nI i)), (1, .ref ps), (0, .ref c)] ⟨rfl, rfl, rfl, rfl, rfl, trivial⟩ ?_
              exact ih2 (k + 1) h3 re1 _ (by omega) (by rw [List.length_append, List.length_singleton]; omega) P3
        refine j_cast (C := RX5) (T := TX5) (N := 9) (ci := 6) E dX6_cutShapes_29 (by decide +kernel) rfl (o1.at S1) ?_
        refine j_astore_n E dX6_cutShapes_32 (by decide) ?_
        refine j_iconst (x := nI 0) E dX6_cutShapes_33 (by decide) ?_
        refine j_istore E dX6_cutShapes_34 (by decide) ?_
        refine J.sub [(4, .int (nI 0)), (3, .ref (gG gs i).1), (2, .int (nI i)), (1, .ref ps), (0, .ref c)] ⟨rfl, rfl, rfl, rfl, rfl, trivial⟩ ?_
        exact inner (nk (gS ss i) + 1) 0 h1 re pg (by omega) (by omega) P
  refine j_astore_n E dX6_cutShapes_7 (by decide) ?_
  refine j_iconst (x := nI 0) E dX6_cutShapes_8 (by decide) ?_
  refine j_istore_n E dX6_cutShapes_9 (by decide) ?_
  refine J.sub [(2, .int (nI 0)), (1, .ref ps), (0, .ref c)] ⟨rfl, rfl, rfl, trivial⟩ ?_
  exact outer ss.length 0 h1 E0 [] (by omega) rfl P0
end C18
