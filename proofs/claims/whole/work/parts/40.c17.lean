/-! pieces: one more -/
theorem gP_app {pg : List PG} {g : PG} {p : Nat} : gP (pg ++ [g]) p = if p < pg.length then gP pg p else if p = pg.length then g else (0, 0, 0, []) := by
  unfold gP
  rw [List.getD_eq_getElem?_getD]
  by_cases e : p < pg.length
  · rw [if_pos e, List.getElem?_append_left e, List.getD_eq_getElem?_getD]
  · rw [if_neg e, List.getElem?_append_right (by omega)]
    by_cases e2 : p = pg.length
    · rw [if_pos e2, e2, Nat.sub_self]; rfl
    · rw [if_neg e2]
      obtain ⟨k, hk⟩ : ∃ k, p - pg.length = k + 1 := ⟨p - pg.length - 1, by omega⟩
      rw [hk]; rfl
section C17
variable {l : Launch} {B E0 : Nat} {D : va_G} {h h0 : HM} {d : Int} {ps row re : Nat} {pg : List PG} {o : Nat → Nat} {t : Nat → Int} {bb : Nat → List BB} {N : Nat → Nat → Prop}
theorem BLs.keep {a e : Nat} {els : List Nat} {bs : List BB} {h1 : HM} (L : BLs E0 h a e els bs) (ha : h1 a = h a) (he : h1 e = h e) (hz : ∀ i (hi : i < els.length), h1 els[i] = h els[i]) : BLs E0 h1 a e els bs := ⟨L.1.keep ha he, L.2.1, fun i hi => (hz i hi).trans (L.2.2 i hi)⟩
/-- the row grown by q -/
theorem PSR.grow (R : PSR E0 h0 h ps row re pg o t bb N) (h12 : pg.length < 12) {q bl be : Nat} {els : List Nat} {h2 h3 : HM} {e1 : Nat} (hN : bS (N pg.length) = 0) (nq : h q = none) (hh2 : h2 = hput h q (hO 3 [.int (nI (o pg.length)), .int (iZ (t pg.length)), .ref bl, .int 0])) (L : BLs E0 h bl be els (bb pg.length)) (hbl : bl ≠ row) (hbe : be = re → re = E0)
    (p1 : AL E0 h3 row e1 (pg.map (·.1) ++ [q])) (p2 : FR h2 h3 (fun z => z = row ∨ (z = re ∧ z ≠ E0))) (p3 : e1 = re ∨ h2 e1 = none) : PSR E0 h0 h3 ps row e1 (pg ++ [(q, bl, be, els)]) o t bb N := by
  obtain ⟨⟨c1, c2, c3, c4, f0, c5⟩, r1, r2, r3, r4, r5⟩ := R
  obtain ⟨⟨zl, hl1⟩, ne, fe, hl2⟩ := r2.ty
  have nn : ∀ {q o}, h q = some o → h q ≠ none := fun e w => by rw [e] at w; cases w
  have k3 : ∀ z o, h z = some o → z ≠ row → (z = re → re = E0) → h3 z = h z := fun z o hz a b => by
    have zq : z ≠ q := hm_neN hz nq
    have e2 : h2 z = h z := by rw [hh2]; exact hput_ne _ zq
    exact (p2 z (by rw [e2]; exact nn hz) (fun w => w.elim a (fun w => w.2 (w.1.trans (b w.1))))).trans e2
  have kt : ∀ z o, h z = some o → (∀ w, o ≠ hO 0 w) → ¬ isQ o → h3 z = h z := fun z o hz a b => k3 z o hz (fun e => by rw [e, hl1] at hz; exact a _ (Option.some.inj hz).symm) (fun e => by rw [e, hl2] at hz; exact absurd ⟨_, _, (Option.some.inj hz).symm⟩ b)
  have kb : ∀ {bl be : Nat} {els : List Nat} {bs : List BB}, BLs E0 h bl be els bs → bl ≠ row → (be = re → re = E0) → BLs E0 h3 bl be els bs := by
    intro bl be els bs L a b
    obtain ⟨⟨z1, y1⟩, n2, f2, y2⟩ := L.1.ty
    refine L.keep (k3 _ _ y1 a (fun e => by rw [e, hl2] at y1; cases y1)) (k3 _ _ y2 (fun e => by rw [e, hl1] at y2; cases y2) b) (fun i hi => kt _ _ (L.2.2 i hi) (by intro w z; cases z) (by rintro ⟨n, f, z⟩; cases z))
  have q0 : h0 q = none := c1.no nq
  have hq2 : h2 q = some (hO 3 [.int (nI (o pg.length)), .int (iZ (t pg.length)), .ref bl, .int 0]) := by rw [hh2]; exact hput_eq _ _ _
  have hq3 : h3 q = h2 q := p2 q (by rw [hq2]; intro w; cases w) (fun w => by
    rcases w with e | ⟨e, -⟩
    · rw [e, hl1] at nq; cases nq
    · rw [e, hl2] at nq; cases nq)
  refine ⟨⟨fun z hz => ?_, c2, c3, fun e => ?_, f0, c5⟩, ?_, by rw [List.map_append]; exact p1, by rw [List.length_append]; exact h12, fun p hp => ?_, fun p p' hp hp' hne => ?_⟩
  · have e1 := c1 z hz
    cases e : h z with
    | none => rw [e] at e1; exact absurd e1.symm hz
    | some w => exact (k3 z w e (fun e => hz (by rw [e]; exact c3)) (fun e => by
        by_cases e2 : re = E0
        · exact e2
        · exact absurd (c4 e2) (by rw [← e]; exact hz))).trans e1
  · rcases p3 with e2 | e2
    · rw [e2] at e ⊢; exact c4 e
    · rw [hh2] at e2; exact c1.no (hput_none e2).1
  · exact (kt _ _ r1 (by intro w z; cases z) (by rintro ⟨n, f, z⟩; cases z)).trans r1
  · rw [List.length_append, List.length_singleton] at hp
    rw [gP_app]
    have be1 : ∀ {bl be : Nat} {els : List Nat} {bs : List BB}, BLs E0 h bl be els bs → (be = re → re = E0) → be = e1 → e1 = E0 := by
      intro bl be els bs L b e
      rcases p3 with e2 | e2
      · rw [e2]; exact b (e.trans e2)
      · obtain ⟨-, n2, f2, y2⟩ := L.1.ty
        rw [hh2] at e2
        rw [e, (hput_none e2).1] at y2
        cases y2
    by_cases e : p < pg.length
    · rw [if_pos e]
      obtain ⟨s1, s2, s3, s4, s5⟩ := r4 p e
      exact ⟨s1, (kt _ _ s2 (by intro w z; cases z) (by rintro ⟨n, f, z⟩; cases z)).trans s2, kb s3 s4 s5, s4, be1 s3 s5⟩
    · have ep : p = pg.length := by omega
      rw [if_neg e, if_pos ep, ep]
      refine ⟨q0, hq3.trans (hq2.trans ?_), kb L hbl hbe, hbl, be1 L hbe⟩
      unfold pcF
      rw [hN]
  · rw [List.length_append, List.length_singleton] at hp hp'
    rw [gP_app, gP_app]
    by_cases e : p < pg.length
    · rw [if_pos e]
      by_cases e2 : p' < pg.length
      · rw [if_pos e2]; exact r5 p p' e e2 hne
      · rw [if_neg e2, if_pos (show p' = pg.length by omega)]
        exact hm_neN (r4 p e).2.1 nq
    · rw [if_neg e, if_pos (show p = pg.length by omega)]
      by_cases e2 : p' < pg.length
      · rw [if_pos e2]
        exact (hm_neN (r4 p' e2).2.1 nq).symm
      · omega
theorem iw_X3_add_X2 : ∀ w ∈ u_ws RX2 TX2 4, w ∈ wsX3_add := by decide +kernel
theorem iw_X3_add_X3 : ∀ w ∈ u_ws RX3 TX3 1, w ∈ wsX3_add := by decide +kernel
theorem c_padd (v : Nat) (R : PSR E0 h0 h ps row re pg o t bb N) (h12 : pg.length < 12) {bl be : Nat} {els : List Nat} (hN : bS (N pg.length) = 0) (L : BLs E0 h bl be els (bb pg.length)) (hbl : bl ≠ row) (hbe : be = re → re = E0) : CM l B E0 D yX3_add wsX3_add (v + 7) 2 19 [.ref ps, .int (nI (o pg.length)), .int (iZ (t pg.length)), .ref bl] h (fun r h1 => r = none ∧ ∃ re1 q, PSR E0 h0 h1 ps row re1 (pg ++ [(q, bl, be, els)]) o t bb N) := by
  have R0 := R
  obtain ⟨R1, AL1, hL, -, zl, hl⟩ := R.lst
  have hE : ∃ f0, h E0 = some (hQ 0 f0) := by
    obtain ⟨⟨c1, c2, c3, c4, f0, c5⟩, -⟩ := R
    exact ⟨f0, c1.at c5⟩
  obtain ⟨f0, hE⟩ := hE
  refine CM.of (cc := cX3_add) (maxL := 4) (ret := none) (by decide) rfl (Nat.le_of_ble_eq_true rfl) (fun X E hin => ?_)
  show J X B D 4 _ h 0 0 0 [(0, .ref ps), (1, .int (nI (o pg.length))), (2, .int (iZ (t pg.length))), (3, .ref bl)] []
  generalize hQ : jQ X B D _ _ _ = Q
  refine j_aload_n E dX3_add_0 rfl ?_
  refine j_getfield (ref := "ColourParts$Pieces") (C := RX3) (T := TX3) (N := 1) (ci := 4) E 0 dX3_add_1 iw_X3_add_X3 rfl (by decide) (by decide +kernel) rfl (by first | with_reducible assumption | exact hput_eq _ _ _ | exact (hput_ne _ (by first | assumption | exact Ne.symm (by assumption))).trans (by assumption) | exact (hput_ne _ (by first | assumption | exact Ne.symm (by assumption))).trans (hput_eq _ _ _) | exact (hput_ne _ (by first | assumption | exact Ne.symm (by assumption))).trans ((hput_ne _ (by first | assumption | exact Ne.symm (by assumption))).trans (by assumption)) | exact (hput_ne _ (by first | assumption | exact Ne.symm (by assumption))).trans ((hput_ne _ (by first | assumption | exact Ne.symm (by assumption))).trans (hput_eq _ _ _))) rfl ?_
  refine j_callV (np := 0) (C := RJx4a65c) (T := TJx4a65c) (N := 3) (ci := 0) E (c_size (v + 2) AL1) gX3_add_Jx4a65c_size_8abf5 rfl ⟨rfl, by decide, by decide, by decide +kernel⟩ dX3_add_4 (by omega) (by decide) rfl hl rfl rfl (Nat.le_of_ble_eq_true rfl) (by omega) (by omega) (fun r9 h9 p9 => J.pure p9 ?_)
  rw [hL]
  refine J.wide (k' := 0) (n' := 0) (by omega) (by omega) ?_
  refine j_bipush (x := nI 12) E dX3_add_7 (by decide) ?_
  refine j_icmp_ge E (tgt := 30) dX3_add_9 (by decide) (fun c1 => ?_) (fun c1 => ?_)
  · exact absurd c1 (nI_ge h12 (by decide))
  ·
    refine j_aload_n E dX3_add_12 rfl ?_
    refine j_getfield (ref := "ColourParts$Pieces") (C := RX3) (T := TX3) (N := 1) (ci := 4) E 0 dX3_add_13 iw_X3_add_X3 rfl (by decide) (by decide +kernel) rfl (by first | with_reducible assumption | exact hput_eq _ _ _ | exact (hput_ne _ (by first | assumption | exact Ne.symm (by assumption))).trans (by assumption) | exact (hput_ne _ (by first | assumption | exact Ne.symm (by assumption))).trans (hput_eq _ _ _) | exact (hput_ne _ (by first | assumption | exact Ne.symm (by assumption))).trans ((hput_ne _ (by first | assumption | exact Ne.symm (by assumption))).trans (by assumption)) | exact (hput_ne _ (by first | assumption | exact Ne.symm (by assumption))).trans ((hput_ne _ (by first | assumption | exact Ne.symm (by assumption))).trans (hput_eq _ _ _))) rfl ?_
    refine j_new (C := RX2) (T := TX2) (N := 4) (ci := 3) E [.int 0, .int 0, .null, .int 0] dX3_add_16 iw_X3_add_X2 tyX2 tyX2_ok (by decide +kernel) (by decide +kernel) (by decide +kernel) rfl (by decide) (by omega) (by omega) (fun q nq bq => ?_)
    refine j_dup E dX3_add_19 rfl ?_
    refine j_iload_n E dX3_add_20 rfl ?_
    refine j_iload_n E dX3_add_21 rfl ?_
    refine j_aload_n E dX3_add_22 rfl ?_
    refine j_callI (np := 3) E (c_pieceInit v (hput_eq _ _ _)) gX3_add_X2_init rfl (by decide +kernel) (by decide +kernel) (by decide +kernel) rfl ⟨by decide, by decide, by decide +kernel⟩ dX3_add_23 (by omega) (by decide) rfl rfl (Nat.le_of_ble_eq_true rfl) (by omega) (by omega) (fun r h1 p => ?_)
    obtain ⟨rfl, rfl⟩ := p
    rw [hput_hput]
    refine J.wide (k' := 1) (n' := 4) (by omega) (by omega) ?_
    generalize hh2 : hput h q (hO 3 [.int (nI (o pg.length)), .int (iZ (t pg.length)), .ref bl, .int 0]) = h2
    have o2 : onF h h2 := by rw [← hh2]; exact onF.put nq
    have hq2 : h2 q = some (hO 3 [.int (nI (o pg.length)), .int (iZ (t pg.length)), .ref bl, .int 0]) := by rw [← hh2]; exact hput_eq _ _ _
    have AL2 : AL E0 h2 row re (pg.map (·.1)) := by
      obtain ⟨-, ne, fe, hl2⟩ := AL1.ty
      exact AL1.keep ((o2.at hl).trans hl.symm) ((o2.at hl2).trans hl2.symm)
    have hob : ∀ z ∈ pg.map (·.1), hOb h2 z := fun z hz => by
      obtain ⟨i, hi, rfl⟩ := List.mem_iff_getElem.mp hz
      rw [R0.el]
      exact ⟨3, _, _, o2.at (R0.pc (show i < pg.length by omega)).1, rfl⟩
    refine j_callV (np := 1) (C := RJx4a65c) (T := TJx4a65c) (N := 3) (ci := 0) E (c_add v AL2 (o2.at hE) (by omega) hob ⟨3, _, _, hq2, rfl⟩) gX3_add_Jx4a65c_add_9ea2d rfl ⟨rfl, by decide, by decide, by decide +kernel⟩ dX3_add_26 (by omega) (by decide) rfl (o2.at hl) rfl rfl (Nat.le_of_ble_eq_true rfl) (by omega) (by omega) (fun r h3 p => ?_)
    obtain ⟨rfl, e1, p1, p2, p3⟩ := p
    refine J.wide (k' := 2) (n' := 19) (by omega) (by omega) ?_
    refine j_pop E dX3_add_29 rfl ?_
    rw [← hQ]
    exact j_vret E dX3_add_30 rfl (by omega) (by omega) ⟨rfl, e1, q, R0.grow h12 hN nq hh2.symm L hbl hbe p1 p2 p3⟩
end C17
