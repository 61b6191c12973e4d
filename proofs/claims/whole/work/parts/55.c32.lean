/-! walks -/
def WS (N : Nat → Nat → Prop) (n last : Nat) : Nat → Nat → Prop
  | 0 => fun p => p = last
  | r + 1 => fun p => ∃ q, q < n ∧ WS N n last r q ∧ N q p
def ECW (N : Nat → Nat → Prop) (n m : Nat) (v : Nat → Nat) : Prop := (∀ i, i ≤ m → v i < n) ∧ (∀ i, i < m → N (v i) (v (i + 1))) ∧ v m = v 0
def oddR (N : Nat → Nat → Prop) (n : Nat) (o : Nat → Nat) (rg : List Nat) : Prop := (rg = [] ∧ ∀ m, 3 ≤ m → m % 2 = 1 → m ≤ n → ∀ v, ¬ ECW N n m v) ∨ ∃ m w, 3 ≤ m ∧ m % 2 = 1 ∧ m ≤ n ∧ (∀ k, 3 ≤ k → k % 2 = 1 → k < m → ∀ v, ¬ ECW N n k v) ∧ ECW N n m w ∧ (∀ v, ECW N n m v → lexL m w v) ∧ rg = (List.range m).map (fun i => o (w i))
theorem ECW.ws {N : Nat → Nat → Prop} {n m : Nat} {v : Nat → Nat} (hs : ∀ i j, N i j → N j i) (h : ECW N n m v) : ∀ r, r ≤ m → WS N n (v 0) r (v (m - r))
  | 0, _ => h.2.2
  | r + 1, hr => by
    have ih := ECW.ws hs h r (by omega)
    have e : m - r = m - (r + 1) + 1 := by omega
    exact ⟨v (m - r), h.1 _ (by omega), ih, by rw [e]; exact hs _ _ (h.2.1 _ (by omega))⟩
theorem exLst {S : Nat → Prop} : ∀ n, S n → ∃ i, i ≤ n ∧ S i ∧ ∀ j, j < i → ¬ S j := by
  intro n
  induction n using Nat.strongRecOn with
  | ind n ih =>
    intro h
    by_cases e : ∃ j, j < n ∧ S j
    · obtain ⟨j, h1, h2⟩ := e
      obtain ⟨i, g1, g2, g3⟩ := ih j h1 h2
      exact ⟨i, by omega, g2, g3⟩
    · exact ⟨n, Nat.le_refl _, h, fun j hj hS => e ⟨j, hj, hS⟩⟩
theorem lexL.cut {m : Nat} {w v : Nat → Nat} (h : lexL (m + 1) w v) : lexL m w v := by
  rcases h with h | ⟨i, h1, h2, h3⟩
  · exact Or.inl (fun i hi => h i (by omega))
  · by_cases e : i < m
    · exact Or.inr ⟨i, e, h2, h3⟩
    · exact Or.inl (fun j hj => h2 j (by omega))
/-- what the pieces' cells are made of -/
def pK (o : HO) : Prop := isQ o ∨ ∃ c w, o = hO c w ∧ (c = 0 ∨ c = 1 ∨ c = 3 ∨ c = 4)
theorem PSR.chg {E0 : Nat} {h0 h h1 : HM} {ps row re : Nat} {pg : List PG} {o : Nat → Nat} {t : Nat → Int} {bb : Nat → List BB} {N : Nat → Nat → Prop} (R : PSR E0 h0 h ps row re pg o t bb N) (kt : ∀ z o, h z = some o → pK o → h1 z = some o) : PSR E0 (fun z => if z = E0 then h E0 else none) h1 ps row re pg o t bb N := by
  obtain ⟨⟨c1, c2, c3, c4, f0, c5⟩, r1, r2, r3, r4, r5⟩ := R
  obtain ⟨⟨zl, hl1⟩, ne, fe, hl2⟩ := r2.ty
  have hE := c1.at c5
  have no : ∀ z ci fs, h z = some (hO ci fs) → (if z = E0 then h E0 else none) = none := fun z ci fs hz => if_neg (fun e => by rw [e, hE] at hz; cases hz)
  have q0 : pK (hQ 0 f0) := Or.inl ⟨_, _, rfl⟩
  refine ⟨⟨fun z hz => ?_, no _ _ _ r1, no _ _ _ hl1, fun e => if_neg e, f0, (if_pos rfl).trans hE⟩, kt _ _ r1 (Or.inr ⟨_, _, rfl, by omega⟩), r2.keep ((kt _ _ hl1 (Or.inr ⟨_, _, rfl, by omega⟩)).trans hl1.symm) ((kt _ _ hl2 (Or.inl ⟨_, _, rfl⟩)).trans hl2.symm), r3, fun p hp => ?_, r5⟩
  · by_cases e : z = E0
    · show h1 z = (if z = E0 then h E0 else none)
      rw [if_pos e, e]
      exact (kt _ _ hE q0).trans hE.symm
    · exact absurd (if_neg e) hz
  · obtain ⟨s1, s2, s3, s4⟩ := r4 p hp
    obtain ⟨⟨zb, y1⟩, n2, f2, y2⟩ := s3.1.ty
    exact ⟨no _ _ _ s2, kt _ _ s2 (Or.inr ⟨_, _, rfl, by omega⟩), s3.keep ((kt _ _ y1 (Or.inr ⟨_, _, rfl, by omega⟩)).trans y1.symm) ((kt _ _ y2 (Or.inl ⟨_, _, rfl⟩)).trans y2.symm) (fun j hj => (kt _ _ (s3.2.2 j hj) (Or.inr ⟨_, _, rfl, by omega⟩)).trans (s3.2.2 j hj).symm), s4⟩
theorem PSR.chgI {E0 : Nat} {h0 h : HM} {ps row re : Nat} {pg : List PG} {o : Nat → Nat} {t : Nat → Int} {bb : Nat → List BB} {N : Nat → Nat → Prop} (R : PSR E0 h0 h ps row re pg o t bb N) {a k : Nat} {f : Nat → Int32} (ha : h a = none ∨ ∃ n f, h a = some (hI n f)) : PSR E0 (fun z => if z = E0 then h E0 else none) (hput h a (hI k f)) ps row re pg o t bb N := R.chg (fun z o h1 h2 => (hput_ne _ (fun e => by
  rw [e] at h1
  rcases ha with g | ⟨n, f, g⟩
  · rw [g] at h1; cases h1
  · rw [g] at h1
    rcases h2 with ⟨n2, f2, q⟩ | ⟨c, w, q, -⟩
    · rw [q] at h1; cases h1
    · rw [q] at h1; cases h1)).trans h1)
section C32
variable {l : Launch} {B E0 : Nat} {D : va_G} {h h0 : HM} {d : Int} {ps row re : Nat} {pg : List PG} {o : Nat → Nat} {t : Nat → Int} {bb : Nat → List BB} {N : Nat → Nat → Prop}
theorem iw_X3_nearAnyOf_X3 : ∀ w ∈ u_ws RX3 TX3 1, w ∈ wsX3_nearAnyOf := by decide +kernel
theorem c_nearAnyOf (v : Nat) (R : PSR E0 h0 h ps row re pg o t bb N) (S : Nat → Prop) : CM l B E0 D yX3_nearAnyOf wsX3_nearAnyOf (v + 5) 0 0 [.ref ps, .int (bS S)] h (fun r h1 => r = some (.int (bS (fun i => ∃ p, p < pg.length ∧ S p ∧ N p i))) ∧ h1 = h) := by
  obtain ⟨R1, L, hL, h12, zl, hl⟩ := R.lst
  refine CM.of (cc := cX3_nearAnyOf) (maxL := 4) (ret := (some .int)) (by decide) rfl (Nat.le_of_ble_eq_true rfl) (fun X E hin => ?_)
  show J X B D 4 _ h 0 0 0 [(0, .ref ps), (1, .int (bS S))] []
  generalize hQ : jQ X B D _ _ _ = Q
  have key : ∀ (u p : Nat), p + u = pg.length → J X B D 4 Q h 0 0 4 [(3, .int (nI p)), (2, .int (bS (fun i => ∃ q, q < p ∧ S q ∧ N q i))), (0, .ref ps), (1, .int (bS S))] [] := by
    intro u
    induction u with
    | zero =>
      intro p hp
      refine j_iload_n E dX3_nearAnyOf_4 rfl ?_
      refine j_aload_n E dX3_nearAnyOf_5 rfl ?_
      refine j_getfield (ref := "ColourParts$Pieces") (C := RX3) (T := TX3) (N := 1) (ci := 4) E 0 dX3_nearAnyOf_6 iw_X3_nearAnyOf_X3 rfl (by decide) (by decide +kernel) rfl (by first | with_reducible assumption | exact hput_eq _ _ _ | exact (hput_ne _ (by first | assumption | exact Ne.symm (by assumption))).trans (by assumption) | exact (hput_ne _ (by first | assumption | exact Ne.symm (by assumption))).trans (hput_eq _ _ _) | exact (hput_ne _ (by first | assumption | exact Ne.symm (by assumption))).trans ((hput_ne _ (by first | assumption | exact Ne.symm (by assumption))).trans (by assumption)) | exact (hput_ne _ (by first | assumption | exact Ne.symm (by assumption))).trans ((hput_ne _ (by first | assumption | exact Ne.symm (by assumption))).trans (hput_eq _ _ _))) rfl ?_
      refine j_callV (np := 0) (C := RJx4a65c) (T := TJx4a65c) (N := 3) (ci := 0) E (c_size (v + 3) L) gX3_nearAnyOf_Jx4a65c_size_8abf5 rfl ⟨rfl, by decide, by decide, by decide +kernel⟩ dX3_nearAnyOf_9 (by omega) (by decide) rfl hl rfl rfl (Nat.le_of_ble_eq_true rfl) (by omega) (by omega) (fun r9 h9 p9 => J.pure p9 ?_)
      rw [hL]
      refine J.wide (k' := 0) (n' := 0) (by omega) (by omega) ?_
      refine j_icmp_ge E (tgt := 37) dX3_nearAnyOf_12 (by decide) (fun c1 => ?_) (fun c1 => ?_)
      · rw [show p = pg.length by omega]
        refine j_iload_n E dX3_nearAnyOf_37 rfl ?_
        rw [← hQ]
        exact j_iret E dX3_nearAnyOf_38 rfl rfl (by omega) (by omega) ⟨rfl, rfl⟩
      · exact absurd (nI_le (show pg.length ≤ p by omega) (by omega)) c1
    | succ u ih =>
      intro p hp
      have hpl : p < pg.length := by omega
      have next : bS (fun i => ∃ q, q < p + 1 ∧ S q ∧ N q i) = bS (fun i => ∃ q, q < p + 1 ∧ S q ∧ N q i) → J X B D 4 Q h 0 0 31 [(3, .int (nI p)), (2, .int (bS (fun i => ∃ q, q < p + 1 ∧ S q ∧ N q i))), (0, .ref ps), (1, .int (bS S))] [] := by
        intro _
        refine j_iinc E dX3_nearAnyOf_31 rfl (nI_1 p) (by decide) ?_
        refine j_goto E (tgt := 4) dX3_nearAnyOf_34 (by decide) ?_
        refine J.sub [(3, .int (nI (p + 1))), (2, .int (bS (fun i => ∃ q, q < p + 1 ∧ S q ∧ N q i))), (0, .ref ps), (1, .int (bS S))] ⟨rfl, rfl, rfl, rfl, trivial⟩ ?_
        exact ih (p + 1) (by omega)
      refine j_iload_n E dX3_nearAnyOf_4 rfl ?_
      refine j_aload_n E dX3_nearAnyOf_5 rfl ?_
      refine j_getfield (ref := "ColourParts$Pieces") (C := RX3) (T := TX3) (N := 1) (ci := 4) E 0 dX3_nearAnyOf_6 iw_X3_nearAnyOf_X3 rfl (by decide) (by decide +kernel) rfl (by first | with_reducible assumption | exact hput_eq _ _ _ | exact (hput_ne _ (by first | assumption | exact Ne.symm (by assumption))).trans (by assumption) | exact (hput_ne _ (by first | assumption | exact Ne.symm (by assumption))).trans (hput_eq _ _ _) | exact (hput_ne _ (by first | assumption | exact Ne.symm (by assumption))).trans ((hput_ne _ (by first | assumption | exact Ne.symm (by assumption))).trans (by assumption)) | exact (hput_ne _ (by first | assumption | exact Ne.symm (by assumption))).trans ((hput_ne _ (by first | assumption | exact Ne.symm (by assumption))).trans (hput_eq _ _ _))) rfl ?_
      refine j_callV (np := 0) (C := RJx4a65c) (T := TJx4a65c) (N := 3) (ci := 0) E (c_size (v + 3) L) gX3_nearAnyOf_Jx4a65c_size_8abf5 rfl ⟨rfl, by decide, by decide, by decide +kernel⟩ dX3_nearAnyOf_9 (by omega) (by decide) rfl hl rfl rfl (Nat.le_of_ble_eq_true rfl) (by omega) (by omega) (fun r9 h9 p9 => J.pure p9 ?_)
      rw [hL]
      refine J.wide (k' := 0) (n' := 0) (by omega) (by omega) ?_
      refine j_icmp_ge E (tgt := 37) dX3_nearAnyOf_12 (by decide) (fun c1 => ?_) (fun c1 => ?_)
      · exact absurd c1 (nI_ge hpl (by omega))
      ·
        refine j_iload_n E dX3_nearAnyOf_15 rfl ?_
        refine j_iload_n E dX3_nearAnyOf_16 rfl ?_
        refine j_ishr E dX3_nearAnyOf_17 ?_
        refine j_iconst (x := nI 1) E dX3_nearAnyOf_18 (by decide) ?_
        refine j_iand E dX3_nearAnyOf_19 ?_
        refine J.topi (x' := bI (S p)) (bS_has S (by omega)) ?_
        refine j_if_eq E (tgt := 31) dX3_nearAnyOf_20 (by decide) (fun c2 => ?_) (fun c2 => ?_)
        · have no := bI_z.mp c2
          rw [show bS (fun i => ∃ q, q < p ∧ S q ∧ N q i) = bS (fun i => ∃ q, q < p + 1 ∧ S q ∧ N q i) from bS_congr (fun i _ => ⟨fun ⟨q, z1, z2⟩ => ⟨q, by omega, z2⟩, fun ⟨q, z1, z2, z3⟩ => ⟨q, by
            have : q ≠ p := fun e => no (e ▸ z2)
            omega, z2, z3⟩⟩)]
          exact next rfl
        · have yes := bI_n.mp c2
          refine j_iload_n E dX3_nearAnyOf_23 rfl ?_
          refine j_aload_n E dX3_nearAnyOf_24 rfl ?_
          refine j_iload_n E dX3_nearAnyOf_25 rfl ?_
          refine j_callV (np := 1) (C := RX3) (T := TX3) (N := 1) (ci := 4) E (c_nearPieces v R hpl) gX3_nearAnyOf_X3_nearPieces rfl ⟨rfl, by decide, by decide, by decide +kernel⟩ dX3_nearAnyOf_26 (by omega) (by decide) rfl R1 rfl rfl (Nat.le_of_ble_eq_true rfl) (by omega) (by omega) (fun r9 h9 p9 => J.pure p9 ?_)
          refine J.wide (k' := 0) (n' := 0) (by omega) (by omega) ?_
          refine j_ior E dX3_nearAnyOf_29 ?_
          refine J.topi (x' := bS (fun i => ∃ q, q < p + 1 ∧ S q ∧ N q i)) ((bS_or _ _).trans (bS_congr (fun i _ => ⟨fun z => z.elim (fun ⟨q, z1, z2⟩ => ⟨q, by omega, z2⟩) (fun z => ⟨p, by omega, yes, z⟩), fun ⟨q, z1, z2, z3⟩ => if e : q = p then Or.inr (e ▸ z3) else Or.inl ⟨q, by omega, z2, z3⟩⟩))) ?_
          refine j_istore_n E dX3_nearAnyOf_30 (by decide) ?_
          refine J.sub [(3, .int (nI p)), (2, .int (bS (fun i => ∃ q, q < p + 1 ∧ S q ∧ N q i))), (0, .ref ps), (1, .int (bS S))] ⟨rfl, rfl, rfl, rfl, trivial⟩ ?_
          exact next rfl
  refine j_iconst (x := nI 0) E dX3_nearAnyOf_0 (by decide) ?_
  refine j_istore_n E dX3_nearAnyOf_1 (by decide) ?_
  refine j_iconst (x := nI 0) E dX3_nearAnyOf_2 (by decide) ?_
  refine j_istore_n E dX3_nearAnyOf_3 (by decide) ?_
  have e0 : bS (fun i => ∃ q, q < 0 ∧ S q ∧ N q i) = nI 0 := bS_z.mpr (fun i _ z => z.elim (fun q hq => Nat.not_lt_zero _ hq.1))
  refine J.sub [(3, .int (nI 0)), (2, .int (bS (fun i => ∃ q, q < 0 ∧ S q ∧ N q i))), (0, .ref ps), (1, .int (bS S))] ⟨rfl, by rw [e0]; rfl, rfl, rfl, trivial⟩ ?_
  exact key pg.length 0 (by omega)
theorem c_fillWalks (v : Nat) (R : PSR E0 h0 h ps row re pg o t bb N) {last steps wa : Nat} {f0 : Nat → Int32} (hwa : h wa = some (hI 13 f0)) (hla : last < pg.length) (hst : steps ≤ 12) : CM l B E0 D yX3_fillWalks wsX3_fillWalks (v + 6) 0 0 [.ref ps, .int (nI last), .int (nI steps), .ref wa] h (fun r h1 => r = none ∧ ∃ f, h1 = hput h wa (hI 13 f) ∧ ∀ r, r ≤ steps → f r = bS (WS N pg.length last r)) := by
  have h12 := R.2.2.2.1
  refine CM.of (cc := cX3_fillWalks) (maxL := 5) (ret := none) (by decide) rfl (Nat.le_of_ble_eq_true rfl) (fun X E hin => ?_)
  show J X B D 5 _ h 0 0 0 [(0, .ref ps), (1, .int (nI last)), (2, .int (nI steps)), (3, .ref wa)] []
  generalize hQ : jQ X B D _ _ _ = Q
  have key : ∀ (u r : Nat) (f : Nat → Int32), r + u = steps + 1 → 0 < r → (∀ i, i < r → f i = bS (WS N pg.length last i)) → J X B D 5 Q (hput h wa (hI 13 f)) 0 0 9 [(4, .int (nI r)), (0, .ref ps), (1, .int (nI last)), (2, .int (nI steps)), (3, .ref wa)] [] := by
    intro u
    induction u with
    | zero =>
      intro r f hr hr0 hf
      refine j_iload E dX3_fillWalks_9 rfl ?_
      refine j_iload_n E dX3_fillWalks_11 rfl ?_
      refine j_icmp_gt E (tgt := 42) dX3_fillWalks_12 (by decide) (fun c1 => ?_) (fun c1 => ?_)
      ·
        rw [← hQ]
        exact j_vret E dX3_fillWalks_42 rfl (by omega) (by omega) ⟨rfl, f, rfl, fun i hi => hf i (by omega)⟩
      · exact absurd (nI_lt (show steps < r by omega) (by omega)) c1
    | succ u ih =>
      intro r f hr hr0 hf
      obtain ⟨r1, rfl⟩ : ∃ r1, r = r1 + 1 := ⟨r - 1, by omega⟩
      refine j_iload E dX3_fillWalks_9 rfl ?_
      refine j_iload_n E dX3_fillWalks_11 rfl ?_
      refine j_icmp_gt E (tgt := 42) dX3_fillWalks_12 (by decide) (fun c1 => ?_) (fun c1 => ?_)
      · exact absurd c1 (nI_nlt (show r1 + 1 ≤ steps by omega) (by omega))
      ·
        refine j_iload E dX3_fillWalks_15 rfl ?_
        refine j_aload_n E dX3_fillWalks_17 rfl ?_
        refine j_alen E dX3_fillWalks_18 (hput_eq _ _ _) ?_
        refine j_icmp_ge E (tgt := 42) dX3_fillWalks_19 (by decide) (fun c2 => ?_) (fun c2 => ?_)
        · exact absurd c2 (nI_ge (show r1 + 1 < 13 by omega) (by decide))
        · have R2 := R.chgI (a := wa) (k := 13) (f := f) (Or.inr ⟨_, _, hwa⟩)
          have R21 := R2.2.1
          refine j_aload_n E dX3_fillWalks_22 rfl ?_
          refine j_iload E dX3_fillWalks_23 rfl ?_
          refine j_aload_n E dX3_fillWalks_25 rfl ?_
          refine j_aload_n E dX3_fillWalks_26 rfl ?_
          refine j_iload E dX3_fillWalks_27 rfl ?_
          refine j_iconst (x := nI 1) E dX3_fillWalks_29 (by decide) ?_
          refine j_isub E dX3_fillWalks_30 ?_
          refine J.topi (x' := nI r1) (nI_pred r1) ?_
          refine j_iaload E r1 dX3_fillWalks_31 (hput_eq _ _ _) rfl (by omega) (by omega) ?_
          refine J.topi (x' := bS (WS N pg.length last r1)) (hf r1 (by omega)) ?_
          refine j_callV (np := 1) (C := RX3) (T := TX3) (N := 1) (ci := 4) E (c_nearAnyOf v R2 _) gX3_fillWalks_X3_nearAnyOf rfl ⟨rfl, by decide, by decide, by decide +kernel⟩ dX3_fillWalks_32 (by omega) (by decide) rfl R21 rfl rfl (Nat.le_of_ble_eq_true rfl) (by omega) (by omega) (fun r9 h9 p9 => J.pure p9 ?_)
          refine J.wide (k' := 0) (n' := 0) (by omega) (by omega) ?_
          refine j_iastore E (r1 + 1) dX3_fillWalks_35 (hput_eq _ _ _) rfl (by omega) (by omega) ?_
          refine J.hp (hput_hput _ _ _ _) ?_
          refine j_iinc E dX3_fillWalks_36 rfl (nI_1 (r1 + 1)) (by decide) ?_
          refine j_goto E (tgt := 9) dX3_fillWalks_39 (by decide) ?_
          refine J.sub [(4, .int (nI (r1 + 1 + 1))), (0, .ref ps), (1, .int (nI last)), (2, .int (nI steps)), (3, .ref wa)] ⟨rfl, rfl, rfl, rfl, rfl, trivial⟩ ?_
          refine ih (r1 + 1 + 1) _ (by omega) (by omega) (fun i hi => ?_)
          by_cases e : i = r1 + 1
          · rw [e]; exact upd_eq
          · exact (upd_ne e).trans (hf i (by omega))
  refine j_aload_n E dX3_fillWalks_0 rfl ?_
  refine j_iconst (x := nI 0) E dX3_fillWalks_1 (by decide) ?_
  refine j_iconst (x := nI 1) E dX3_fillWalks_2 (by decide) ?_
  refine j_iload_n E dX3_fillWalks_3 rfl ?_
  refine j_ishl E dX3_fillWalks_4 ?_
  refine J.topi (x' := bS (fun i => i = last)) (bS_1 (by omega)) ?_
  refine j_iastore E 0 dX3_fillWalks_5 (by first | with_reducible assumption | exact hput_eq _ _ _ | exact (hput_ne _ (by first | assumption | exact Ne.symm (by assumption))).trans (by assumption) | exact (hput_ne _ (by first | assumption | exact Ne.symm (by assumption))).trans (hput_eq _ _ _) | exact (hput_ne _ (by first | assumption | exact Ne.symm (by assumption))).trans ((hput_ne _ (by first | assumption | exact Ne.symm (by assumption))).trans (by assumption)) | exact (hput_ne _ (by first | assumption | exact Ne.symm (by assumption))).trans ((hput_ne _ (by first | assumption | exact Ne.symm (by assumption))).trans (hput_eq _ _ _))) rfl (by omega) (by omega) ?_
  refine j_iconst (x := nI 1) E dX3_fillWalks_6 (by decide) ?_
  refine j_istore E dX3_fillWalks_7 (by decide) ?_
  refine J.sub [(4, .int (nI 1)), (0, .ref ps), (1, .int (nI last)), (2, .int (nI steps)), (3, .ref wa)] ⟨rfl, rfl, rfl, rfl, rfl, trivial⟩ ?_
  exact key steps 1 _ (by omega) (by omega) (fun i hi => by
    rw [show i = 0 by omega]
    exact upd_eq)
theorem c_writeLeastRing (v : Nat) (R : PSR E0 h0 h ps row re pg o t bb N) {first m wa oa : Nat} {f g : Nat → Int32} (hwa : h wa = some (hI 13 f)) (hoa : h oa = some (hI 12 g)) (hfi : first < pg.length) (hm : m ≤ pg.length) (hf : ∀ r, r ≤ m → f r = bS (WS N pg.length first r)) (hw : WS N pg.length first m first) (hs : ∀ i j, N i j → N j i) : CM l B E0 D yX3_writeLeastRing wsX3_writeLeastRing (v + 5) 0 0 [.ref ps, .int (nI first), .int (nI m), .ref wa, .ref oa] h (fun r h1 => r = none ∧ ∃ g1 w, h1 = hput h oa (hI 12 g1) ∧ ECW N pg.length m w ∧ w 0 = first ∧ (∀ v, ECW N pg.length m v → v 0 = first → lexL m w v) ∧ ∀ k, k < m → g1 k = nI (o (w k))) := by
  have h12 := R.2.2.2.1
  have hao : wa ≠ oa := hm_ne hwa hoa (by intro z; cases z)
  refine CM.of (cc := cX3_writeLeastRing) (maxL := 7) (ret := none) (by decide) rfl (Nat.le_of_ble_eq_true rfl) (fun X E hin => ?_)
  show J X B D 7 _ h 0 0 0 [(0, .ref ps), (1, .int (nI first)), (2, .int (nI m)), (3, .ref wa), (4, .ref oa)] []
  generalize hQ : jQ X B D _ _ _ = Q
  have key : ∀ (u k : Nat) (g1 : Nat → Int32) (w : Nat → Nat), k + u = m → w 0 = first → (∀ i, i ≤ k → w i < pg.length) → (∀ i, i < k → N (w i) (w (i + 1))) → WS N pg.length first (m - k) (w k) → (∀ v, ECW N pg.length m v → v 0 = first → lexL (k + 1) w v) → (∀ i, i < k → g1 i = nI (o (w i))) → J X B D 7 Q (hput h oa (hI 12 g1)) 0 0 6 [(6, .int (nI k)), (5, .int (nI (w k))), (0, .ref ps), (2, .int (nI m)), (3, .ref wa), (4, .ref oa)] [] := by
    intro u
    induction u with
    | zero =>
      intro k g1 w hk w0 wl ws wt lx hg
      have ek : k = m := by omega
      subst ek
      refine j_iload E dX3_writeLeastRing_6 rfl ?_
      refine j_iload_n E dX3_writeLeastRing_8 rfl ?_
      refine j_icmp_ge E (tgt := 68) dX3_writeLeastRing_9 (by decide) (fun c1 => ?_) (fun c1 => ?_)
      ·
        rw [← hQ]
        refine j_vret E dX3_writeLeastRing_68 rfl (by omega) (by omega) ⟨rfl, g1, w, rfl, ⟨wl, ws, ?_⟩, w0, fun v h1 h2 => (lx v h1 h2).cut, hg⟩
        rw [Nat.sub_self] at wt
        exact wt.trans w0.symm
      · exact absurd (Int32.le_refl _) c1
    | succ u ih =>
      intro k g1 w hk w0 wl ws wt lx hg
      have hkm : k < m := by omega
      have hwk := wl k (Nat.le_refl _)
      have R2 := R.chgI (a := oa) (k := 12) (f := g1) (Or.inr ⟨_, _, hoa⟩)
      have R3 := R.chgI (a := oa) (k := 12) (f := upd g1 k (nI (o (w k)))) (Or.inr ⟨_, _, hoa⟩)
      have R21 := R2.2.1
      have R31 := R3.2.1
      have ha2 : ∀ g : Nat → Int32, hput h oa (hI 12 g) wa = some (hI 13 f) := fun g => (hput_ne _ hao).trans hwa
      have e1 : m - k = (m - k - 1) + 1 := by omega
      have wt2 := wt
      rw [e1] at wt2
      obtain ⟨q, q1, q2, q3⟩ := wt2
      obtain ⟨i, i1, i2, i3⟩ := exLst (S := fun i => N (w k) i ∧ WS N pg.length first (m - k - 1) i) q ⟨hs _ _ q3, q2⟩
      have hsub : nI m - nI k - nI 1 = nI (m - k - 1) := by rw [pk_sub (show k ≤ m by omega), pk_sub (show 1 ≤ m - k by omega)]
      refine j_iload E dX3_writeLeastRing_6 rfl ?_
      refine j_iload_n E dX3_writeLeastRing_8 rfl ?_
      refine j_icmp_ge E (tgt := 68) dX3_writeLeastRing_9 (by decide) (fun c1 => ?_) (fun c1 => ?_)
      · exact absurd c1 (nI_ge hkm (by omega))
      ·
        refine j_iload E dX3_writeLeastRing_12 rfl ?_
        refine j_aload E dX3_writeLeastRing_14 rfl ?_
        refine j_alen E dX3_writeLeastRing_16 (hput_eq _ _ _) ?_
        refine j_icmp_ge E (tgt := 68) dX3_writeLeastRing_17 (by decide) (fun c2 => ?_) (fun c2 => ?_)
        · exact absurd c2 (nI_ge (show k < 12 by omega) (by decide))
        ·
          refine j_iload_n E dX3_writeLeastRing_20 rfl ?_
          refine j_iload E dX3_writeLeastRing_21 rfl ?_
          refine j_isub E dX3_writeLeastRing_23 ?_
          refine j_iconst (x := nI 1) E dX3_writeLeastRing_24 (by decide) ?_
          refine j_isub E dX3_writeLeastRing_25 ?_
          refine J.topi (x' := nI (m - k - 1)) (hsub) ?_
          refine j_aload_n E dX3_writeLeastRing_26 rfl ?_
          refine j_alen E dX3_writeLeastRing_27 (ha2 _) ?_
          refine j_icmp_ge E (tgt := 68) dX3_writeLeastRing_28 (by decide) (fun c3 => ?_) (fun c3 => ?_)
          · exact absurd c3 (nI_ge (show m - k - 1 < 13 by omega) (by decide))
          ·
            refine j_aload E dX3_writeLeastRing_31 rfl ?_
            refine j_iload E dX3_writeLeastRing_33 rfl ?_
            refine j_aload_n E dX3_writeLeastRing_35 rfl ?_
            refine j_iload E dX3_writeLeastRing_36 rfl ?_
            refine j_callV (np := 1) (C := RX3) (T := TX3) (N := 1) (ci := 4) E (c_owner v R2 hwk) gX3_writeLeastRing_X3_owner rfl ⟨rfl, by decide, by decide, by decide +kernel⟩ dX3_writeLeastRing_38 (by omega) (by decide) rfl R21 rfl rfl (Nat.le_of_ble_eq_true rfl) (by omega) (by omega) (fun r9 h9 p9 => J.pure p9 ?_)
            refine J.wide (k' := 0) (n' := 0) (by omega) (by omega) ?_
            refine j_iastore E k dX3_writeLeastRing_41 (hput_eq _ _ _) rfl (by omega) (by omega) ?_
            refine J.hp (hput_hput _ _ _ _) ?_
            refine j_aload_n E dX3_writeLeastRing_42 rfl ?_
            refine j_iload E dX3_writeLeastRing_43 rfl ?_
            refine j_callV (np := 1) (C := RX3) (T := TX3) (N := 1) (ci := 4) E (c_nearPieces v R3 hwk) gX3_writeLeastRing_X3_nearPieces rfl ⟨rfl, by decide, by decide, by decide +kernel⟩ dX3_writeLeastRing_45 (by omega) (by decide) rfl R31 rfl rfl (Nat.le_of_ble_eq_true rfl) (by omega) (by omega) (fun r9 h9 p9 => J.pure p9 ?_)
            refine J.wide (k' := 0) (n' := 0) (by omega) (by omega) ?_
            refine j_aload_n E dX3_writeLeastRing_48 rfl ?_
            refine j_iload_n E dX3_writeLeastRing_49 rfl ?_
            refine j_iload E dX3_writeLeastRing_50 rfl ?_
            refine j_isub E dX3_writeLeastRing_52 ?_
            refine j_iconst (x := nI 1) E dX3_writeLeastRing_53 (by decide) ?_
            refine j_isub E dX3_writeLeastRing_54 ?_
            refine J.topi (x' := nI (m - k - 1)) (hsub) ?_
            refine j_iaload E (m - k - 1) dX3_writeLeastRing_55 (ha2 _) rfl (by omega) (by omega) ?_
            refine J.topi (x' := bS (WS N pg.length first (m - k - 1))) (hf _ (by omega)) ?_
            refine j_iand E dX3_writeLeastRing_56 ?_
            refine J.topi (x' := bS (fun i => N (w k) i ∧ WS N pg.length first (m - k - 1) i)) (bS_and _ _) ?_
            refine j_callS (np := 1) E (c_ntz (v + 3) _ (show i < 12 by omega) i2 i3) gX3_writeLeastRing_J6_numberOfTrailingZeros_0f7a4 rfl ⟨by decide, by decide, by decide +kernel⟩ dX3_writeLeastRing_57 (by omega) (by decide) rfl rfl (Nat.le_of_ble_eq_true rfl) (by omega) (by omega) (fun r9 h9 p9 => J.pure p9 ?_)
            refine J.wide (k' := 0) (n' := 0) (by omega) (by omega) ?_
            have wu : ∀ j, j ≤ k → updN w (k + 1) i j = w j := fun j hj => updN_ne (by omega)
            refine j_istore E dX3_writeLeastRing_60 (by decide) ?_
            refine j_iinc E dX3_writeLeastRing_62 rfl (nI_1 k) (by decide) ?_
            refine j_goto E (tgt := 6) dX3_writeLeastRing_65 (by decide) ?_
            refine J.sub [(6, .int (nI (k + 1))), (5, .int (nI (updN w (k + 1) i (k + 1)))), (0, .ref ps), (2, .int (nI m)), (3, .ref wa), (4, .ref oa)] ⟨rfl, by rw [updN_eq]; rfl, rfl, rfl, rfl, rfl, trivial⟩ ?_
            refine ih (k + 1) _ (updN w (k + 1) i) (by omega) ((wu 0 (by omega)).trans w0) (fun j hj => ?_) (fun j hj => ?_) ?_ (fun v h1 h2 => ?_) (fun j hj => ?_)
            · by_cases e : j = k + 1
              · rw [e, updN_eq]; omega
              · rw [wu j (by omega)]; exact wl j (by omega)
            · by_cases e : j = k
              · rw [e, wu k (Nat.le_refl _), updN_eq]; exact i2.1
              · rw [wu j (by omega), wu (j + 1) (by omega)]; exact ws j (by omega)
            · rw [updN_eq]
              exact i2.2
            · rcases lx v h1 h2 with z | ⟨j, z1, z2, z3⟩
              · have S1 : N (w k) (v (k + 1)) := by rw [z k (by omega)]; exact h1.2.1 k hkm
                have S2 := h1.ws hs (m - k - 1) (by omega)
                rw [h2, show m - (m - k - 1) = k + 1 by omega] at S2
                have le : i ≤ v (k + 1) := Nat.not_lt.mp (fun w => i3 _ w ⟨S1, S2⟩)
                by_cases e : i = v (k + 1)
                · refine Or.inl (fun j hj => ?_)
                  by_cases e2 : j = k + 1
                  · rw [e2, updN_eq]; exact e
                  · rw [wu j (by omega)]; exact z j (by omega)
                · exact Or.inr ⟨k + 1, by omega, fun j hj => by rw [wu j (by omega)]; exact z j (by omega), by rw [updN_eq]; omega⟩
              · exact Or.inr ⟨j, by omega, fun j2 hj => by rw [wu j2 (by omega)]; exact z2 j2 hj, by rw [wu j (by omega)]; exact z3⟩
            · rw [wu j (by omega)]
              by_cases e : j = k
              · rw [e]; exact upd_eq
              · exact (upd_ne e).trans (hg j (by omega))
  refine j_iload_n E dX3_writeLeastRing_0 rfl ?_
  refine j_istore E dX3_writeLeastRing_1 (by decide) ?_
  refine j_iconst (x := nI 0) E dX3_writeLeastRing_3 (by decide) ?_
  refine j_istore E dX3_writeLeastRing_4 (by decide) ?_
  refine J.sub [(6, .int (nI 0)), (5, .int (nI first)), (0, .ref ps), (2, .int (nI m)), (3, .ref wa), (4, .ref oa)] ⟨rfl, rfl, rfl, rfl, rfl, rfl, trivial⟩ ?_
  refine J.hp (h' := hput h oa (hI 12 g)) (funext (fun z => ?_)) ?_
  · by_cases e : z = oa
    · rw [e, hput_eq]; exact hoa
    · rw [hput_ne _ e]
  exact key m 0 g (fun _ => first) (by omega) rfl (fun _ _ => hfi) (fun i hi => absurd hi (Nat.not_lt_zero _)) hw (fun v h1 h2 => Or.inl (fun i hi => by rw [show i = 0 by omega]; exact h2.symm)) (fun i hi => absurd hi (Nat.not_lt_zero _))
end C32
