/-! which pieces are near -/
def nPP (d : Int) (o : Nat → Nat) (bb : Nat → List BB) (p q : Nat) : Prop := ¬ o p = o q ∧ nearL d (bb p) (bb q)
def nUU (d : Int) (o : Nat → Nat) (bb : Nat → List BB) (n i j p q : Nat) : Prop := (p < q ∧ (p < i ∨ (p = i ∧ q < j)) ∧ q < n ∧ nPP d o bb p q) ∨ (q < p ∧ (q < i ∨ (q = i ∧ p < j)) ∧ p < n ∧ nPP d o bb q p)
theorem nUU_s {d : Int} {o : Nat → Nat} {bb : Nat → List BB} {n i j p q : Nat} (hij : i < j) (hj : j < n) : nUU d o bb n i (j + 1) p q ↔ nUU d o bb n i j p q ∨ (((p = i ∧ q = j) ∨ (q = i ∧ p = j)) ∧ nPP d o bb i j) := by
  unfold nUU
  constructor
  · rintro (⟨w1, w2, w3, w4⟩ | ⟨w1, w2, w3, w4⟩)
    · by_cases e : p = i ∧ q = j
      · exact Or.inr ⟨Or.inl e, by rw [← e.1, ← e.2]; exact w4⟩
      · exact Or.inl (Or.inl ⟨w1, by omega, w3, w4⟩)
    · by_cases e : q = i ∧ p = j
      · exact Or.inr ⟨Or.inr e, by rw [← e.1, ← e.2]; exact w4⟩
      · exact Or.inl (Or.inr ⟨w1, by omega, w3, w4⟩)
  · rintro ((⟨w1, w2, w3, w4⟩ | ⟨w1, w2, w3, w4⟩) | ⟨⟨rfl, rfl⟩ | ⟨rfl, rfl⟩, w⟩)
    · exact Or.inl ⟨w1, by omega, w3, w4⟩
    · exact Or.inr ⟨w1, by omega, w3, w4⟩
    · exact Or.inl ⟨hij, by omega, hj, w⟩
    · exact Or.inr ⟨hij, by omega, hj, w⟩
theorem nUU_n {d : Int} {o : Nat → Nat} {bb : Nat → List BB} {n i p q : Nat} : nUU d o bb n i n p q ↔ nUU d o bb n (i + 1) (i + 1 + 1) p q := by
  unfold nUU
  constructor
  · rintro (⟨w1, w2, w3, w4⟩ | ⟨w1, w2, w3, w4⟩)
    · exact Or.inl ⟨w1, by omega, w3, w4⟩
    · exact Or.inr ⟨w1, by omega, w3, w4⟩
  · rintro (⟨w1, w2, w3, w4⟩ | ⟨w1, w2, w3, w4⟩)
    · exact Or.inl ⟨w1, by omega, w3, w4⟩
    · exact Or.inr ⟨w1, by omega, w3, w4⟩
section C19
variable {l : Launch} {B E0 : Nat} {D : va_G} {h h0 : HM} {d : Int} {ps row re : Nat} {pg : List PG} {o : Nat → Nat} {t : Nat → Int} {bb : Nat → List BB} {N : Nat → Nat → Prop}
theorem PSR.same (R : PSR E0 h0 h ps row re pg o t bb N) {N1 : Nat → Nat → Prop} (hN : ∀ p q, p < pg.length → q < 12 → (N1 p q ↔ N p q)) : PSR E0 h0 h ps row re pg o t bb N1 := by
  obtain ⟨r0, r1, r2, r3, r4, r5⟩ := R
  refine ⟨r0, r1, r2, r3, fun p hp => ?_, r5⟩
  obtain ⟨s1, s2, s3⟩ := r4 p hp
  refine ⟨s1, s2.trans ?_, s3⟩
  unfold pcF
  rw [bS_congr (fun q hq => hN p q hp hq)]
theorem PSR.nr (R : PSR E0 h0 h ps row re pg o t bb N) {p : Nat} (hp : p < pg.length) (S : Nat → Prop) {fs : List Value} (hf : fs = pcF (gP pg p) (o p) (t p) S) : PSR E0 h0 (hput h (gP pg p).1 (hO 3 fs)) ps row re pg o t bb (fun i => if i = p then S else N i) := by
  obtain ⟨⟨c1, c2, c3, c4, c5⟩, r1, r2, r3, r4, r5⟩ := R
  obtain ⟨⟨zl, hl1⟩, ne, fe, hl2⟩ := r2.ty
  obtain ⟨q0, q1, -⟩ := r4 p hp
  refine ⟨⟨fun z hz => (hput_ne _ (fun e => hz (by rw [e]; exact q0))).trans (c1 z hz), c2, c3, c4, c5⟩, (hput_ne _ (hm_ne r1 q1 (by intro z; cases z))).trans r1, r2.keep (hput_ne _ (hm_ne hl1 q1 (by intro z; cases z))) (hput_ne _ (hm_ne hl2 q1 (by intro z; cases z))), r3, fun i hi => ?_, r5⟩
  obtain ⟨s1, s2, s3, s4⟩ := r4 i hi
  obtain ⟨⟨zb, y1⟩, n2, f2, y2⟩ := s3.1.ty
  refine ⟨s1, ?_, s3.keep (hput_ne _ (hm_ne y1 q1 (by intro z; cases z))) (hput_ne _ (hm_ne y2 q1 (by intro z; cases z))) (fun j hj => hput_ne _ (hm_ne (s3.2.2 j hj) q1 (by intro z; cases z))), s4⟩
  show _ = some (hO 3 (pcF (gP pg i) (o i) (t i) (if i = p then S else N i)))
  by_cases e : i = p
  · rw [if_pos e, e, hput_eq, hf]
  · rw [if_neg e]
    exact (hput_ne _ (r5 i p hi hp e)).trans s2
theorem iw_X3_findNearOnes_X2 : ∀ w ∈ u_ws RX2 TX2 4, w ∈ wsX3_findNearOnes := by decide +kernel
theorem iw_X3_findNearOnes_X3 : ∀ w ∈ u_ws RX3 TX3 1, w ∈ wsX3_findNearOnes := by decide +kernel
theorem c_pnear (v : Nat) (R : PSR E0 h0 h ps row re pg o t bb (fun _ _ => False)) (hd : 1 ≤ d ∧ d ≤ 65536) (ho : ∀ p, p < pg.length → o p < 100) (hb : ∀ p, p < pg.length → (bb p).length < 12 ∧ ∀ i, i < (bb p).length → wB (gB (bb p) i)) : CM l B E0 D yX3_findNearOnes wsX3_findNearOnes (v + 6) 0 0 [.ref ps, .long (lZ (d * d))] h (fun r h1 => r = none ∧ PSR E0 h0 h1 ps row re pg o t bb (fun p q => p < pg.length ∧ q < pg.length ∧ ((p < q ∧ nPP d o bb p q) ∨ (q < p ∧ nPP d o bb q p)))) := by
  have h12 := R.2.2.2.1
  refine CM.of (cc := cX3_findNearOnes) (maxL := 7) (ret := none) (by decide) rfl (Nat.le_of_ble_eq_true rfl) (fun X E hin => ?_)
  show J X B D 7 _ h 0 0 0 [(0, .ref ps), (1, .long (lZ (d * d)))] []
  generalize hQ : jQ X B D _ _ _ = Q
  have outer : ∀ (t0 i : Nat) (h : HM), i + t0 = pg.length → PSR E0 h0 h ps row re pg o t bb (nUU d o bb pg.length i (i + 1)) → J X B D 7 Q h 0 0 2 [(3, .int (nI i)), (0, .ref ps), (1, .long (lZ (d * d)))] [] := by
    intro t0
    induction t0 with
    | zero =>
      intro i h hi R
      obtain ⟨R1, L, hL, -, zl, hl⟩ := R.lst
      refine j_iload_n E dX3_findNearOnes_2 rfl ?_
      refine j_aload_n E dX3_findNearOnes_3 rfl ?_
      refine j_getfield (ref := "ColourParts$Pieces") (C := RX3) (T := TX3) (N := 1) (ci := 4) E 0 dX3_findNearOnes_4 iw_X3_findNearOnes_X3 rfl (by decide) (by decide +kernel) rfl (by first | with_reducible assumption | exact hput_eq _ _ _ | exact (hput_ne _ (by first | assumption | exact Ne.symm (by assumption))).trans (by assumption) | exact (hput_ne _ (by first | assumption | exact Ne.symm (by assumption))).trans (hput_eq _ _ _) | exact (hput_ne _ (by first | assumption | exact Ne.symm (by assumption))).trans ((hput_ne _ (by first | assumption | exact Ne.symm (by assumption))).trans (by assumption)) | exact (hput_ne _ (by first | assumption | exact Ne.symm (by assumption))).trans ((hput_ne _ (by first | assumption | exact Ne.symm (by assumption))).trans (hput_eq _ _ _))) rfl ?_
      refine j_callV (np := 0) (C := RJx4a65c) (T := TJx4a65c) (N := 3) (ci := 0) E (c_size (v + 4) L) gX3_findNearOnes_Jx4a65c_size_8abf5 rfl ⟨rfl, by decide, by decide, by decide +kernel⟩ dX3_findNearOnes_7 (by omega) (by decide) rfl hl rfl rfl (Nat.le_of_ble_eq_true rfl) (by omega) (by omega) (fun r9 h9 p9 => J.pure p9 ?_)
      rw [hL]
      refine J.wide (k' := 0) (n' := 0) (by omega) (by omega) ?_
      refine j_icmp_ge E (tgt := 120) dX3_findNearOnes_10 (by decide) (fun c1 => ?_) (fun c1 => ?_)
      ·
        rw [← hQ]
        refine j_vret E dX3_findNearOnes_120 rfl (by omega) (by omega) ⟨rfl, R.same (fun p q hp _ => ?_)⟩
        unfold nUU
        constructor
        · rintro ⟨w1, w2, ⟨w3, w4⟩ | ⟨w3, w4⟩⟩
          · exact Or.inl ⟨w3, by omega, w2, w4⟩
          · exact Or.inr ⟨w3, by omega, w1, w4⟩
        · rintro (⟨w1, w2, w3, w4⟩ | ⟨w1, w2, w3, w4⟩)
          · exact ⟨hp, w3, Or.inl ⟨w1, w4⟩⟩
          · exact ⟨hp, by omega, Or.inr ⟨w1, w4⟩⟩
      · exact absurd (nI_le (show pg.length ≤ i by omega) (by omega)) c1
    | succ t0 ih =>
      intro i h hi R
      have hil : i < pg.length := by omega
      have inner : ∀ (t2 j : Nat) (h : HM), j + t2 = pg.length → i < j → PSR E0 h0 h ps row re pg o t bb (nUU d o bb pg.length i j) → J X B D 7 Q h 0 0 18 [(4, .int (nI j)), (3, .int (nI i)), (0, .ref ps), (1, .long (lZ (d * d)))] [] := by
        intro t2
        induction t2 with
        | zero =>
          intro j h hj hij R
          obtain ⟨R1, L, hL, -, zl, hl⟩ := R.lst
          have ej : j = pg.length := by omega
          refine j_iload E dX3_findNearOnes_18 rfl ?_
          refine j_aload_n E dX3_findNearOnes_20 rfl ?_
          refine j_getfield (ref := "ColourParts$Pieces") (C := RX3) (T := TX3) (N := 1) (ci := 4) E 0 dX3_findNearOnes_21 iw_X3_findNearOnes_X3 rfl (by decide) (by decide +kernel) rfl (by first | with_reducible assumption | exact hput_eq _ _ _ | exact (hput_ne _ (by first | assumption | exact Ne.symm (by assumption))).trans (by assumption) | exact (hput_ne _ (by first | assumption | exact Ne.symm (by assumption))).trans (hput_eq _ _ _) | exact (hput_ne _ (by first | assumption | exact Ne.symm (by assumption))).trans ((hput_ne _ (by first | assumption | exact Ne.symm (by assumption))).trans (by assumption)) | exact (hput_ne _ (by first | assumption | exact Ne.symm (by assumption))).trans ((hput_ne _ (by first | assumption | exact Ne.symm (by assumption))).trans (hput_eq _ _ _))) rfl ?_
          refine j_callV (np := 0) (C := RJx4a65c) (T := TJx4a65c) (N := 3) (ci := 0) E (c_size (v + 4) L) gX3_findNearOnes_Jx4a65c_size_8abf5 rfl ⟨rfl, by decide, by decide, by decide +kernel⟩ dX3_findNearOnes_24 (by omega) (by decide) rfl hl rfl rfl (Nat.le_of_ble_eq_true rfl) (by omega) (by omega) (fun r9 h9 p9 => J.pure p9 ?_)
          rw [hL]
          refine J.wide (k' := 0) (n' := 0) (by omega) (by omega) ?_
          refine j_icmp_ge E (tgt := 114) dX3_findNearOnes_27 (by decide) (fun c1 => ?_) (fun c1 => ?_)
          ·
            refine j_iinc E dX3_findNearOnes_114 rfl (nI_1 i) (by decide) ?_
            refine j_goto E (tgt := 2) dX3_findNearOnes_117 (by decide) ?_
            refine J.sub [(3, .int (nI (i + 1))), (0, .ref ps), (1, .long (lZ (d * d)))] ⟨rfl, rfl, rfl, trivial⟩ ?_
            refine ih (i + 1) h (by omega) (R.same (fun p q _ _ => ?_))
            rw [ej]
            exact nUU_n.symm
          · exact absurd (nI_le (show pg.length ≤ j by omega) (by omega)) c1
        | succ t2 ih2 =>
          intro j h hj hij R
          have hjl : j < pg.length := by omega
          obtain ⟨R1, L, hL, -, zl, hl⟩ := R.lst
          obtain ⟨Pi, Li⟩ := R.pc hil
          obtain ⟨Pj, Lj⟩ := R.pc hjl
          have Pi0 := Pi
          have Pj0 := Pj
          unfold pcF at Pi Pj
          have o1 := ho i hil
          have o2 := ho j hjl
          have next : ∀ (h : HM), PSR E0 h0 h ps row re pg o t bb (nUU d o bb pg.length i (j + 1)) → J X B D 7 Q h 0 0 108 [(4, .int (nI j)), (3, .int (nI i)), (0, .ref ps), (1, .long (lZ (d * d)))] [] := by
            intro h R
            refine j_iinc E dX3_findNearOnes_108 rfl (nI_1 j) (by decide) ?_
            refine j_goto E (tgt := 18) dX3_findNearOnes_111 (by decide) ?_
            refine J.sub [(4, .int (nI (j + 1))), (3, .int (nI i)), (0, .ref ps), (1, .long (lZ (d * d)))] ⟨rfl, rfl, rfl, rfl, trivial⟩ ?_
            exact ih2 (j + 1) h (by omega) (by omega) R
          have skip_ : ¬ nPP d o bb i j → J X B D 7 Q h 0 0 108 [(4, .int (nI j)), (3, .int (nI i)), (0, .ref ps), (1, .long (lZ (d * d)))] [] := fun no => next h (R.same (fun p q _ _ => by
            rw [nUU_s hij hjl]
            exact ⟨fun w => w.elim id (fun w => absurd w.2 no), Or.inl⟩))
          refine j_iload E dX3_findNearOnes_18 rfl ?_
          refine j_aload_n E dX3_findNearOnes_20 rfl ?_
          refine j_getfield (ref := "ColourParts$Pieces") (C := RX3) (T := TX3) (N := 1) (ci := 4) E 0 dX3_findNearOnes_21 iw_X3_findNearOnes_X3 rfl (by decide) (by decide +kernel) rfl (by first | with_reducible assumption | exact hput_eq _ _ _ | exact (hput_ne _ (by first | assumption | exact Ne.symm (by assumption))).trans (by assumption) | exact (hput_ne _ (by first | assumption | exact Ne.symm (by assumption))).trans (hput_eq _ _ _) | exact (hput_ne _ (by first | assumption | exact Ne.symm (by assumption))).trans ((hput_ne _ (by first | assumption | exact Ne.symm (by assumption))).trans (by assumption)) | exact (hput_ne _ (by first | assumption | exact Ne.symm (by assumption))).trans ((hput_ne _ (by first | assumption | exact Ne.symm (by assumption))).trans (hput_eq _ _ _))) rfl ?_
          refine j_callV (np := 0) (C := RJx4a65c) (T := TJx4a65c) (N := 3) (ci := 0) E (c_size (v + 4) L) gX3_findNearOnes_Jx4a65c_size_8abf5 rfl ⟨rfl, by decide, by decide, by decide +kernel⟩ dX3_findNearOnes_24 (by omega) (by decide) rfl hl rfl rfl (Nat.le_of_ble_eq_true rfl) (by omega) (by omega) (fun r9 h9 p9 => J.pure p9 ?_)
          rw [hL]
          refine J.wide (k' := 0) (n' := 0) (by omega) (by omega) ?_
          refine j_icmp_ge E (tgt := 114) dX3_findNearOnes_27 (by decide) (fun c1 => ?_) (fun c1 => ?_)
          · exact absurd c1 (nI_ge hjl (by omega))
          ·
            refine j_aload_n E dX3_findNearOnes_30 rfl ?_
            refine j_getfield (ref := "ColourParts$Pieces") (C := RX3) (T := TX3) (N := 1) (ci := 4) E 0 dX3_findNearOnes_31 iw_X3_findNearOnes_X3 rfl (by decide) (by decide +kernel) rfl (by first | with_reducible assumption | exact hput_eq _ _ _ | exact (hput_ne _ (by first | assumption | exact Ne.symm (by assumption))).trans (by assumption) | exact (hput_ne _ (by first | assumption | exact Ne.symm (by assumption))).trans (hput_eq _ _ _) | exact (hput_ne _ (by first | assumption | exact Ne.symm (by assumption))).trans ((hput_ne _ (by first | assumption | exact Ne.symm (by assumption))).trans (by assumption)) | exact (hput_ne _ (by first | assumption | exact Ne.symm (by assumption))).trans ((hput_ne _ (by first | assumption | exact Ne.symm (by assumption))).trans (hput_eq _ _ _))) rfl ?_
            refine j_iload_n E dX3_findNearOnes_34 rfl ?_
            refine j_callV (np := 1) (C := RJx4a65c) (T := TJx4a65c) (N := 3) (ci := 0) E (c_get (v + 2) L (show i < (pg.map (·.1)).length by omega) (by omega)) gX3_findNearOnes_Jx4a65c_get_915e3 rfl ⟨rfl, by decide, by decide, by decide +kernel⟩ dX3_findNearOnes_35 (by omega) (by decide) rfl hl rfl rfl (Nat.le_of_ble_eq_true rfl) (by omega) (by omega) (fun r9 h9 p9 => J.pure p9 ?_)
            rw [R.el]
            refine J.wide (k' := 0) (n' := 0) (by omega) (by omega) ?_
            refine j_cast (C := RX2) (T := TX2) (N := 4) (ci := 3) E dX3_findNearOnes_38 (by decide +kernel) rfl Pi ?_
            refine j_astore E dX3_findNearOnes_41 (by decide) ?_
            refine j_aload_n E dX3_findNearOnes_43 rfl ?_
            refine j_getfield (ref := "ColourParts$Pieces") (C := RX3) (T := TX3) (N := 1) (ci := 4) E 0 dX3_findNearOnes_44 iw_X3_findNearOnes_X3 rfl (by decide) (by decide +kernel) rfl (by first | with_reducible assumption | exact hput_eq _ _ _ | exact (hput_ne _ (by first | assumption | exact Ne.symm (by assumption))).trans (by assumption) | exact (hput_ne _ (by first | assumption | exact Ne.symm (by assumption))).trans (hput_eq _ _ _) | exact (hput_ne _ (by first | assumption | exact Ne.symm (by assumption))).trans ((hput_ne _ (by first | assumption | exact Ne.symm (by assumption))).trans (by assumption)) | exact (hput_ne _ (by first | assumption | exact Ne.symm (by assumption))).trans ((hput_ne _ (by first | assumption | exact Ne.symm (by assumption))).trans (hput_eq _ _ _))) rfl ?_
            refine j_iload E dX3_findNearOnes_47 rfl ?_
            refine j_callV (np := 1) (C := RJx4a65c) (T := TJx4a65c) (N := 3) (ci := 0) E (c_get (v + 2) L (show j < (pg.map (·.1)).length by omega) (by omega)) gX3_findNearOnes_Jx4a65c_get_915e3 rfl ⟨rfl, by decide, by decide, by decide +kernel⟩ dX3_findNearOnes_49 (by omega) (by decide) rfl hl rfl rfl (Nat.le_of_ble_eq_true rfl) (by omega) (by omega) (fun r9 h9 p9 => J.pure p9 ?_)
            rw [R.el]
            refine J.wide (k' := 0) (n' := 0) (by omega) (by omega) ?_
            refine j_cast (C := RX2) (T := TX2) (N := 4) (ci := 3) E dX3_findNearOnes_52 (by decide +kernel) rfl Pj ?_
            refine j_astore E dX3_findNearOnes_55 (by decide) ?_
            refine j_aload E dX3_findNearOnes_57 rfl ?_
            refine j_getfield (ref := "ColourParts$Piece") (C := RX2) (T := TX2) (N := 4) (ci := 3) E 0 dX3_findNearOnes_59 iw_X3_findNearOnes_X2 rfl (by decide) (by decide +kernel) rfl Pi rfl ?_
            refine j_aload E dX3_findNearOnes_62 rfl ?_
            refine j_getfield (ref := "ColourParts$Piece") (C := RX2) (T := TX2) (N := 4) (ci := 3) E 0 dX3_findNearOnes_64 iw_X3_findNearOnes_X2 rfl (by decide) (by decide +kernel) rfl Pj rfl ?_
            refine j_icmp_eq E (tgt := 108) dX3_findNearOnes_67 (by decide) (fun c2 => ?_) (fun c2 => ?_)
            · refine J.sub [(4, .int (nI j)), (3, .int (nI i)), (0, .ref ps), (1, .long (lZ (d * d)))] ⟨rfl, rfl, rfl, rfl, trivial⟩ ?_
              exact skip_ (fun w => w.1 ((nI_eq (show o i < 2 ^ 31 by omega) (show o j < 2 ^ 31 by omega)).mp c2))
            · have on_ : ¬ o i = o j := fun w => c2 (congrArg nI w)
              refine j_aload E dX3_findNearOnes_70 rfl ?_
              refine j_aload E dX3_findNearOnes_72 rfl ?_
              refine j_lload_n E dX3_findNearOnes_74 rfl ?_
              refine j_callV (np := 2) (C := RX2) (T := TX2) (N := 4) (ci := 3) E (c_isNearPiece v hd Pi Pj Li Lj (hb i hil).1 (hb j hjl).1 (hb i hil).2 (hb j hjl).2) gX3_findNearOnes_X2_isNearPiece rfl ⟨rfl, by decide, by decide, by decide +kernel⟩ dX3_findNearOnes_75 (by omega) (by decide) rfl Pi rfl rfl (Nat.le_of_ble_eq_true rfl) (by omega) (by omega) (fun r9 h9 p9 => J.pure p9 ?_)
              refine J.wide (k' := 0) (n' := 0) (by omega) (by omega) ?_
              refine j_if_eq E (tgt := 108) dX3_findNearOnes_78 (by decide) (fun c3 => ?_) (fun c3 => ?_)
              · refine J.sub [(4, .int (nI j)), (3, .int (nI i)), (0, .ref ps), (1, .long (lZ (d * d)))] ⟨rfl, rfl, rfl, rfl, trivial⟩ ?_
                exact skip_ (fun w => bI_z.mp c3 w.2)
              · have yes : nPP d o bb i j := ⟨on_, bI_n.mp c3⟩
                have R2 := R.nr hil (fun q => nUU d o bb pg.length i j i q ∨ q = j) (fs := (pcF (gP pg i) (o i) (t i) (nUU d o bb pg.length i j i)).set 3 (.int (bS (fun q => nUU d o bb pg.length i j i q ∨ q = j)))) rfl
                unfold pcF at R2
                refine j_aload E dX3_findNearOnes_81 rfl ?_
                refine j_dup E dX3_findNearOnes_83 rfl ?_
                refine j_getfield (ref := "ColourParts$Piece") (C := RX2) (T := TX2) (N := 4) (ci := 3) E 3 dX3_findNearOnes_84 iw_X3_findNearOnes_X2 rfl (by decide) (by decide +kernel) rfl Pi rfl ?_
                refine j_iconst (x := nI 1) E dX3_findNearOnes_87 (by decide) ?_
                refine j_iload E dX3_findNearOnes_88 rfl ?_
                refine j_ishl E dX3_findNearOnes_90 ?_
                refine j_ior E dX3_findNearOnes_91 ?_
                refine J.topi (x' := bS (fun q => nUU d o bb pg.length i j i q ∨ q = j)) (bS_add _ (by omega)) ?_
                refine j_putfield (ref := "ColourParts$Piece") (C := RX2) (T := TX2) (N := 4) (ci := 3) E 3 dX3_findNearOnes_92 iw_X3_findNearOnes_X2 tyX2 tyX2_ok nmX2 rfl (by decide) (by decide +kernel) rfl rfl rfl rfl Pi (Nat.le_of_ble_eq_true rfl) ?_
                generalize hput h (gP pg i).1 _ = h2 at R2 ⊢
                have Kj := (R2.pc hjl).1
                have nji : j ≠ i := by omega
                rw [if_neg nji] at Kj
                have R3 := R2.nr hjl (fun q => nUU d o bb pg.length i j j q ∨ q = i) (fs := (pcF (gP pg j) (o j) (t j) (nUU d o bb pg.length i j j)).set 3 (.int (bS (fun q => nUU d o bb pg.length i j j q ∨ q = i)))) rfl
                unfold pcF at R3 Kj
                refine j_aload E dX3_findNearOnes_95 rfl ?_
                refine j_dup E dX3_findNearOnes_97 rfl ?_
                refine j_getfield (ref := "ColourParts$Piece") (C := RX2) (T := TX2) (N := 4) (ci := 3) E 3 dX3_findNearOnes_98 iw_X3_findNearOnes_X2 rfl (by decide) (by decide +kernel) rfl Kj rfl ?_
                refine j_iconst (x := nI 1) E dX3_findNearOnes_101 (by decide) ?_
                refine j_iload_n E dX3_findNearOnes_102 rfl ?_
                refine j_ishl E dX3_findNearOnes_103 ?_
                refine j_ior E dX3_findNearOnes_104 ?_
                refine J.topi (x' := bS (fun q => nUU d o bb pg.length i j j q ∨ q = i)) (bS_add _ (by omega)) ?_
                refine j_putfield (ref := "ColourParts$Piece") (C := RX2) (T := TX2) (N := 4) (ci := 3) E 3 dX3_findNearOnes_105 iw_X3_findNearOnes_X2 tyX2 tyX2_ok nmX2 rfl (by decide) (by decide +kernel) rfl rfl rfl rfl Kj (Nat.le_of_ble_eq_true rfl) ?_
                generalize hput h2 (gP pg j).1 _ = h3 at R3 ⊢
                refine J.sub [(4, .int (nI j)), (3, .int (nI i)), (0, .ref ps), (1, .long (lZ (d * d)))] ⟨rfl, rfl, rfl, rfl, trivial⟩ ?_
                refine next h3 (R3.same (fun p q hp _ => ?_))
                rw [nUU_s hij hjl]
                by_cases ep : p = j
                · rw [if_pos ep, ep]
                  exact ⟨fun w => w.imp id (fun w => w.1.elim (fun w => absurd w.1 nji) And.left), fun w => w.imp id (fun w => ⟨Or.inr ⟨w, rfl⟩, yes⟩)⟩
                · rw [if_neg ep]
                  by_cases ei : p = i
                  · rw [if_pos ei, ei]
                    exact ⟨fun w => w.imp id (fun w => w.1.elim And.right (fun w => absurd w.2.symm nji)), fun w => w.imp id (fun w => ⟨Or.inl ⟨rfl, w⟩, yes⟩)⟩
                  · rw [if_neg ei]
                    exact ⟨fun w => w.elim id (fun w => w.1.elim (fun w => absurd w.1 ei) (fun w => absurd w.2 ep)), Or.inl⟩
      obtain ⟨R1, L, hL, -, zl, hl⟩ := R.lst
      refine j_iload_n E dX3_findNearOnes_2 rfl ?_
      refine j_aload_n E dX3_findNearOnes_3 rfl ?_
      refine j_getfield (ref := "ColourParts$Pieces") (C := RX3) (T := TX3) (N := 1) (ci := 4) E 0 dX3_findNearOnes_4 iw_X3_findNearOnes_X3 rfl (by decide) (by decide +kernel) rfl (by first | with_reducible assumption | exact hput_eq _ _ _ | exact (hput_ne _ (by first | assumption | exact Ne.symm (by assumption))).trans (by assumption) | exact (hput_ne _ (by first | assumption | exact Ne.symm (by assumption))).trans (hput_eq _ _ _) | exact (hput_ne _ (by first | assumption | exact Ne.symm (by assumption))).trans ((hput_ne _ (by first | assumption | exact Ne.symm (by assumption))).trans (by assumption)) | exact (hput_ne _ (by first | assumption | exact Ne.symm (by assumption))).trans ((hput_ne _ (by first | assumption | exact Ne.symm (by assumption))).trans (hput_eq _ _ _))) rfl ?_
      refine j_callV (np := 0) (C := RJx4a65c) (T := TJx4a65c) (N := 3) (ci := 0) E (c_size (v + 4) L) gX3_findNearOnes_Jx4a65c_size_8abf5 rfl ⟨rfl, by decide, by decide, by decide +kernel⟩ dX3_findNearOnes_7 (by omega) (by decide) rfl hl rfl rfl (Nat.le_of_ble_eq_true rfl) (by omega) (by omega) (fun r9 h9 p9 => J.pure p9 ?_)
      rw [hL]
      refine J.wide (k' := 0) (n' := 0) (by omega) (by omega) ?_
      refine j_icmp_ge E (tgt := 120) dX3_findNearOnes_10 (by decide) (fun c1 => ?_) (fun c1 => ?_)
      · exact absurd c1 (nI_ge hil (by omega))
      ·
        refine j_iload_n E dX3_findNearOnes_13 rfl ?_
        refine j_iconst (x := nI 1) E dX3_findNearOnes_14 (by decide) ?_
        refine j_iadd E dX3_findNearOnes_15 ?_
        refine J.topi (x' := nI (i + 1)) (nI_1 i) ?_
        refine j_istore E dX3_findNearOnes_16 (by decide) ?_
        refine J.sub [(4, .int (nI (i + 1))), (3, .int (nI i)), (0, .ref ps), (1, .long (lZ (d * d)))] ⟨rfl, rfl, rfl, rfl, trivial⟩ ?_
        exact inner (pg.length - (i + 1)) (i + 1) h (by omega) (by omega) R
  refine j_iconst (x := nI 0) E dX3_findNearOnes_0 (by decide) ?_
  refine j_istore_n E dX3_findNearOnes_1 (by decide) ?_
  refine J.sub [(3, .int (nI 0)), (0, .ref ps), (1, .long (lZ (d * d)))] ⟨rfl, rfl, rfl, trivial⟩ ?_
  refine outer pg.length 0 h (by omega) (R.same (fun p q _ _ => ?_))
  unfold nUU
  exact ⟨fun w => w.elim (fun w => by have := w.1; have := w.2.1; omega) (fun w => by have := w.1; have := w.2.1; omega), fun w => w.elim⟩
end C19
