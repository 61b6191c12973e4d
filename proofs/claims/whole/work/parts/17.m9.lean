/-! pieces; what the reference lays of them -/
def owU (ss : List SH) : Nat → Nat → Nat
  | 0, _ => 0
  | n + 1, p => if p < tS ss n then owU ss n p else n
def ow (ss : List SH) (p : Nat) : Nat := owU ss ss.length p
def nu (ss : List SH) (p : Nat) : Nat := p - tS ss (ow ss p)
theorem owU_at {ss : List SH} {i k : Nat} (hk : k ≤ nk (gS ss i)) : ∀ n, i < n → owU ss n (tS ss i + k) = i
  | 0, h => absurd h (Nat.not_lt_zero _)
  | n + 1, h => by
    unfold owU
    by_cases e : i = n
    · rw [if_neg (by rw [e]; omega), e]
    · have h1 : tS ss (i + 1) ≤ tS ss n := tS_mono ss (by omega)
      have h2 : tS ss (i + 1) = tS ss i + (nk (gS ss i) + 1) := rfl
      rw [if_pos (by omega)]
      exact owU_at hk n (by omega)
theorem ow_at {ss : List SH} {i k : Nat} (hi : i < ss.length) (hk : k ≤ nk (gS ss i)) : ow ss (tS ss i + k) = i := owU_at hk _ hi
theorem nu_at {ss : List SH} {i k : Nat} (hi : i < ss.length) (hk : k ≤ nk (gS ss i)) : nu ss (tS ss i + k) = k := by unfold nu; rw [ow_at hi hk]; omega
theorem owU_spec {ss : List SH} : ∀ (n p : Nat), p < tS ss n → owU ss n p < n ∧ tS ss (owU ss n p) ≤ p ∧ p - tS ss (owU ss n p) ≤ nk (gS ss (owU ss n p))
  | 0, p, h => absurd h (Nat.not_lt_zero _)
  | n + 1, p, h => by
    unfold owU
    by_cases e : p < tS ss n
    · rw [if_pos e]
      obtain ⟨h1, h2, h3⟩ := owU_spec n p e
      exact ⟨by omega, h2, h3⟩
    · rw [if_neg e]
      have h2 : tS ss (n + 1) = tS ss n + (nk (gS ss n) + 1) := rfl
      exact ⟨by omega, by omega, by omega⟩
theorem ow_spec {ss : List SH} {p : Nat} (h : p < tS ss ss.length) : ow ss p < ss.length ∧ p = tS ss (ow ss p) + nu ss p ∧ nu ss p ≤ nk (gS ss (ow ss p)) := by
  obtain ⟨h1, h2, h3⟩ := owU_spec ss.length p h
  exact ⟨h1, by unfold nu ow; omega, h3⟩
def NR (d : Int) (ss : List SH) (p q : Nat) : Prop := ¬ ow ss p = ow ss q ∧ nearP d (gS ss (ow ss p)) (nu ss p) (gS ss (ow ss q)) (nu ss q)
def td (ss : List SH) (p : Nat) : Int := tl (gS ss (ow ss p))
/-- what the reference holds of the pieces -/
def MP (d : Int) (ss : List SH) (s : Nat → Int32) (I : Nat → Nat → Int32) : Prop := s 10 = nI (tS ss ss.length) ∧ (∀ p, p < tS ss ss.length → I 11 p = nI (ow ss p) ∧ I 12 p = nI (nu ss p)) ∧ ∀ p q, p < tS ss ss.length → q < tS ss ss.length → I 13 (12 * p + q) = bI (NR d ss p q)
theorem MP.keep {d : Int} {ss : List SH} {s s1 : Nat → Int32} {I I1 : Nat → Nat → Int32} (P : MP d ss s I) (h1 : s1 10 = s 10) (h2 : I1 11 = I 11 ∧ I1 12 = I 12 ∧ I1 13 = I 13) : MP d ss s1 I1 := by
  unfold MP
  rw [h1, h2.1, h2.2.1, h2.2.2]
  exact P
def arB (ss : List SH) (p b : Nat) : Int := (px1 (gS ss (ow ss p)) (nu ss p) b - px0 (gS ss (ow ss p)) (nu ss p) b) * (py1 (gS ss (ow ss p)) (nu ss p) b - py0 (gS ss (ow ss p)) (nu ss p) b)
def arU (ss : List SH) (p : Nat) : Nat → Int
  | 0 => 0
  | b + 1 => arU ss p b + arB ss p b
def ar (ss : List SH) (p : Nat) : Int := arU ss p (nb (gS ss (ow ss p)))
/-- may piece k have its colour, with those ahead -/
def fitP (d : Int) (ss : List SH) (c : Nat → Nat) (most k : Nat) : Prop := (td ss k = -1 ∨ (c k : Int) = td ss k) ∧ (∀ i, i < k → ¬ (NR d ss i k ∧ c i = c k)) ∧ uC (ow ss) c (k + 1) ≤ most
theorem uC_congr {f g c e : Nat → Nat} : ∀ {n : Nat}, (∀ k, k < n → f k = g k ∧ c k = e k) → uC f c n = uC g e n
  | 0, _ => rfl
  | n + 1, h => by
    show uC f c n + bN _ = uC g e n + bN _
    rw [uC_congr (fun k hk => h k (by omega)), (h n (by omega)).1, (h n (by omega)).2]
    by_cases e0 : 0 < n
    · rw [(h (n - 1) (by omega)).1, (h (n - 1) (by omega)).2]
    · rw [bN_f (fun z => e0 z.1), bN_f (fun z => e0 z.1)]
section M9
variable {l : Launch} {B E0 : Nat} {D : va_G} {h0 h : HM} {m : Nat} {a : Nat → Nat} {d : Int} {s : Nat → Int32} {I : Nat → Nat → Int32} {G : Nat → Nat → Int64} {ss : List SH} {kp : Option KPs} {rg : List Nat} {cl : Prop}
theorem iw_X7_part_X7 : ∀ w ∈ u_ws RX7 TX7 27, w ∈ wsX7_part := by decide +kernel
theorem m_part (v : Nat) (hM : MR h0 h m a (lZ d) s I G) (A : MA ss s I G) (hw : wfSS ss) (hd : 1 ≤ d ∧ d ≤ 65536) : CM l B E0 D yX7_part wsX7_part (v + 4) 0 0 [.ref m] h (fun r h1 => r = none ∧ ∃ s1 I1 G1, MR h0 h1 m a (lZ d) s1 I1 G1 ∧ MP d ss s1 I1 ∧ (∀ k, k ≠ 10 → s1 k = s k) ∧ (∀ k, k ≠ 11 → k ≠ 12 → k ≠ 13 → I1 k = I k) ∧ gK G G1) := by
  have hl := hw.1
  have ht := hw.2.1
  refine CM.of (cc := cX7_part) (maxL := 3) (ret := none) (by decide) rfl (Nat.le_of_ble_eq_true rfl) (fun X E hin => ?_)
  show J X B D 3 _ h 0 0 0 [(0, .ref m)] []
  generalize hQ : jQ X B D _ _ _ = Q
  refine j_aload_n E dX7_part_0 rfl ?_
  refine j_iconst (x := nI 0) E dX7_part_1 (by decide) ?_
  refine j_putfield (ref := "ColourPartsModel") (C := RX7) (T := TX7) (N := 27) (ci := 8) E 10 dX7_part_2 iw_X7_part_X7 tyX7 tyX7_ok nmX7 rfl (by decide) (by decide +kernel) rfl rfl rfl rfl hM.obj (Nat.le_of_ble_eq_true rfl) ?_
  refine MR.gen (hM.pS 10 _ (by decide) rfl) (fun h hM => ?_)
  refine j_iconst (x := nI 0) E dX7_part_5 (by decide) ?_
  refine j_istore_n E dX7_part_6 (by decide) ?_
  have second : ∀ (h : HM) (s1 : Nat → Int32) (I1 : Nat → Nat → Int32), MR h0 h m a (lZ d) s1 I1 G → s1 10 = nI (tS ss ss.length) → (∀ k, k ≠ 10 → s1 k = s k) → (∀ k, k ≠ 11 → k ≠ 12 → I1 k = I k) → (∀ p, p < tS ss ss.length → I1 11 p = nI (ow ss p) ∧ I1 12 p = nI (nu ss p)) → J X B D 3 Q h 0 0 69 [(0, .ref m)] [] := by
    intro h s1 I1 hM q10 qs qI qP
    have A1 : MA ss s1 I1 G := A.keep (qs 2 (by decide)) ⟨qI 5 (by decide) (by decide), qI 6 (by decide) (by decide), qI 8 (by decide) (by decide), qI 9 (by decide) (by decide)⟩ ⟨rfl, rfl, rfl⟩
    have outer : ∀ (t p : Nat) (h : HM) (f : Nat → Int32) (G1 : Nat → Nat → Int64), p + t = tS ss ss.length → MR h0 h m a (lZ d) s1 (uA I1 13 f) G1 → gK G G1 → (∀ p2 q2, p2 < p → q2 < tS ss ss.length → f (12 * p2 + q2) = bI (NR d ss p2 q2)) → J X B D 3 Q h 0 0 71 [(1, .int (nI p)), (0, .ref m)] [] := by
      intro t
      induction t with
      | zero =>
        intro p h f G1 hp hM hG hf
        refine j_iload_n E dX7_part_71 rfl ?_
        refine j_aload_n E dX7_part_72 rfl ?_
        refine j_getfield (ref := "ColourPartsModel") (C := RX7) (T := TX7) (N := 27) (ci := 8) E 10 dX7_part_73 iw_X7_part_X7 rfl (by decide) (by decide +kernel) rfl hM.obj rfl ?_
        refine J.topi (x' := nI (tS ss ss.length)) (q10) ?_
        refine j_icmp_ge E (tgt := 163) dX7_part_76 (by decide) (fun c => ?_) (fun c => ?_)
        ·
          rw [← hQ]
          exact j_vret E dX7_part_163 rfl (by omega) (by omega) ⟨rfl, _, _, _, hM, ⟨q10, qP, fun p2 q2 h1 h2 => hf p2 q2 (by omega) h2⟩, qs, fun k h1 h2 h3 => (uA_ne _ _ h3).trans (qI k h1 h2), hG⟩
        · exact absurd (nI_le (show tS ss ss.length ≤ p by omega) (by omega)) c
      | succ t ih =>
        intro p h f G1 hp hM hG hf
        have hpl : p < tS ss ss.length := by omega
        refine j_iload_n E dX7_part_71 rfl ?_
        refine j_aload_n E dX7_part_72 rfl ?_
        refine j_getfield (ref := "ColourPartsModel") (C := RX7) (T := TX7) (N := 27) (ci := 8) E 10 dX7_part_73 iw_X7_part_X7 rfl (by decide) (by decide +kernel) rfl hM.obj rfl ?_
        refine J.topi (x' := nI (tS ss ss.length)) (q10) ?_
        refine j_icmp_ge E (tgt := 163) dX7_part_76 (by decide) (fun c => ?_) (fun c => ?_)
        · exact absurd c (nI_ge hpl (by omega))
        · have inner : ∀ (t2 q : Nat) (h : HM) (f : Nat → Int32) (G1 : Nat → Nat → Int64), q + t2 = tS ss ss.length → MR h0 h m a (lZ d) s1 (uA I1 13 f) G1 → gK G G1 → (∀ p2 q2, (p2 < p ∨ (p2 = p ∧ q2 < q)) → q2 < tS ss ss.length → f (12 * p2 + q2) = bI (NR d ss p2 q2)) → J X B D 3 Q h 0 0 81 [(2, .int (nI q)), (1, .int (nI p)), (0, .ref m)] [] := by
            intro t2
            induction t2 with
            | zero =>
              intro q h f G1 hq hM hG hf
              refine j_iload_n E dX7_part_81 rfl ?_
              refine j_aload_n E dX7_part_82 rfl ?_
              refine j_getfield (ref := "ColourPartsModel") (C := RX7) (T := TX7) (N := 27) (ci := 8) E 10 dX7_part_83 iw_X7_part_X7 rfl (by decide) (by decide +kernel) rfl hM.obj rfl ?_
              refine J.topi (x' := nI (tS ss ss.length)) (q10) ?_
              refine j_icmp_ge E (tgt := 157) dX7_part_86 (by decide) (fun c2 => ?_) (fun c2 => ?_)
              ·
                refine j_iinc E dX7_part_157 rfl (nI_1 p) (by decide) ?_
                refine j_goto E (tgt := 71) dX7_part_160 (by decide) ?_
                refine J.sub [(1, .int (nI (p + 1))), (0, .ref m)] ⟨rfl, rfl, trivial⟩ ?_
                exact ih (p + 1) h f G1 (by omega) hM hG (fun p2 q2 h1 h2 => hf p2 q2 (by omega) h2)
              · exact absurd (nI_le (show tS ss ss.length ≤ q by omega) (by omega)) c2
            | succ t2 ih2 =>
              intro q h f G1 hq hM hG hf
              have hql : q < tS ss ss.length := by omega
              obtain ⟨op1, op2, op3⟩ := ow_spec hpl
              obtain ⟨oq1, oq2, oq3⟩ := ow_spec hql
              have tail : ∀ (h : HM) (G1 : Nat → Nat → Int64), MR h0 h m a (lZ d) s1 (uA I1 13 f) G1 → gK G G1 → J X B D 3 Q h 0 0 150 [(2, .int (nI q)), (1, .int (nI p)), (0, .ref m)] [.int (bI (NR d ss p q)), .int (nI (12 * p + q)), .ref (a 13)] := by
                intro h G1 hM hG
                refine j_zastore E (12 * p + q) dX7_part_150 (hM.gZ 13 144 (by decide)) rfl (by omega) (by omega) (nb_bI _) ?_
                refine MR.gen (hM.pZ 13 144 _ (by decide)) (fun h hM => ?_)
                refine j_iinc E dX7_part_151 rfl (nI_1 q) (by decide) ?_
                refine j_goto E (tgt := 81) dX7_part_154 (by decide) ?_
                refine J.sub [(2, .int (nI (q + 1))), (1, .int (nI p)), (0, .ref m)] ⟨rfl, rfl, rfl, trivial⟩ ?_
                rw [uA_uA] at hM
                refine ih2 (q + 1) h _ G1 (by omega) hM hG (fun p2 q2 h1 h2 => ?_)
                rw [uA_eq]
                by_cases e : p2 = p ∧ q2 = q
                · rw [e.1, e.2]; exact upd_eq
                · exact (upd_ne (by omega)).trans (hf p2 q2 (by omega) h2)
              refine j_iload_n E dX7_part_81 rfl ?_
              refine j_aload_n E dX7_part_82 rfl ?_
              refine j_getfield (ref := "ColourPartsModel") (C := RX7) (T := TX7) (N := 27) (ci := 8) E 10 dX7_part_83 iw_X7_part_X7 rfl (by decide) (by decide +kernel) rfl hM.obj rfl ?_
              refine J.topi (x' := nI (tS ss ss.length)) (q10) ?_
              refine j_icmp_ge E (tgt := 157) dX7_part_86 (by decide) (fun c2 => ?_) (fun c2 => ?_)
              · exact absurd c2 (nI_ge hql (by omega))
              ·
                refine j_aload_n E dX7_part_89 rfl ?_
                refine j_getfield (ref := "ColourPartsModel") (C := RX7) (T := TX7) (N := 27) (ci := 8) E 13 dX7_part_90 iw_X7_part_X7 rfl (by decide) (by decide +kernel) rfl hM.obj rfl ?_
                refine j_bipush (x := nI 12) E dX7_part_93 (by decide) ?_
                refine j_iload_n E dX7_part_95 rfl ?_
                refine j_imul E dX7_part_96 ?_
                refine J.topi (x' := nI (12 * p)) (pk_mul _ _) ?_
                refine j_iload_n E dX7_part_97 rfl ?_
                refine j_iadd E dX7_part_98 ?_
                refine J.topi (x' := nI (12 * p + q)) (nI_add _ _) ?_
                refine j_aload_n E dX7_part_99 rfl ?_
                refine j_getfield (ref := "ColourPartsModel") (C := RX7) (T := TX7) (N := 27) (ci := 8) E 11 dX7_part_100 iw_X7_part_X7 rfl (by decide) (by decide +kernel) rfl hM.obj rfl ?_
                refine j_iload_n E dX7_part_103 rfl ?_
                refine j_iaload E p dX7_part_104 (hM.gI 11 12 (by decide)) rfl (by omega) (by omega) ?_
                refine J.topi (x' := nI (ow ss p)) ((qP p hpl).1) ?_
                refine j_aload_n E dX7_part_105 rfl ?_
                refine j_getfield (ref := "ColourPartsModel") (C := RX7) (T := TX7) (N := 27) (ci := 8) E 11 dX7_part_106 iw_X7_part_X7 rfl (by decide) (by decide +kernel) rfl hM.obj rfl ?_
                refine j_iload_n E dX7_part_109 rfl ?_
                refine j_iaload E q dX7_part_110 (hM.gI 11 12 (by decide)) rfl (by omega) (by omega) ?_
                refine J.topi (x' := nI (ow ss q)) ((qP q hql).1) ?_
                refine j_icmp_eq E (tgt := 149) dX7_part_111 (by decide) (fun c3 => ?_) (fun c3 => ?_)
                · have e := (nI_eq (by omega) (by omega)).mp c3
                  refine j_iconst (x := nI 0) E dX7_part_149 (by decide) ?_
                  refine J.topi (x' := bI (NR d ss p q)) ((bI_f (fun z => z.1 e)).symm) ?_
                  exact tail h G1 hM hG
                · have e : ¬ ow ss p = ow ss q := fun z => c3 (by rw [z])
                  refine j_aload_n E dX7_part_114 rfl ?_
                  refine j_aload_n E dX7_part_115 rfl ?_
                  refine j_getfield (ref := "ColourPartsModel") (C := RX7) (T := TX7) (N := 27) (ci := 8) E 11 dX7_part_116 iw_X7_part_X7 rfl (by decide) (by decide +kernel) rfl hM.obj rfl ?_
                  refine j_iload_n E dX7_part_119 rfl ?_
                  refine j_iaload E p dX7_part_120 (hM.gI 11 12 (by decide)) rfl (by omega) (by omega) ?_
                  refine J.topi (x' := nI (ow ss p)) ((qP p hpl).1) ?_
                  refine j_aload_n E dX7_part_121 rfl ?_
                  refine j_getfield (ref := "ColourPartsModel") (C := RX7) (T := TX7) (N := 27) (ci := 8) E 12 dX7_part_122 iw_X7_part_X7 rfl (by decide) (by decide +kernel) rfl hM.obj rfl ?_
                  refine j_iload_n E dX7_part_125 rfl ?_
                  refine j_iaload E p dX7_part_126 (hM.gI 12 12 (by decide)) rfl (by omega) (by omega) ?_
                  refine J.topi (x' := nI (nu ss p)) ((qP p hpl).2) ?_
                  refine j_aload_n E dX7_part_127 rfl ?_
                  refine j_getfield (ref := "ColourPartsModel") (C := RX7) (T := TX7) (N := 27) (ci := 8) E 11 dX7_part_128 iw_X7_part_X7 rfl (by decide) (by decide +kernel) rfl hM.obj rfl ?_
                  refine j_iload_n E dX7_part_131 rfl ?_
                  refine j_iaload E q dX7_part_132 (hM.gI 11 12 (by decide)) rfl (by omega) (by omega) ?_
                  refine J.topi (x' := nI (ow ss q)) ((qP q hql).1) ?_
                  refine j_aload_n E dX7_part_133 rfl ?_
                  refine j_getfield (ref := "ColourPartsModel") (C := RX7) (T := TX7) (N := 27) (ci := 8) E 12 dX7_part_134 iw_X7_part_X7 rfl (by decide) (by decide +kernel) rfl hM.obj rfl ?_
                  refine j_iload_n E dX7_part_137 rfl ?_
                  refine j_iaload E q dX7_part_138 (hM.gI 12 12 (by decide)) rfl (by omega) (by omega) ?_
                  refine J.topi (x' := nI (nu ss q)) ((qP q hql).2) ?_
                  have A2 : MA ss s1 (uA I1 13 f) G1 := MA.gk (A1.keep rfl ⟨rfl, rfl, rfl, rfl⟩ ⟨rfl, rfl, rfl⟩) hG
                  refine j_callV (np := 4) (C := RX7) (T := TX7) (N := 27) (ci := 8) E (m_isNearPiece v hM A2 hw hd op1 op3 oq1 oq3) gX7_part_X7_isNearPiece rfl ⟨rfl, by decide, by decide, by decide +kernel⟩ dX7_part_139 (by omega) (by decide) rfl hM.obj rfl rfl (Nat.le_of_ble_eq_true rfl) (by omega) (by omega) (fun r h1 p => ?_)
                  obtain ⟨rfl, G2, hM, hG2⟩ := p
                  refine J.wide (k' := 0) (n' := 0) (by omega) (by omega) ?_
                  refine j_if_eq E (tgt := 149) dX7_part_142 (by decide) (fun c4 => ?_) (fun c4 => ?_)
                  ·
                    refine j_iconst (x := nI 0) E dX7_part_149 (by decide) ?_
                    refine J.topi (x' := bI (NR d ss p q)) ((bI_f (fun z => bI_z.mp c4 z.2)).symm) ?_
                    exact tail _ _ hM (hG.tr hG2)
                  ·
                    refine j_iconst (x := nI 1) E dX7_part_145 (by decide) ?_
                    refine J.topi (x' := bI (NR d ss p q)) ((bI_t ⟨e, bI_n.mp c4⟩).symm) ?_
                    refine j_goto E (tgt := 150) dX7_part_146 (by decide) ?_
                    exact tail _ _ hM (hG.tr hG2)
          refine j_iconst (x := nI 0) E dX7_part_79 (by decide) ?_
          refine j_istore_n E dX7_part_80 (by decide) ?_
          refine J.sub [(2, .int (nI 0)), (1, .int (nI p)), (0, .ref m)] ⟨rfl, rfl, rfl, trivial⟩ ?_
          exact inner (tS ss ss.length) 0 h f G1 (by omega) hM hG (fun p2 q2 h1 h2 => hf p2 q2 (by omega) h2)
    refine j_iconst (x := nI 0) E dX7_part_69 (by decide) ?_
    refine j_istore_n E dX7_part_70 (by decide) ?_
    refine J.sub [(1, .int (nI 0)), (0, .ref m)] ⟨rfl, rfl, trivial⟩ ?_
    refine outer (tS ss ss.length) 0 h (I1 13) G (by omega) (by rw [uA_self]; exact hM) gK.rf (fun p2 q2 h1 _ => absurd h1 (Nat.not_lt_zero _))
  have first : ∀ (t i : Nat) (h : HM) (s1 : Nat → Int32) (I1 : Nat → Nat → Int32), i + t = ss.length → MR h0 h m a (lZ d) s1 I1 G → s1 10 = nI (tS ss i) → (∀ k, k ≠ 10 → s1 k = s k) → (∀ k, k ≠ 11 → k ≠ 12 → I1 k = I k) → (∀ p, p < tS ss i → I1 11 p = nI (ow ss p) ∧ I1 12 p = nI (nu ss p)) → J X B D 3 Q h 0 0 7 [(1, .int (nI i)), (0, .ref m)] [] := by
    intro t
    induction t with
    | zero =>
      intro i h s1 I1 hi hM q10 qs qI qP
      refine j_iload_n E dX7_part_7 rfl ?_
      refine j_aload_n E dX7_part_8 rfl ?_
      refine j_getfield (ref := "ColourPartsModel") (C := RX7) (T := TX7) (N := 27) (ci := 8) E 2 dX7_part_9 iw_X7_part_X7 rfl (by decide) (by decide +kernel) rfl hM.obj rfl ?_
      refine J.topi (x' := nI ss.length) (((qs 2 (by decide)).trans A.1)) ?_
      refine j_icmp_ge E (tgt := 69) dX7_part_12 (by decide) (fun c => ?_) (fun c => ?_)
      · refine J.sub [(0, .ref m)] ⟨rfl, trivial⟩ ?_
        rw [show i = ss.length by omega] at q10 qP
        exact second h s1 I1 hM q10 qs qI qP
      · exact absurd (nI_le (show ss.length ≤ i by omega) (by omega)) c
    | succ t ih =>
      intro i h s1 I1 hi hM q10 qs qI qP
      have hil : i < ss.length := by omega
      obtain ⟨a5, a8, -⟩ := A.2 i hil
      have hti : tS ss (i + 1) ≤ 12 := tS_bnd ss hw (by omega)
      have htn : tS ss (i + 1) = tS ss i + (nk (gS ss i) + 1) := rfl
      refine j_iload_n E dX7_part_7 rfl ?_
      refine j_aload_n E dX7_part_8 rfl ?_
      refine j_getfield (ref := "ColourPartsModel") (C := RX7) (T := TX7) (N := 27) (ci := 8) E 2 dX7_part_9 iw_X7_part_X7 rfl (by decide) (by decide +kernel) rfl hM.obj rfl ?_
      refine J.topi (x' := nI ss.length) (((qs 2 (by decide)).trans A.1)) ?_
      refine j_icmp_ge E (tgt := 69) dX7_part_12 (by decide) (fun c => ?_) (fun c => ?_)
      · exact absurd c (nI_ge hil (by omega))
      · have inner : ∀ (t2 k : Nat) (h : HM) (s1 : Nat → Int32) (I1 : Nat → Nat → Int32), k + t2 = nk (gS ss i) + 1 → MR h0 h m a (lZ d) s1 I1 G → s1 10 = nI (tS ss i + k) → (∀ k, k ≠ 10 → s1 k = s k) → (∀ k, k ≠ 11 → k ≠ 12 → I1 k = I k) → (∀ p, p < tS ss i + k → I1 11 p = nI (ow ss p) ∧ I1 12 p = nI (nu ss p)) → J X B D 3 Q h 0 0 17 [(2, .int (nI k)), (1, .int (nI i)), (0, .ref m)] [] := by
          intro t2
          induction t2 with
          | zero =>
            intro k h s1 I1 hk hM q10 qs qI qP
            refine j_iload_n E dX7_part_17 rfl ?_
            refine j_aload_n E dX7_part_18 rfl ?_
            refine j_getfield (ref := "ColourPartsModel") (C := RX7) (T := TX7) (N := 27) (ci := 8) E 8 dX7_part_19 iw_X7_part_X7 rfl (by decide) (by decide +kernel) rfl hM.obj rfl ?_
            refine j_iload_n E dX7_part_22 rfl ?_
            refine j_iaload E i dX7_part_23 (hM.gI 8 10 (by decide)) rfl (by omega) (by omega) ?_
            refine J.topi (x' := nI (nk (gS ss i))) (((congrFun (qI 8 (by decide) (by decide)) i).trans a8)) ?_
            refine j_icmp_gt E (tgt := 63) dX7_part_24 (by decide) (fun c2 => ?_) (fun c2 => ?_)
            ·
              refine j_iinc E dX7_part_63 rfl (nI_1 i) (by decide) ?_
              refine j_goto E (tgt := 7) dX7_part_66 (by decide) ?_
              refine J.sub [(1, .int (nI (i + 1))), (0, .ref m)] ⟨rfl, rfl, trivial⟩ ?_
              rw [show tS ss i + k = tS ss (i + 1) by omega] at q10 qP
              exact ih (i + 1) h s1 I1 (by omega) hM q10 qs qI qP
            · exact absurd (nI_lt (show nk (gS ss i) < k by omega) (by omega)) c2
          | succ t2 ih2 =>
            intro k h s1 I1 hk hM q10 qs qI qP
            have hkl : k ≤ nk (gS ss i) := by omega
            refine j_iload_n E dX7_part_17 rfl ?_
            refine j_aload_n E dX7_part_18 rfl ?_
            refine j_getfield (ref := "ColourPartsModel") (C := RX7) (T := TX7) (N := 27) (ci := 8) E 8 dX7_part_19 iw_X7_part_X7 rfl (by decide) (by decide +kernel) rfl hM.obj rfl ?_
            refine j_iload_n E dX7_part_22 rfl ?_
            refine j_iaload E i dX7_part_23 (hM.gI 8 10 (by decide)) rfl (by omega) (by omega) ?_
            refine J.topi (x' := nI (nk (gS ss i))) (((congrFun (qI 8 (by decide) (by decide)) i).trans a8)) ?_
            refine j_icmp_gt E (tgt := 63) dX7_part_24 (by decide) (fun c2 => ?_) (fun c2 => ?_)
            · exact absurd c2 (nI_nlt hkl (by omega))
            ·
              refine j_aload_n E dX7_part_27 rfl ?_
              refine j_getfield (ref := "ColourPartsModel") (C := RX7) (T := TX7) (N := 27) (ci := 8) E 11 dX7_part_28 iw_X7_part_X7 rfl (by decide) (by decide +kernel) rfl hM.obj rfl ?_
              refine j_aload_n E dX7_part_31 rfl ?_
              refine j_getfield (ref := "ColourPartsModel") (C := RX7) (T := TX7) (N := 27) (ci := 8) E 10 dX7_part_32 iw_X7_part_X7 rfl (by decide) (by decide +kernel) rfl hM.obj rfl ?_
              refine J.topi (x' := nI (tS ss i + k)) (q10) ?_
              refine j_iload_n E dX7_part_35 rfl ?_
              refine j_iastore E (tS ss i + k) dX7_part_36 (hM.gI 11 12 (by decide)) rfl (by omega) (by omega) ?_
              refine MR.gen (hM.pI 11 12 _ (by decide)) (fun h hM => ?_)
              refine j_aload_n E dX7_part_37 rfl ?_
              refine j_getfield (ref := "ColourPartsModel") (C := RX7) (T := TX7) (N := 27) (ci := 8) E 12 dX7_part_38 iw_X7_part_X7 rfl (by decide) (by decide +kernel) rfl hM.obj rfl ?_
              refine j_aload_n E dX7_part_41 rfl ?_
              refine j_getfield (ref := "ColourPartsModel") (C := RX7) (T := TX7) (N := 27) (ci := 8) E 10 dX7_part_42 iw_X7_part_X7 rfl (by decide) (by decide +kernel) rfl hM.obj rfl ?_
              refine J.topi (x' := nI (tS ss i + k)) (q10) ?_
              refine j_iload_n E dX7_part_45 rfl ?_
              refine j_iastore E (tS ss i + k) dX7_part_46 (hM.gI 12 12 (by decide)) rfl (by omega) (by omega) ?_
              refine MR.gen (hM.pI 12 12 _ (by decide)) (fun h hM => ?_)
              refine j_aload_n E dX7_part_47 rfl ?_
              refine j_dup E dX7_part_48 rfl ?_
              refine j_getfield (ref := "ColourPartsModel") (C := RX7) (T := TX7) (N := 27) (ci := 8) E 10 dX7_part_49 iw_X7_part_X7 rfl (by decide) (by decide +kernel) rfl hM.obj rfl ?_
              refine J.topi (x' := nI (tS ss i + k)) (q10) ?_
              refine j_iconst (x := nI 1) E dX7_part_52 (by decide) ?_
              refine j_iadd E dX7_part_53 ?_
              refine J.topi (x' := nI (tS ss i + k + 1)) (nI_1 _) ?_
              refine j_putfield (ref := "ColourPartsModel") (C := RX7) (T := TX7) (N := 27) (ci := 8) E 10 dX7_part_54 iw_X7_part_X7 tyX7 tyX7_ok nmX7 rfl (by decide) (by decide +kernel) rfl rfl rfl rfl hM.obj (Nat.le_of_ble_eq_true rfl) ?_
              refine MR.gen (hM.pS 10 _ (by decide) rfl) (fun h hM => ?_)
              refine j_iinc E dX7_part_57 rfl (nI_1 k) (by decide) ?_
              refine j_goto E (tgt := 17) dX7_part_60 (by decide) ?_
              refine J.sub [(2, .int (nI (k + 1))), (1, .int (nI i)), (0, .ref m)] ⟨rfl, rfl, rfl, trivial⟩ ?_
              refine ih2 (k + 1) h _ _ (by omega) hM (uA_eq _ _ _) (fun k h1 => (uA_ne _ _ h1).trans (qs k h1)) (fun k h1 h2 => (uA_ne _ _ h2).trans ((uA_ne _ _ h1).trans (qI k h1 h2))) (fun p hp => ?_)
              show upd (I1 11) (tS ss i + k) (nI i) p = _ ∧ upd (I1 12) (tS ss i + k) (nI k) p = _
              by_cases e : p = tS ss i + k
              · rw [e, upd_eq, upd_eq, ow_at hil hkl, nu_at hil hkl]; exact ⟨rfl, rfl⟩
              · rw [upd_ne e, upd_ne e]; exact qP p (by omega)
        refine j_iconst (x := nI 0) E dX7_part_15 (by decide) ?_
        refine j_istore_n E dX7_part_16 (by decide) ?_
        refine J.sub [(2, .int (nI 0)), (1, .int (nI i)), (0, .ref m)] ⟨rfl, rfl, rfl, trivial⟩ ?_
        exact inner (nk (gS ss i) + 1) 0 h s1 I1 (by omega) hM q10 qs qI qP
  refine J.sub [(1, .int (nI 0)), (0, .ref m)] ⟨rfl, rfl, trivial⟩ ?_
  exact first ss.length 0 h _ I (by omega) hM (uA_eq _ _ _) (fun k h1 => uA_ne _ _ h1) (fun _ _ _ => rfl) (fun p hp => absurd hp (Nat.not_lt_zero _))
theorem iw_X7_usedUpTo_X7 : ∀ w ∈ u_ws RX7 TX7 27, w ∈ wsX7_usedUpTo := by decide +kernel
theorem m_usedUpTo (v : Nat) (hM : MR h0 h m a (lZ d) s I G) (P : MP d ss s I) (hw : wfSS ss) {c : Nat → Nat} {n : Nat} (hn : n ≤ tS ss ss.length) (hc : ∀ i, i < n → I 16 i = nI (c i) ∧ c i < 100) : CM l B E0 D yX7_usedUpTo wsX7_usedUpTo (v + 1) 0 0 [.ref m, .int (nI n)] h (fun r h1 => r = some (.int (nI (uC (ow ss) c n))) ∧ h1 = h) := by
  have hl := hw.1
  have ht := hw.2.1
  refine CM.of (cc := cX7_usedUpTo) (maxL := 4) (ret := (some .int)) (by decide) rfl (Nat.le_of_ble_eq_true rfl) (fun X E hin => ?_)
  show J X B D 4 _ h 0 0 0 [(0, .ref m), (1, .int (nI n))] []
  generalize hQ : jQ X B D _ _ _ = Q
  refine j_iconst (x := nI 0) E dX7_usedUpTo_0 (by decide) ?_
  refine j_istore_n E dX7_usedUpTo_1 (by decide) ?_
  refine j_iconst (x := nI 1) E dX7_usedUpTo_2 (by decide) ?_
  refine j_istore_n E dX7_usedUpTo_3 (by decide) ?_
  have key : ∀ (t i : Nat), 1 ≤ i → i + t = max n 1 → J X B D 4 Q h 0 0 4 [(3, .int (nI i)), (2, .int (nI (uC (ow ss) c i))), (1, .int (nI n)), (0, .ref m)] [] := by
    intro t
    induction t with
    | zero =>
      intro i h1 hi
      refine j_iload_n E dX7_usedUpTo_4 rfl ?_
      refine j_iload_n E dX7_usedUpTo_5 rfl ?_
      refine j_icmp_ge E (tgt := 57) dX7_usedUpTo_6 (by decide) (fun c1 => ?_) (fun c1 => ?_)
      · have e : uC (ow ss) c i = uC (ow ss) c n := by
          by_cases e : n = 0
          · have : i = 1 := by omega
            rw [this, e]
            show 0 + bN _ = 0
            rw [bN_f (fun z => absurd z.1 (by decide))]
          · rw [show i = n by omega]
        rw [e]
        refine j_iload_n E dX7_usedUpTo_57 rfl ?_
        rw [← hQ]
        exact j_iret E dX7_usedUpTo_58 rfl rfl (by omega) (by omega) ⟨rfl, rfl⟩
      · exact absurd (nI_le (show n ≤ i by omega) (by omega)) c1
    | succ t ih =>
      intro i h1 hi
      have hil : i < n := by omega
      obtain ⟨i1, rfl⟩ : ∃ i1, i = i1 + 1 := ⟨i - 1, by omega⟩
      have o1 := (ow_spec (show i1 + 1 < tS ss ss.length by omega)).1
      have o2 := (ow_spec (show i1 < tS ss ss.length by omega)).1
      have c1' := (hc (i1 + 1) hil).2
      have c2' := (hc i1 (by omega)).2
      have tail : J X B D 4 Q h 0 0 50 [(3, .int (nI (i1 + 1))), (1, .int (nI n)), (0, .ref m)] [.int (nI (uC (ow ss) c (i1 + 1 + 1)))] := by
        refine j_istore_n E dX7_usedUpTo_50 (by decide) ?_
        refine j_iinc E dX7_usedUpTo_51 rfl (nI_1 (i1 + 1)) (by decide) ?_
        refine j_goto E (tgt := 4) dX7_usedUpTo_54 (by decide) ?_
        refine J.sub [(3, .int (nI (i1 + 1 + 1))), (2, .int (nI (uC (ow ss) c (i1 + 1 + 1)))), (1, .int (nI n)), (0, .ref m)] ⟨rfl, rfl, rfl, rfl, trivial⟩ ?_
        exact ih (i1 + 1 + 1) (by omega) (by omega)
      have no : ¬ (ow ss (i1 + 1) = ow ss i1 ∧ ¬ c (i1 + 1) = c i1) → J X B D 4 Q h 0 0 48 [(3, .int (nI (i1 + 1))), (1, .int (nI n)), (0, .ref m)] [.int (nI (uC (ow ss) c (i1 + 1)))] := by
        intro w
        refine j_iconst (x := nI 0) E dX7_usedUpTo_48 (by decide) ?_
        refine j_iadd E dX7_usedUpTo_49 ?_
        refine J.topi (x' := nI (uC (ow ss) c (i1 + 1 + 1))) (by rw [nI_add]; show nI _ = nI (_ + bN _); rw [bN_f (fun z => w z.2)]) ?_
        exact tail
      refine j_iload_n E dX7_usedUpTo_4 rfl ?_
      refine j_iload_n E dX7_usedUpTo_5 rfl ?_
      refine j_icmp_ge E (tgt := 57) dX7_usedUpTo_6 (by decide) (fun c1 => ?_) (fun c1 => ?_)
      · exact absurd c1 (nI_ge hil (by omega))
      ·
        refine j_iload_n E dX7_usedUpTo_9 rfl ?_
        refine j_aload_n E dX7_usedUpTo_10 rfl ?_
        refine j_getfield (ref := "ColourPartsModel") (C := RX7) (T := TX7) (N := 27) (ci := 8) E 11 dX7_usedUpTo_11 iw_X7_usedUpTo_X7 rfl (by decide) (by decide +kernel) rfl hM.obj rfl ?_
        refine j_iload_n E dX7_usedUpTo_14 rfl ?_
        refine j_iaload E (i1 + 1) dX7_usedUpTo_15 (hM.gI 11 12 (by decide)) rfl (by omega) (by omega) ?_
        refine J.topi (x' := nI (ow ss (i1 + 1))) ((P.2.1 _ (by omega)).1) ?_
        refine j_aload_n E dX7_usedUpTo_16 rfl ?_
        refine j_getfield (ref := "ColourPartsModel") (C := RX7) (T := TX7) (N := 27) (ci := 8) E 11 dX7_usedUpTo_17 iw_X7_usedUpTo_X7 rfl (by decide) (by decide +kernel) rfl hM.obj rfl ?_
        refine j_iload_n E dX7_usedUpTo_20 rfl ?_
        refine j_iconst (x := nI 1) E dX7_usedUpTo_21 (by decide) ?_
        refine j_isub E dX7_usedUpTo_22 ?_
        refine J.topi (x' := nI i1) (nI_pred i1) ?_
        refine j_iaload E i1 dX7_usedUpTo_23 (hM.gI 11 12 (by decide)) rfl (by omega) (by omega) ?_
        refine J.topi (x' := nI (ow ss i1)) ((P.2.1 _ (by omega)).1) ?_
        refine J.sub [(3, .int (nI (i1 + 1))), (1, .int (nI n)), (0, .ref m)] ⟨rfl, rfl, rfl, trivial⟩ ?_
        refine j_icmp_ne E (tgt := 48) dX7_usedUpTo_24 (by decide) (fun c2 => ?_) (fun c2 => ?_)
        · exact no (fun z => c2 (by rw [z.1]))
        · have e := (nI_eq (by omega) (by omega)).mp c2
          refine j_aload_n E dX7_usedUpTo_27 rfl ?_
          refine j_getfield (ref := "ColourPartsModel") (C := RX7) (T := TX7) (N := 27) (ci := 8) E 16 dX7_usedUpTo_28 iw_X7_usedUpTo_X7 rfl (by decide) (by decide +kernel) rfl hM.obj rfl ?_
          refine j_iload_n E dX7_usedUpTo_31 rfl ?_
          refine j_iaload E (i1 + 1) dX7_usedUpTo_32 (hM.gI 16 13 (by decide)) rfl (by omega) (by omega) ?_
          refine J.topi (x' := nI (c (i1 + 1))) ((hc _ hil).1) ?_
          refine j_aload_n E dX7_usedUpTo_33 rfl ?_
          refine j_getfield (ref := "ColourPartsModel") (C := RX7) (T := TX7) (N := 27) (ci := 8) E 16 dX7_usedUpTo_34 iw_X7_usedUpTo_X7 rfl (by decide) (by decide +kernel) rfl hM.obj rfl ?_
          refine j_iload_n E dX7_usedUpTo_37 rfl ?_
          refine j_iconst (x := nI 1) E dX7_usedUpTo_38 (by decide) ?_
          refine j_isub E dX7_usedUpTo_39 ?_
          refine J.topi (x' := nI i1) (nI_pred i1) ?_
          refine j_iaload E i1 dX7_usedUpTo_40 (hM.gI 16 13 (by decide)) rfl (by omega) (by omega) ?_
          refine J.topi (x' := nI (c i1)) ((hc i1 (by omega)).1) ?_
          refine j_icmp_eq E (tgt := 48) dX7_usedUpTo_41 (by decide) (fun c3 => ?_) (fun c3 => ?_)
          · exact no (fun z => z.2 ((nI_eq (by omega) (by omega)).mp c3))
          ·
            refine j_iconst (x := nI 1) E dX7_usedUpTo_44 (by decide) ?_
            refine j_goto E (tgt := 49) dX7_usedUpTo_45 (by decide) ?_
            refine j_iadd E dX7_usedUpTo_49 ?_
            refine J.topi (x' := nI (uC (ow ss) c (i1 + 1 + 1))) (by rw [nI_add]; show nI _ = nI (_ + bN _); rw [bN_t ⟨Nat.succ_pos _, e, fun z => c3 (congrArg nI (show c (i1 + 1) = c i1 from z))⟩]) ?_
            exact tail
  refine J.sub [(3, .int (nI 1)), (2, .int (nI (uC (ow ss) c 1))), (1, .int (nI n)), (0, .ref m)] ⟨rfl, by show some _ = some (Value.int (nI (0 + bN _))); rw [bN_f (fun z => absurd z.1 (by decide))], rfl, rfl, trivial⟩ ?_
  exact key (max n 1 - 1) 1 (Nat.le_refl _) (by omega)
theorem iw_X7_fits_X7 : ∀ w ∈ u_ws RX7 TX7 27, w ∈ wsX7_fits := by decide +kernel
theorem m_fits (v : Nat) (hM : MR h0 h m a (lZ d) s I G) (A : MA ss s I G) (P : MP d ss s I) (hw : wfSS ss) {c : Nat → Nat} {k most : Nat} (hk : k < tS ss ss.length) (hmo : most < 100) (hc : ∀ i, i < k + 1 → I 16 i = nI (c i) ∧ c i < 100) : CM l B E0 D yX7_fits wsX7_fits (v + 2) 0 0 [.ref m, .int (nI k), .int (nI most)] h (fun r h1 => r = some (.int (bI (fitP d ss c most k))) ∧ h1 = h) := by
  have hl := hw.1
  have ht := hw.2.1
  obtain ⟨o1, o2, o3⟩ := ow_spec hk
  obtain ⟨a5, a8, a6, -⟩ := A.2 _ o1
  have htl := (hw.2.2 _ o1).2.2.2.2.2.2.2
  refine CM.of (cc := cX7_fits) (maxL := 6) (ret := (some .boolean)) (by decide) rfl (Nat.le_of_ble_eq_true rfl) (fun X E hin => ?_)
  show J X B D 6 _ h 0 0 0 [(0, .ref m), (1, .int (nI k)), (2, .int (nI most))] []
  generalize hQ : jQ X B D _ _ _ = Q
  have ck := (hc k (by omega)).2
  have tail : ∀ (t i : Nat), i + t = k → ∀ p : Prop, (p ↔ (td ss k = -1 ∨ (c k : Int) = td ss k) ∧ ∀ j, j < i → ¬ (NR d ss j k ∧ c j = c k)) → J X B D 6 Q h 0 0 37 [(5, .int (nI i)), (4, .int (bI p)), (2, .int (nI most)), (1, .int (nI k)), (0, .ref m)] [] := by
    have fin : ∀ p : Prop, (p → (td ss k = -1 ∨ (c k : Int) = td ss k) ∧ ∀ j, j < k → ¬ (NR d ss j k ∧ c j = c k)) → (¬ p → ¬ fitP d ss c most k) → J X B D 6 Q h 0 0 92 [(4, .int (bI p)), (2, .int (nI most)), (1, .int (nI k)), (0, .ref m)] [] := by
      intro p hp hp2
      refine j_iload E dX7_fits_92 rfl ?_
      refine j_if_eq E (tgt := 112) dX7_fits_94 (by decide) (fun c1 => ?_) (fun c1 => ?_)
      ·
        refine j_iconst (x := nI 0) E dX7_fits_112 (by decide) ?_
        refine J.topi (x' := bI (fitP d ss c most k)) ((bI_f (hp2 (bI_z.mp c1))).symm) ?_
        rw [← hQ]
        exact j_iret E dX7_fits_113 rfl (nb_bI _) (by omega) (by omega) ⟨rfl, rfl⟩
      · obtain ⟨p1, p2⟩ := hp (bI_n.mp c1)
        refine j_aload_n E dX7_fits_97 rfl ?_
        refine j_iload_n E dX7_fits_98 rfl ?_
        refine j_iconst (x := nI 1) E dX7_fits_99 (by decide) ?_
        refine j_iadd E dX7_fits_100 ?_
        refine J.topi (x' := nI (k + 1)) (nI_1 _) ?_
        refine j_callV (np := 1) (C := RX7) (T := TX7) (N := 27) (ci := 8) E (m_usedUpTo v hM P hw (show k + 1 ≤ tS ss ss.length by omega) hc) gX7_fits_X7_usedUpTo rfl ⟨rfl, by decide, by decide, by decide +kernel⟩ dX7_fits_101 (by omega) (by decide) rfl hM.obj rfl rfl (Nat.le_of_ble_eq_true rfl) (by omega) (by omega) (fun r9 h9 p9 => J.pure p9 ?_)
        refine J.wide (k' := 0) (n' := 0) (by omega) (by omega) ?_
        have ub := uC_le (ow ss) c (k + 1)
        refine j_iload_n E dX7_fits_104 rfl ?_
        refine j_icmp_gt E (tgt := 112) dX7_fits_105 (by decide) (fun c2 => ?_) (fun c2 => ?_)
        ·
          refine j_iconst (x := nI 0) E dX7_fits_112 (by decide) ?_
          refine J.topi (x' := bI (fitP d ss c most k)) ((bI_f (fun z => nI_nlt z.2.2 (by omega) c2)).symm) ?_
          rw [← hQ]
          exact j_iret E dX7_fits_113 rfl (nb_bI _) (by omega) (by omega) ⟨rfl, rfl⟩
        ·
          refine j_iconst (x := nI 1) E dX7_fits_108 (by decide) ?_
          refine J.topi (x' := bI (fitP d ss c most k)) ((bI_t ⟨p1, p2, Nat.not_lt.mp (fun z => c2 (nI_lt z (by omega)))⟩).symm) ?_
          refine j_goto E (tgt := 113) dX7_fits_109 (by decide) ?_
          rw [← hQ]
          exact j_iret E dX7_fits_113 rfl (nb_bI _) (by omega) (by omega) ⟨rfl, rfl⟩
    intro t
    induction t with
    | zero =>
      intro i hi p hp
      refine j_iload E dX7_fits_37 rfl ?_
      refine j_iload_n E dX7_fits_39 rfl ?_
      refine j_icmp_ge E (tgt := 92) dX7_fits_40 (by decide) (fun c1 => ?_) (fun c1 => ?_)
      · refine J.sub [(4, .int (bI p)), (2, .int (nI most)), (1, .int (nI k)), (0, .ref m)] ⟨rfl, rfl, rfl, rfl, trivial⟩ ?_
        rw [show i = k by omega] at hp
        exact fin p hp.mp (fun z w => z (hp.mpr ⟨w.1, w.2.1⟩))
      · exact absurd (nI_le (show k ≤ i by omega) (by omega)) c1
    | succ t ih =>
      intro i hi p hp
      have hik : i < k := by omega
      refine j_iload E dX7_fits_37 rfl ?_
      refine j_iload_n E dX7_fits_39 rfl ?_
      refine j_icmp_ge E (tgt := 92) dX7_fits_40 (by decide) (fun c1 => ?_) (fun c1 => ?_)
      · exact absurd c1 (nI_ge hik (by omega))
      ·
        refine j_iload E dX7_fits_43 rfl ?_
        refine j_if_eq E (tgt := 92) dX7_fits_45 (by decide) (fun c2 => ?_) (fun c2 => ?_)
        · have np := bI_z.mp c2
          refine J.sub [(4, .int (bI p)), (2, .int (nI most)), (1, .int (nI k)), (0, .ref m)] ⟨rfl, rfl, rfl, rfl, trivial⟩ ?_
          exact fin p (fun z => absurd z np) (fun _ w => np (hp.mpr ⟨w.1, fun j hj => w.2.1 j (by omega)⟩))
        · have pp := bI_n.mp c2
          have step : ∀ p2 : Prop, (p2 ↔ ¬ (NR d ss i k ∧ c i = c k)) → J X B D 6 Q h 0 0 84 [(5, .int (nI i)), (2, .int (nI most)), (1, .int (nI k)), (0, .ref m)] [.int (bI p2)] := by
            intro p2 hp2
            refine j_istore E dX7_fits_84 (by decide) ?_
            refine j_iinc E dX7_fits_86 rfl (nI_1 i) (by decide) ?_
            refine j_goto E (tgt := 37) dX7_fits_89 (by decide) ?_
            refine J.sub [(5, .int (nI (i + 1))), (4, .int (bI p2)), (2, .int (nI most)), (1, .int (nI k)), (0, .ref m)] ⟨rfl, rfl, rfl, rfl, rfl, trivial⟩ ?_
            refine ih (i + 1) (by omega) p2 ⟨fun z => ⟨(hp.mp pp).1, fun j hj => ?_⟩, fun z => hp2.mpr (z.2 i (by omega))⟩
            by_cases e : j = i
            · rw [e]; exact hp2.mp z
            · exact (hp.mp pp).2 j (by omega)
          have ci := (hc i (by omega)).2
          refine j_aload_n E dX7_fits_48 rfl ?_
          refine j_getfield (ref := "ColourPartsModel") (C := RX7) (T := TX7) (N := 27) (ci := 8) E 13 dX7_fits_49 iw_X7_fits_X7 rfl (by decide) (by decide +kernel) rfl hM.obj rfl ?_
          refine j_bipush (x := nI 12) E dX7_fits_52 (by decide) ?_
          refine j_iload E dX7_fits_54 rfl ?_
          refine j_imul E dX7_fits_56 ?_
          refine J.topi (x' := nI (12 * i)) (pk_mul _ _) ?_
          refine j_iload_n E dX7_fits_57 rfl ?_
          refine j_iadd E dX7_fits_58 ?_
          refine J.topi (x' := nI (12 * i + k)) (nI_add _ _) ?_
          refine j_zaload E (12 * i + k) dX7_fits_59 (hM.gZ 13 144 (by decide)) rfl (by omega) (by omega) ?_
          refine J.topi (x' := bI (NR d ss i k)) (P.2.2 i k (by omega) hk) ?_
          refine J.sub [(5, .int (nI i)), (2, .int (nI most)), (1, .int (nI k)), (0, .ref m)] ⟨rfl, rfl, rfl, rfl, trivial⟩ ?_
          refine j_if_eq E (tgt := 79) dX7_fits_60 (by decide) (fun c3 => ?_) (fun c3 => ?_)
          ·
            refine j_iconst (x := nI 1) E dX7_fits_79 (by decide) ?_
            refine J.topi (x' := bI True) ((bI_t trivial).symm) ?_
            refine j_goto E (tgt := 84) dX7_fits_80 (by decide) ?_
            exact step True ⟨fun _ z => bI_z.mp c3 z.1, fun _ => trivial⟩
          · have hn := bI_n.mp c3
            refine j_aload_n E dX7_fits_63 rfl ?_
            refine j_getfield (ref := "ColourPartsModel") (C := RX7) (T := TX7) (N := 27) (ci := 8) E 16 dX7_fits_64 iw_X7_fits_X7 rfl (by decide) (by decide +kernel) rfl hM.obj rfl ?_
            refine j_iload E dX7_fits_67 rfl ?_
            refine j_iaload E i dX7_fits_69 (hM.gI 16 13 (by decide)) rfl (by omega) (by omega) ?_
            refine J.topi (x' := nI (c i)) ((hc i (by omega)).1) ?_
            refine j_aload_n E dX7_fits_70 rfl ?_
            refine j_getfield (ref := "ColourPartsModel") (C := RX7) (T := TX7) (N := 27) (ci := 8) E 16 dX7_fits_71 iw_X7_fits_X7 rfl (by decide) (by decide +kernel) rfl hM.obj rfl ?_
            refine j_iload_n E dX7_fits_74 rfl ?_
            refine j_iaload E k dX7_fits_75 (hM.gI 16 13 (by decide)) rfl (by omega) (by omega) ?_
            refine J.topi (x' := nI (c k)) ((hc k (by omega)).1) ?_
            refine j_icmp_eq E (tgt := 83) dX7_fits_76 (by decide) (fun c4 => ?_) (fun c4 => ?_)
            · have e := (nI_eq (by omega) (by omega)).mp c4
              refine j_iconst (x := nI 0) E dX7_fits_83 (by decide) ?_
              refine J.topi (x' := bI False) ((bI_f id).symm) ?_
              exact step False ⟨fun z => z.elim, fun z => z ⟨hn, e⟩⟩
            ·
              refine j_iconst (x := nI 1) E dX7_fits_79 (by decide) ?_
              refine J.topi (x' := bI True) ((bI_t trivial).symm) ?_
              refine j_goto E (tgt := 84) dX7_fits_80 (by decide) ?_
              exact step True ⟨fun _ z => c4 (by rw [z.2]), fun _ => trivial⟩
  have join : ∀ p : Prop, (p ↔ (td ss k = -1 ∨ (c k : Int) = td ss k)) → J X B D 6 Q h 0 0 32 [(2, .int (nI most)), (1, .int (nI k)), (0, .ref m)] [.int (bI p)] := by
    intro p hp
    refine j_istore E dX7_fits_32 (by decide) ?_
    refine j_iconst (x := nI 0) E dX7_fits_34 (by decide) ?_
    refine j_istore E dX7_fits_35 (by decide) ?_
    refine J.sub [(5, .int (nI 0)), (4, .int (bI p)), (2, .int (nI most)), (1, .int (nI k)), (0, .ref m)] ⟨rfl, rfl, rfl, rfl, rfl, trivial⟩ ?_
    exact tail k 0 (by omega) p ⟨fun z => ⟨hp.mp z, fun j hj => absurd hj (Nat.not_lt_zero _)⟩, fun z => hp.mpr z.1⟩
  have etd : ∀ z : Int, -1 ≤ z → z < 100 → (iZ (td ss k) = iZ z ↔ td ss k = z) := fun z h1 h2 => iZ_eq (by unfold td; omega) (by omega)
  refine j_aload_n E dX7_fits_0 rfl ?_
  refine j_getfield (ref := "ColourPartsModel") (C := RX7) (T := TX7) (N := 27) (ci := 8) E 6 dX7_fits_1 iw_X7_fits_X7 rfl (by decide) (by decide +kernel) rfl hM.obj rfl ?_
  refine j_aload_n E dX7_fits_4 rfl ?_
  refine j_getfield (ref := "ColourPartsModel") (C := RX7) (T := TX7) (N := 27) (ci := 8) E 11 dX7_fits_5 iw_X7_fits_X7 rfl (by decide) (by decide +kernel) rfl hM.obj rfl ?_
  refine j_iload_n E dX7_fits_8 rfl ?_
  refine j_iaload E k dX7_fits_9 (hM.gI 11 12 (by decide)) rfl (by omega) (by omega) ?_
  refine J.topi (x' := nI (ow ss k)) ((P.2.1 k hk).1) ?_
  refine j_iaload E (ow ss k) dX7_fits_10 (hM.gI 6 10 (by decide)) rfl (by omega) (by omega) ?_
  refine J.topi (x' := iZ (td ss k)) (a6) ?_
  refine j_istore_n E dX7_fits_11 (by decide) ?_
  refine j_iload_n E dX7_fits_12 rfl ?_
  refine j_iconst (x := (-1)) E dX7_fits_13 (by decide) ?_
  refine j_icmp_eq E (tgt := 27) dX7_fits_14 (by decide) (fun c1 => ?_) (fun c1 => ?_)
  · have e := (etd (-1) (by omega) (by omega)).mp (show iZ (td ss k) = iZ (-1) from c1)
    refine J.sub [(2, .int (nI most)), (1, .int (nI k)), (0, .ref m)] ⟨rfl, rfl, rfl, trivial⟩ ?_
    refine j_iconst (x := nI 1) E dX7_fits_27 (by decide) ?_
    refine J.topi (x' := bI True) ((bI_t trivial).symm) ?_
    refine j_goto E (tgt := 32) dX7_fits_28 (by decide) ?_
    exact join True ⟨fun _ => Or.inl e, fun _ => trivial⟩
  · have ne : ¬ td ss k = -1 := fun z => c1 (by rw [z]; rfl)
    refine j_aload_n E dX7_fits_17 rfl ?_
    refine j_getfield (ref := "ColourPartsModel") (C := RX7) (T := TX7) (N := 27) (ci := 8) E 16 dX7_fits_18 iw_X7_fits_X7 rfl (by decide) (by decide +kernel) rfl hM.obj rfl ?_
    refine j_iload_n E dX7_fits_21 rfl ?_
    refine j_iaload E k dX7_fits_22 (hM.gI 16 13 (by decide)) rfl (by omega) (by omega) ?_
    refine J.topi (x' := nI (c k)) ((hc k (by omega)).1) ?_
    refine j_iload_n E dX7_fits_23 rfl ?_
    refine J.sub [(2, .int (nI most)), (1, .int (nI k)), (0, .ref m)] ⟨rfl, rfl, rfl, trivial⟩ ?_
    refine j_icmp_ne E (tgt := 31) dX7_fits_24 (by decide) (fun c2 => ?_) (fun c2 => ?_)
    ·
      refine j_iconst (x := nI 0) E dX7_fits_31 (by decide) ?_
      refine J.topi (x' := bI False) ((bI_f id).symm) ?_
      exact join False ⟨fun z => z.elim, fun z => z.elim ne (fun z => c2 (by rw [← z]; rfl))⟩
    · have e := (etd (c k) (by omega) (by omega)).mp c2.symm
      refine j_iconst (x := nI 1) E dX7_fits_27 (by decide) ?_
      refine J.topi (x' := bI True) ((bI_t trivial).symm) ?_
      refine j_goto E (tgt := 32) dX7_fits_28 (by decide) ?_
      exact join True ⟨fun _ => Or.inr e.symm, fun _ => trivial⟩
end M9
