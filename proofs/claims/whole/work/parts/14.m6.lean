/-! stitch(), near(), pair() of the reference -/
noncomputable def bN (p : Prop) : Nat := cI p 1 0
theorem bN_t {p : Prop} (h : p) : bN p = 1 := cI_t h
theorem bN_f {p : Prop} (h : ¬ p) : bN p = 0 := cI_f h
theorem bN_le (p : Prop) : bN p ≤ 1 := by
  by_cases h : p
  · rw [bN_t h]; exact Nat.le_refl _
  · rw [bN_f h]; exact Nat.zero_le _
noncomputable def rowC (P : Nat → Nat → Prop) (i : Nat) : Nat → Nat
  | 0 => 0
  | t + 1 => rowC P i t + bN (i < t ∧ P i t)
noncomputable def totC (P : Nat → Nat → Prop) (n : Nat) : Nat → Nat
  | 0 => 0
  | i + 1 => totC P n i + rowC P i n
theorem rowC_le (P : Nat → Nat → Prop) (i : Nat) : ∀ t, rowC P i t ≤ t
  | 0 => Nat.le_refl _
  | t + 1 => by have h1 := rowC_le P i t; have h2 := bN_le (i < t ∧ P i t); show rowC P i t + _ ≤ _; omega
theorem rowC_0 (P : Nat → Nat → Prop) (i : Nat) : ∀ t, t ≤ i + 1 → rowC P i t = 0
  | 0, _ => rfl
  | t + 1, h => by show rowC P i t + bN _ = 0; rw [rowC_0 P i t (by omega), bN_f (fun z => absurd z.1 (by omega))]
theorem totC_le (P : Nat → Nat → Prop) (n : Nat) : ∀ i, totC P n i ≤ i * n
  | 0 => Nat.zero_le _
  | i + 1 => by have h1 := totC_le P n i; have h2 := rowC_le P i n; show totC P n i + _ ≤ _; rw [Nat.succ_mul]; omega
def nPr (d : Int) (ss : List SH) (i j : Nat) : Prop := nearS d (gS ss i) (gS ss j)
theorem hasC_wf {a : SH} {w : Int} {x : Int64} (hw : wfS a) (h : hasC a w x) : withC a w x ∧ sd a = w ∧ nc a = 2 ∧ 0 < nk a := by
  obtain ⟨k, hk, e, rfl⟩ := h
  have h3 := hw.2.2.2.2.1 k hk
  have h4 := hw.2.2.1 (by omega)
  have h5 := ct_bnd hw hk
  have c0 := hw.2.2.2.1 0 (by omega)
  have c1 := hw.2.2.2.1 1 (by omega)
  rw [e] at h3
  have b1 : -1000000 ≤ axl a w ∧ axl a w ≤ 1000000 := by unfold axl; split <;> omega
  have b2 : -1000000 ≤ axh a w ∧ axh a w ≤ 1000000 := by unfold axh; split <;> omega
  exact ⟨⟨(lZ_lt (lOK_s b1) (lOK_s h5)).mpr h3.1, (lZ_lt (lOK_s h5) (lOK_s b2)).mpr h3.2⟩, e, h4, by omega⟩
theorem withC_b {a : SH} (hw : wfS a) (h2 : nc a = 2) {w : Int} {x : Int64} (h : withC a w x) : ∃ z : Int, (-1000000 ≤ z ∧ z ≤ 1000000) ∧ x = lZ z := by
  have c0 := hw.2.2.2.1 0 (by omega)
  have c1 := hw.2.2.2.1 1 (by omega)
  have b1 : -1000000 ≤ axl a w ∧ axl a w ≤ 1000000 := by unfold axl; split <;> omega
  have b2 : -1000000 ≤ axh a w ∧ axh a w ≤ 1000000 := by unfold axh; split <;> omega
  obtain ⟨g1, g2⟩ := h
  rw [Int64.lt_iff_toInt_lt, lZ_toInt (by omega) (by omega)] at g1
  rw [Int64.lt_iff_toInt_lt, lZ_toInt (z := axh a w) (by omega) (by omega)] at g2
  exact ⟨x.toInt, by omega, (lZ_of x).symm⟩
theorem uA_self {α : Type} (f : Nat → α) (k : Nat) : uA f k (f k) = f := by
  funext j; by_cases e : j = k <;> simp [uA, e]
theorem nI_m1 (k : Nat) : nI (k + 1) + Int32.ofInt (-1) = nI k := pk_m1 k
section M6
variable {l : Launch} {B E0 : Nat} {D : va_G} {h0 h : HM} {m : Nat} {a : Nat → Nat} {d : Int} {s : Nat → Int32} {I : Nat → Nat → Int32} {G : Nat → Nat → Int64} {ss : List SH}
theorem iw_X7_stitch_X7 : ∀ w ∈ u_ws RX7 TX7 27, w ∈ wsX7_stitch := by decide +kernel
theorem m_stitch (v : Nat) (hM : MR h0 h m a (lZ d) s I G) (A : MA ss s I G) (hw : wfSS ss) (z : Int32) (x : Int64) {w : Int} (hww : w = 0 ∨ w = 1) : CM l B E0 D yX7_stitch wsX7_stitch (v + 3) 0 0 [.ref m, .int z, .long x, .int (iZ w)] h (fun r h1 => (∃ y : Int32, r = some (.int y)) ∧ (∃ s1 I1 G1, MR h0 h1 m a (lZ d) s1 I1 G1 ∧ s1 0 = cdStitch ss z x w ∧ (∀ k, k ≠ 0 → s1 k = s k) ∧ (∀ k, k ≠ 8 → k ≠ 9 → I1 k = I k) ∧ (∀ k, k ≠ 7 → G1 k = G k) ∧ (¬ cdStitch ss z x w = 0 → MA ss s1 I1 G1) ∧ (cdStitch ss z x w = 0 → ∀ j, j < ss.length → z = nI j → r = some (.int (bI (¬ hasC (gS ss j) w x))) ∧ (hasC (gS ss j) w x → MA ss s1 I1 G1) ∧ (¬ hasC (gS ss j) w x → MA (insS ss j x.toInt w) s1 I1 G1)))) := by
  have hl := hw.1
  have ht := hw.2.1
  refine CM.of (cc := cX7_stitch) (maxL := 7) (ret := (some .boolean)) (by decide) rfl (Nat.le_of_ble_eq_true rfl) (fun X E hin => ?_)
  show J X B D 7 _ h 0 0 0 [(0, .ref m), (1, .int z), (2, .long x), (4, .int (iZ w))] []
  generalize hQ : jQ X B D _ _ _ = Q
  have early : ∀ q, q = cdStitch ss z x w → ¬ q = 0 → 0 < q → J X B D 7 Q h 0 0 25 [(0, .ref m), (1, .int z), (2, .long x), (4, .int (iZ w))] [.int q, .ref m] := by
    intro q hc hq0 hq1
    have A1 : MA ss (uA s 0 q) I G := A.keep rfl ⟨rfl, rfl, rfl, rfl⟩ ⟨rfl, rfl, rfl⟩
    refine j_putfield (ref := "ColourPartsModel") (C := RX7) (T := TX7) (N := 27) (ci := 8) E 0 dX7_stitch_25 iw_X7_stitch_X7 tyX7 tyX7_ok nmX7 rfl (by decide) (by decide +kernel) rfl rfl rfl rfl hM.obj (Nat.le_of_ble_eq_true rfl) ?_
    refine MR.gen (hM.pS 0 _ (by decide) rfl) (fun h hM => ?_)
    refine j_aload_n E dX7_stitch_28 rfl ?_
    refine j_getfield (ref := "ColourPartsModel") (C := RX7) (T := TX7) (N := 27) (ci := 8) E 0 dX7_stitch_29 iw_X7_stitch_X7 rfl (by decide) (by decide +kernel) rfl hM.obj rfl ?_
    refine J.topi (x' := q) (uA_eq _ _ _) ?_
    refine j_if_le E (tgt := 37) dX7_stitch_32 (by decide) (fun c2 => ?_) (fun c2 => ?_)
    · exact absurd hq1 (Int32.not_lt.mpr c2)
    ·
      refine j_iconst (x := nI 0) E dX7_stitch_35 (by decide) ?_
      rw [← hQ]
      exact j_iret E dX7_stitch_36 rfl rfl (by omega) (by omega) ⟨⟨_, rfl⟩, ⟨_, _, _, hM, (uA_eq _ _ _).trans hc, fun k h1 => uA_ne _ _ h1, fun k _ _ => rfl, fun k _ => rfl, fun _ => A1, fun w => absurd (hc.trans w) hq0⟩⟩
  refine j_aload_n E dX7_stitch_0 rfl ?_
  refine j_aload_n E dX7_stitch_1 rfl ?_
  refine j_iload_n E dX7_stitch_2 rfl ?_
  refine j_callV (np := 1) (C := RX7) (T := TX7) (N := 27) (ci := 8) E (m_isShape v hM A (by omega) z) gX7_stitch_X7_isShape rfl ⟨rfl, by decide, by decide, by decide +kernel⟩ dX7_stitch_3 (by omega) (by decide) rfl hM.obj rfl rfl (Nat.le_of_ble_eq_true rfl) (by omega) (by omega) (fun r9 h9 p9 => J.pure p9 ?_)
  refine J.wide (k' := 0) (n' := 0) (by omega) (by omega) ?_
  refine j_if_ne E (tgt := 13) dX7_stitch_6 (by decide) (fun c1 => ?_) (fun c1 => ?_)
  · have hx := bI_n.mp c1
    refine j_aload_n E dX7_stitch_13 rfl ?_
    refine j_callV (np := 0) (C := RX7) (T := TX7) (N := 27) (ci := 8) E (m_isOpen v hM A hw) gX7_stitch_X7_isOpen rfl ⟨rfl, by decide, by decide, by decide +kernel⟩ dX7_stitch_14 (by omega) (by decide) rfl hM.obj rfl rfl (Nat.le_of_ble_eq_true rfl) (by omega) (by omega) (fun r9 h9 p9 => J.pure p9 ?_)
    refine J.wide (k' := 0) (n' := 0) (by omega) (by omega) ?_
    refine j_if_eq E (tgt := 24) dX7_stitch_17 (by decide) (fun c2 => ?_) (fun c2 => ?_)
    · have ho := bI_z.mp c2
      obtain ⟨j, hj, rfl⟩ := hx
      have hxx : ¬ ¬ isx (nI j) ss.length := fun w => w ⟨j, hj, rfl⟩
      have ej : (nI j).toNatClampNeg = j := nI_clamp (by omega)
      have hjj : ∀ i, i < ss.length → nI j = nI i → i = j := fun i hi e => ((nI_eq (by omega) (by omega)).mp e).symm
      have hcd : cdStitch ss (nI j) x w = cdSt ss (gS ss j) w x := by rw [cdStitch, cI_f hxx, cI_f ho, ej]
      have wj := hw.2.2 j hj
      obtain ⟨a5, a8, a6, a9, aX, aK⟩ := A.2 j hj
      have n8 := wj.1
      have k3 := wj.2.1
      have esd : sd (gS ss j) = 0 ∨ sd (gS ss j) = 1 := wj.2.2.2.2.2.2.1
      refine j_iconst (x := nI 0) E dX7_stitch_24 (by decide) ?_
      refine j_putfield (ref := "ColourPartsModel") (C := RX7) (T := TX7) (N := 27) (ci := 8) E 0 dX7_stitch_25 iw_X7_stitch_X7 tyX7 tyX7_ok nmX7 rfl (by decide) (by decide +kernel) rfl rfl rfl rfl hM.obj (Nat.le_of_ble_eq_true rfl) ?_
      refine MR.gen (hM.pS 0 _ (by decide) rfl) (fun h hM => ?_)
      refine j_aload_n E dX7_stitch_28 rfl ?_
      refine j_getfield (ref := "ColourPartsModel") (C := RX7) (T := TX7) (N := 27) (ci := 8) E 0 dX7_stitch_29 iw_X7_stitch_X7 rfl (by decide) (by decide +kernel) rfl hM.obj rfl ?_
      refine J.topi (x' := (0 : Int32)) (uA_eq _ _ _) ?_
      refine j_if_le E (tgt := 37) dX7_stitch_32 (by decide) (fun c3 => ?_) (fun c3 => ?_)
      · have A0 : MA ss (uA s 0 (nI 0)) I G := A.keep rfl ⟨rfl, rfl, rfl, rfl⟩ ⟨rfl, rfl, rfl⟩
        refine j_aload_n E dX7_stitch_37 rfl ?_
        refine j_iload_n E dX7_stitch_38 rfl ?_
        refine j_lload_n E dX7_stitch_39 rfl ?_
        refine j_iload E dX7_stitch_40 rfl ?_
        refine j_callV (np := 3) (C := RX7) (T := TX7) (N := 27) (ci := 8) E (m_hasCut v hM A0 hw hj x hww) gX7_stitch_X7_hasCut rfl ⟨rfl, by decide, by decide, by decide +kernel⟩ dX7_stitch_42 (by omega) (by decide) rfl hM.obj rfl rfl (Nat.le_of_ble_eq_true rfl) (by omega) (by omega) (fun r9 h9 p9 => J.pure p9 ?_)
        refine J.wide (k' := 0) (n' := 0) (by omega) (by omega) ?_
        -- behind the codes
        have tail : ∀ q, q = cdSt ss (gS ss j) w x → (q = 0 → nc (gS ss j) = 2 ∧ (hasC (gS ss j) w x ∨ nk (gS ss j) < 3) ∧ (0 < nk (gS ss j) → sd (gS ss j) = w) ∧ withC (gS ss j) w x) → (q = 0 ∨ 0 < q) → J X B D 7 Q h 0 0 122 [(5, .int (bI (hasC (gS ss j) w x))), (4, .int (iZ w)), (2, .long x), (1, .int (nI j)), (0, .ref m)] [.int q, .ref m] := by
          intro q hq hz hq2
          rw [← hcd] at hq
          have A1 : MA ss (uA (uA s 0 (nI 0)) 0 q) I G := A.keep rfl ⟨rfl, rfl, rfl, rfl⟩ ⟨rfl, rfl, rfl⟩
          refine j_putfield (ref := "ColourPartsModel") (C := RX7) (T := TX7) (N := 27) (ci := 8) E 0 dX7_stitch_122 iw_X7_stitch_X7 tyX7 tyX7_ok nmX7 rfl (by decide) (by decide +kernel) rfl rfl rfl rfl hM.obj (Nat.le_of_ble_eq_true rfl) ?_
          refine MR.gen (hM.pS 0 _ (by decide) rfl) (fun h hM => ?_)
          refine j_aload_n E dX7_stitch_125 rfl ?_
          refine j_getfield (ref := "ColourPartsModel") (C := RX7) (T := TX7) (N := 27) (ci := 8) E 0 dX7_stitch_126 iw_X7_stitch_X7 rfl (by decide) (by decide +kernel) rfl hM.obj rfl ?_
          refine J.topi (x' := q) (uA_eq _ _ _) ?_
          refine j_if_gt E (tgt := 137) dX7_stitch_129 (by decide) (fun c4 => ?_) (fun c4 => ?_)
          · have q0 : ¬ q = 0 := fun e => by rw [e] at c4; exact absurd c4 (by decide)
            refine j_iconst (x := nI 0) E dX7_stitch_137 (by decide) ?_
            rw [← hQ]
            exact j_iret E dX7_stitch_138 rfl rfl (by omega) (by omega) ⟨⟨_, rfl⟩, ⟨_, _, _, hM, (uA_eq _ _ _).trans hq, fun k h1 => (uA_ne _ _ h1).trans (uA_ne _ _ h1), fun k _ _ => rfl, fun k _ => rfl, fun _ => A1, fun w => absurd (hq.trans w) q0⟩⟩
          · have q0 : q = 0 := hq2.elim id (fun z => absurd z c4)
            obtain ⟨z2, z3, z4, z5⟩ := hz q0
            subst q0
            refine j_iload E dX7_stitch_132 rfl ?_
            refine j_if_eq E (tgt := 139) dX7_stitch_134 (by decide) (fun c5 => ?_) (fun c5 => ?_)
            · have hno := bI_z.mp c5
              have k2 : nk (gS ss j) < 3 := z3.elim (fun w => absurd w hno) id
              refine j_aload_n E dX7_stitch_139 rfl ?_
              refine j_getfield (ref := "ColourPartsModel") (C := RX7) (T := TX7) (N := 27) (ci := 8) E 8 dX7_stitch_140 iw_X7_stitch_X7 rfl (by decide) (by decide +kernel) rfl hM.obj rfl ?_
              refine j_iload_n E dX7_stitch_143 rfl ?_
              refine j_iaload E j dX7_stitch_144 (hM.gI 8 10 (by decide)) rfl (by omega) (by omega) ?_
              refine J.topi (x' := nI (nk (gS ss j))) (a8) ?_
              refine j_istore E dX7_stitch_145 (by decide) ?_
              obtain ⟨xi, hX, rfl⟩ := withC_b wj z2 z5
              have hXO := lOK_s hX
              have hcO : ∀ i, i < nk (gS ss j) → lOK (ct (gS ss j) i) := fun i hi => lOK_s (ct_bnd wj hi)
              have eX : (lZ xi).toInt = xi := lZ_toInt hXO.1 hXO.2
              have stop : ∀ (k : Nat) (h : HM) (f : Nat → Int64), k ≤ nk (gS ss j) → MR h0 h m a (lZ d) (uA (uA s 0 (nI 0)) 0 0) I (uA G 7 f) → (∀ i, i < k → f (3 * j + i) = lZ (ct (gS ss j) i)) → (∀ i, k ≤ i → i < nk (gS ss j) → f (3 * j + (i + 1)) = lZ (ct (gS ss j) i) ∧ xi < ct (gS ss j) i) → (∀ i t, i < ss.length → i ≠ j → t < 3 → f (3 * i + t) = G 7 (3 * i + t)) → (∀ i, i < k → ct (gS ss j) i < xi) → J X B D 7 Q h 0 0 200 [(6, .int (nI k)), (4, .int (iZ w)), (2, .long (lZ xi)), (1, .int (nI j)), (0, .ref m)] [] := by
                intro k h f hk hM f1 f2 f3 f4
                refine j_aload_n E dX7_stitch_200 rfl ?_
                refine j_getfield (ref := "ColourPartsModel") (C := RX7) (T := TX7) (N := 27) (ci := 8) E 7 dX7_stitch_201 iw_X7_stitch_X7 rfl (by decide) (by decide +kernel) rfl hM.obj rfl ?_
                refine j_iconst (x := nI 3) E dX7_stitch_204 (by decide) ?_
                refine j_iload_n E dX7_stitch_205 rfl ?_
                refine j_imul E dX7_stitch_206 ?_
                refine J.topi (x' := nI (3 * j)) (pk_mul _ _) ?_
                refine j_iload E dX7_stitch_207 rfl ?_
                refine j_iadd E dX7_stitch_209 ?_
                refine J.topi (x' := nI (3 * j + k)) (nI_add _ _) ?_
                refine j_lload_n E dX7_stitch_210 rfl ?_
                refine j_lastore E (3 * j + k) dX7_stitch_211 (hM.gJ 7 30 (by decide)) rfl (by omega) (by omega) ?_
                refine MR.gen (hM.pJ 7 30 _ (by decide)) (fun h hM => ?_)
                refine j_aload_n E dX7_stitch_212 rfl ?_
                refine j_getfield (ref := "ColourPartsModel") (C := RX7) (T := TX7) (N := 27) (ci := 8) E 8 dX7_stitch_213 iw_X7_stitch_X7 rfl (by decide) (by decide +kernel) rfl hM.obj rfl ?_
                refine j_iload_n E dX7_stitch_216 rfl ?_
                refine j_dup2 E dX7_stitch_217 rfl rfl ?_
                refine j_iaload E j dX7_stitch_218 (hM.gI 8 10 (by decide)) rfl (by omega) (by omega) ?_
                refine J.topi (x' := nI (nk (gS ss j))) (a8) ?_
                refine j_iconst (x := nI 1) E dX7_stitch_219 (by decide) ?_
                refine j_iadd E dX7_stitch_220 ?_
                refine J.topi (x' := nI (nk (gS ss j) + 1)) (nI_1 _) ?_
                refine j_iastore E j dX7_stitch_221 (hM.gI 8 10 (by decide)) rfl (by omega) (by omega) ?_
                refine MR.gen (hM.pI 8 10 _ (by decide)) (fun h hM => ?_)
                refine j_aload_n E dX7_stitch_222 rfl ?_
                refine j_getfield (ref := "ColourPartsModel") (C := RX7) (T := TX7) (N := 27) (ci := 8) E 9 dX7_stitch_223 iw_X7_stitch_X7 rfl (by decide) (by decide +kernel) rfl hM.obj rfl ?_
                refine j_iload_n E dX7_stitch_226 rfl ?_
                refine j_iload E dX7_stitch_227 rfl ?_
                refine j_zastore E j dX7_stitch_229 (hM.gZ 9 10 (by decide)) rfl (by omega) (by omega) (by rcases hww with rfl | rfl <;> rfl) ?_
                refine MR.gen (hM.pZ 9 10 _ (by decide)) (fun h hM => ?_)
                refine j_iconst (x := nI 1) E dX7_stitch_230 (by decide) ?_
                rw [← hQ]
                refine j_iret E dX7_stitch_231 rfl rfl (by omega) (by omega) ⟨⟨_, rfl⟩, ⟨_, _, _, hM, (uA_eq _ _ _).trans hq, fun k h1 => (uA_ne _ _ h1).trans (uA_ne _ _ h1), fun k h1 h2 => (uA_ne _ _ h2).trans (uA_ne _ _ h1), fun k h1 => (uA_ne _ _ h1).trans (uA_ne _ _ h1), fun w => absurd hq.symm w, fun _ i hi e => ?_⟩⟩
                rw [hjj i hi e, eX]
                refine ⟨by rw [bI_t hno]; rfl, fun u => absurd u hno, fun _ => ?_⟩
                obtain ⟨g1, g2, g3, g4⟩ := insC_get (l := (gS ss j).2.1) (z := xi) (k := k) f4 (fun i h1 h2 => (f2 i h1 h2).2) hk
                refine A.upd hw hj _ rfl (fun t ht htj => ⟨rfl, ?_, rfl, ?_, fun _ _ => ⟨rfl, rfl⟩, fun t2 ht2 => ?_⟩) ⟨a5, ?_, a6, fun _ => ?_, aX, fun t ht => ?_⟩
                · exact upd_ne htj
                · exact upd_ne htj
                · exact (pk_uLn (by omega)).trans (f3 t t2 ht htj ht2)
                · exact upd_eq.trans (by show _ = nI (insC _ _).length; rw [g1]; rfl)
                · exact upd_eq
                · have ht' : t < nk (gS ss j) + 1 := by
                    have : t < (insC (gS ss j).2.1 xi).length := ht
                    rw [g1] at this
                    exact this
                  show vp_updL (uA G 7 f 7) (3 * j + k) (lZ xi) (3 * j + t) = lZ ((insC (gS ss j).2.1 xi).getD t 0)
                  rw [uA_eq]
                  rcases Nat.lt_trichotomy t k with q | q | q
                  · rw [pk_uLn (by omega), f1 t q, g2 t q]; rfl
                  · rw [q, pk_uLs, g3]
                  · obtain ⟨t1, rfl⟩ : ∃ t1, t = t1 + 1 := ⟨t - 1, by omega⟩
                    rw [pk_uLn (by omega), (f2 t1 (by omega) (by omega)).1, g4 t1 (by omega)]; rfl
              have loop : ∀ (k : Nat) (h : HM) (f : Nat → Int64), k ≤ nk (gS ss j) → MR h0 h m a (lZ d) (uA (uA s 0 (nI 0)) 0 0) I (uA G 7 f) → (∀ i, i < k → f (3 * j + i) = lZ (ct (gS ss j) i)) → (∀ i, k ≤ i → i < nk (gS ss j) → f (3 * j + (i + 1)) = lZ (ct (gS ss j) i) ∧ xi < ct (gS ss j) i) → (∀ i t, i < ss.length → i ≠ j → t < 3 → f (3 * i + t) = G 7 (3 * i + t)) → J X B D 7 Q h 0 0 147 [(6, .int (nI k)), (4, .int (iZ w)), (2, .long (lZ xi)), (1, .int (nI j)), (0, .ref m)] [] := by
                intro k
                induction k with
                | zero =>
                  intro h f hk hM f1 f2 f3
                  refine j_iload E dX7_stitch_147 rfl ?_
                  refine j_if_le E (tgt := 200) dX7_stitch_149 (by decide) (fun c6 => ?_) (fun c6 => ?_)
                  · exact stop 0 h f hk hM f1 f2 f3 (fun i hi => absurd hi (Nat.not_lt_zero i))
                  · exact absurd (by decide) c6
                | succ k ih =>
                  intro h f hk hM f1 f2 f3
                  refine j_iload E dX7_stitch_147 rfl ?_
                  refine j_if_le E (tgt := 200) dX7_stitch_149 (by decide) (fun c6 => ?_) (fun c6 => ?_)
                  · exact absurd c6 (nI_nle (Nat.succ_pos k) (by omega))
                  · have fk : f (3 * j + k) = lZ (ct (gS ss j) k) := f1 k (by omega)
                    refine j_aload_n E dX7_stitch_152 rfl ?_
                    refine j_getfield (ref := "ColourPartsModel") (C := RX7) (T := TX7) (N := 27) (ci := 8) E 7 dX7_stitch_153 iw_X7_stitch_X7 rfl (by decide) (by decide +kernel) rfl hM.obj rfl ?_
                    refine j_iconst (x := nI 3) E dX7_stitch_156 (by decide) ?_
                    refine j_iload_n E dX7_stitch_157 rfl ?_
                    refine j_imul E dX7_stitch_158 ?_
                    refine J.topi (x' := nI (3 * j)) (pk_mul _ _) ?_
                    refine j_iload E dX7_stitch_159 rfl ?_
                    refine j_iadd E dX7_stitch_161 ?_
                    refine J.topi (x' := nI (3 * j + (k + 1))) (nI_add _ _) ?_
                    refine j_iconst (x := nI 1) E dX7_stitch_162 (by decide) ?_
                    refine j_isub E dX7_stitch_163 ?_
                    refine J.topi (x' := nI (3 * j + k)) (nI_pred (3 * j + k)) ?_
                    refine j_laload E (3 * j + k) dX7_stitch_164 (hM.gJ 7 30 (by decide)) rfl (by omega) (by omega) ?_
                    refine J.topl (x' := lZ (ct (gS ss j) k)) (fk) ?_
                    refine j_lload_n E dX7_stitch_165 rfl ?_
                    refine j_lcmp E dX7_stitch_166 ?_
                    refine j_if_le E (tgt := 200) dX7_stitch_167 (by decide) (fun c7 => ?_) (fun c7 => ?_)
                    · have e7 := (lZ_le (hcO k (by omega)) hXO).mp (cmp_le.mp c7)
                      refine stop (k + 1) h f hk hM f1 f2 f3 (fun i hi => ?_)
                      have ne : ct (gS ss j) k ≠ xi := fun e => hno ⟨k, by omega, z4 (by omega), by rw [e]⟩
                      by_cases e : i = k
                      · rw [e]; omega
                      · have := wj.2.2.2.2.2.1 i k (by omega) (by omega)
                        omega
                    · have e7 : xi < ct (gS ss j) k := Int.not_le.mp (fun e => c7 (cmp_le.mpr ((lZ_le (hcO k (by omega)) hXO).mpr e)))
                      refine j_aload_n E dX7_stitch_170 rfl ?_
                      refine j_getfield (ref := "ColourPartsModel") (C := RX7) (T := TX7) (N := 27) (ci := 8) E 7 dX7_stitch_171 iw_X7_stitch_X7 rfl (by decide) (by decide +kernel) rfl hM.obj rfl ?_
                      refine j_iconst (x := nI 3) E dX7_stitch_174 (by decide) ?_
                      refine j_iload_n E dX7_stitch_175 rfl ?_
                      refine j_imul E dX7_stitch_176 ?_
                      refine J.topi (x' := nI (3 * j)) (pk_mul _ _) ?_
                      refine j_iload E dX7_stitch_177 rfl ?_
                      refine j_iadd E dX7_stitch_179 ?_
                      refine J.topi (x' := nI (3 * j + (k + 1))) (nI_add _ _) ?_
                      refine j_aload_n E dX7_stitch_180 rfl ?_
                      refine j_getfield (ref := "ColourPartsModel") (C := RX7) (T := TX7) (N := 27) (ci := 8) E 7 dX7_stitch_181 iw_X7_stitch_X7 rfl (by decide) (by decide +kernel) rfl hM.obj rfl ?_
                      refine j_iconst (x := nI 3) E dX7_stitch_184 (by decide) ?_
                      refine j_iload_n E dX7_stitch_185 rfl ?_
                      refine j_imul E dX7_stitch_186 ?_
                      refine J.topi (x' := nI (3 * j)) (pk_mul _ _) ?_
                      refine j_iload E dX7_stitch_187 rfl ?_
                      refine j_iadd E dX7_stitch_189 ?_
                      refine J.topi (x' := nI (3 * j + (k + 1))) (nI_add _ _) ?_
                      refine j_iconst (x := nI 1) E dX7_stitch_190 (by decide) ?_
                      refine j_isub E dX7_stitch_191 ?_
                      refine J.topi (x' := nI (3 * j + k)) (nI_pred (3 * j + k)) ?_
                      refine j_laload E (3 * j + k) dX7_stitch_192 (hM.gJ 7 30 (by decide)) rfl (by omega) (by omega) ?_
                      refine J.topl (x' := lZ (ct (gS ss j) k)) (fk) ?_
                      refine j_lastore E (3 * j + (k + 1)) dX7_stitch_193 (hM.gJ 7 30 (by decide)) rfl (by omega) (by omega) ?_
                      refine MR.gen (hM.pJ 7 30 _ (by decide)) (fun h hM => ?_)
                      refine j_iinc E dX7_stitch_194 rfl (nI_m1 k) (by decide) ?_
                      refine j_goto E (tgt := 147) dX7_stitch_197 (by decide) ?_
                      refine J.sub [(6, .int (nI k)), (4, .int (iZ w)), (2, .long (lZ xi)), (1, .int (nI j)), (0, .ref m)] ⟨rfl, rfl, rfl, rfl, rfl, trivial⟩ ?_
                      rw [uA_uA G] at hM
                      refine ih h _ (by omega) hM (fun i hi => ?_) (fun i hi1 hi2 => ?_) (fun i t hi hij ht => ?_)
                      · exact (pk_uLn (by omega)).trans (f1 i (by omega))
                      · by_cases e : i = k
                        · rw [e]; exact ⟨pk_uLs, e7⟩
                        · exact ⟨(pk_uLn (by omega)).trans (f2 i (by omega) hi2).1, (f2 i (by omega) hi2).2⟩
                      · exact (pk_uLn (by omega)).trans (f3 i t hi hij ht)
              rw [← uA_self G 7] at hM
              refine J.sub [(6, .int (nI (nk (gS ss j)))), (4, .int (iZ w)), (2, .long (lZ xi)), (1, .int (nI j)), (0, .ref m)] ⟨rfl, rfl, rfl, rfl, rfl, trivial⟩ ?_
              exact loop (nk (gS ss j)) h (G 7) (Nat.le_refl _) hM aK (fun i h1 h2 => absurd h2 (by omega)) (fun i t _ _ _ => rfl)
            ·
              refine j_iconst (x := nI 0) E dX7_stitch_137 (by decide) ?_
              rw [← hQ]
              refine j_iret E dX7_stitch_138 rfl rfl (by omega) (by omega) ⟨⟨_, rfl⟩, ⟨_, _, _, hM, (uA_eq _ _ _).trans hq, fun k h1 => (uA_ne _ _ h1).trans (uA_ne _ _ h1), fun k _ _ => rfl, fun k _ => rfl, fun _ => A1, fun _ i hi e => ?_⟩⟩
              rw [hjj i hi e]
              have hy := bI_n.mp c5
              exact ⟨by rw [bI_f (fun u => u hy)]; rfl, fun _ => A1, fun u => absurd hy u⟩
        have fin2 : ¬ nc (gS ss j) = 2 ∨ (¬ hasC (gS ss j) w x ∧ (nk (gS ss j) = 3 ∨ tS ss ss.length = 12)) → J X B D 7 Q h 0 0 82 [(5, .int (bI (hasC (gS ss j) w x))), (4, .int (iZ w)), (2, .long x), (1, .int (nI j)), (0, .ref m)] [.ref m] := by
          intro e
          refine j_iconst (x := nI 2) E dX7_stitch_82 (by decide) ?_
          refine j_goto E (tgt := 122) dX7_stitch_83 (by decide) ?_
          exact tail _ (by rw [cdSt, cI_t e]; rfl) (fun z => absurd z (by decide)) (Or.inr (by decide))
        have fin3 : nc (gS ss j) = 2 → (hasC (gS ss j) w x ∨ (¬ nk (gS ss j) = 3 ∧ ¬ tS ss ss.length = 12)) → J X B D 7 Q h 0 0 86 [(5, .int (bI (hasC (gS ss j) w x))), (4, .int (iZ w)), (2, .long x), (1, .int (nI j)), (0, .ref m)] [.ref m] := by
          intro e2 e3
          have e4 : ¬ (¬ nc (gS ss j) = 2 ∨ (¬ hasC (gS ss j) w x ∧ (nk (gS ss j) = 3 ∨ tS ss ss.length = 12))) := fun u => u.elim (fun u => u e2) (fun u => e3.elim u.1 (fun v => u.2.elim v.1 v.2))
          refine j_aload_n E dX7_stitch_86 rfl ?_
          refine j_iload_n E dX7_stitch_87 rfl ?_
          refine j_lload_n E dX7_stitch_88 rfl ?_
          refine j_iload E dX7_stitch_89 rfl ?_
          refine j_callV (np := 3) (C := RX7) (T := TX7) (N := 27) (ci := 8) E (m_isWithin v hM A0 hw hj e2 x hww) gX7_stitch_X7_isWithin rfl ⟨rfl, by decide, by decide, by decide +kernel⟩ dX7_stitch_91 (by omega) (by decide) rfl hM.obj rfl rfl (Nat.le_of_ble_eq_true rfl) (by omega) (by omega) (fun r9 h9 p9 => J.pure p9 ?_)
          refine J.wide (k' := 0) (n' := 0) (by omega) (by omega) ?_
          refine j_if_eq E (tgt := 117) dX7_stitch_94 (by decide) (fun c4 => ?_) (fun c4 => ?_)
          ·
            refine j_iconst (x := nI 3) E dX7_stitch_117 (by decide) ?_
            refine j_goto E (tgt := 122) dX7_stitch_118 (by decide) ?_
            exact tail _ (by rw [cdSt, cI_f e4, cI_t (Or.inl (bI_z.mp c4))]; rfl) (fun z => absurd z (by decide)) (Or.inr (by decide))
          · have hwi := bI_n.mp c4
            refine j_aload_n E dX7_stitch_97 rfl ?_
            refine j_getfield (ref := "ColourPartsModel") (C := RX7) (T := TX7) (N := 27) (ci := 8) E 8 dX7_stitch_98 iw_X7_stitch_X7 rfl (by decide) (by decide +kernel) rfl hM.obj rfl ?_
            refine j_iload_n E dX7_stitch_101 rfl ?_
            refine j_iaload E j dX7_stitch_102 (hM.gI 8 10 (by decide)) rfl (by omega) (by omega) ?_
            refine J.topi (x' := nI (nk (gS ss j))) (a8) ?_
            refine j_if_le E (tgt := 121) dX7_stitch_103 (by decide) (fun c5 => ?_) (fun c5 => ?_)
            · have k0 : ¬ 0 < nk (gS ss j) := fun u => nI_nle u (by omega) c5
              refine j_iconst (x := nI 0) E dX7_stitch_121 (by decide) ?_
              exact tail _ (by rw [cdSt, cI_f e4, cI_f (fun u => u.elim (fun u => u hwi) (fun u => k0 u.1))]; rfl) (fun _ => ⟨e2, e3.elim Or.inl (fun u => Or.inr (by omega)), fun u => absurd u k0, hwi⟩) (Or.inl rfl)
            · have k0 : 0 < nk (gS ss j) := by
                rcases Nat.eq_zero_or_pos (nk (gS ss j)) with q | q
                · exact absurd (by rw [q]; decide) c5
                · exact q
              have es : iZ (sd (gS ss j)) = iZ w ↔ sd (gS ss j) = w := iZ_eq (by omega) (by omega)
              refine j_aload_n E dX7_stitch_106 rfl ?_
              refine j_getfield (ref := "ColourPartsModel") (C := RX7) (T := TX7) (N := 27) (ci := 8) E 9 dX7_stitch_107 iw_X7_stitch_X7 rfl (by decide) (by decide +kernel) rfl hM.obj rfl ?_
              refine j_iload_n E dX7_stitch_110 rfl ?_
              refine j_zaload E j dX7_stitch_111 (hM.gZ 9 10 (by decide)) rfl (by omega) (by omega) ?_
              refine J.topi (x' := iZ (sd (gS ss j))) (a9 k0) ?_
              refine j_iload E dX7_stitch_112 rfl ?_
              refine j_icmp_eq E (tgt := 121) dX7_stitch_114 (by decide) (fun c6 => ?_) (fun c6 => ?_)
              ·
                refine j_iconst (x := nI 0) E dX7_stitch_121 (by decide) ?_
                exact tail _ (by rw [cdSt, cI_f e4, cI_f (fun u => u.elim (fun u => u hwi) (fun u => u.2 (es.mp c6)))]; rfl) (fun _ => ⟨e2, e3.elim Or.inl (fun u => Or.inr (by omega)), fun u => es.mp c6, hwi⟩) (Or.inl rfl)
              ·
                refine j_iconst (x := nI 3) E dX7_stitch_117 (by decide) ?_
                refine j_goto E (tgt := 122) dX7_stitch_118 (by decide) ?_
                exact tail _ (by rw [cdSt, cI_f e4, cI_t (Or.inr ⟨k0, fun u => c6 (es.mpr u)⟩)]; rfl) (fun z => absurd z (by decide)) (Or.inr (by decide))
        refine j_istore E dX7_stitch_45 (by decide) ?_
        refine j_aload_n E dX7_stitch_47 rfl ?_
        refine j_aload_n E dX7_stitch_48 rfl ?_
        refine j_getfield (ref := "ColourPartsModel") (C := RX7) (T := TX7) (N := 27) (ci := 8) E 5 dX7_stitch_49 iw_X7_stitch_X7 rfl (by decide) (by decide +kernel) rfl hM.obj rfl ?_
        refine j_iload_n E dX7_stitch_52 rfl ?_
        refine j_iaload E j dX7_stitch_53 (hM.gI 5 10 (by decide)) rfl (by omega) (by omega) ?_
        refine J.topi (x' := nI (nc (gS ss j))) (a5) ?_
        refine j_iconst (x := nI 2) E dX7_stitch_54 (by decide) ?_
        refine J.sub [(5, .int (bI (hasC (gS ss j) w x))), (4, .int (iZ w)), (2, .long x), (1, .int (nI j)), (0, .ref m)] ⟨rfl, rfl, rfl, rfl, rfl, trivial⟩ ?_
        refine j_icmp_ne E (tgt := 82) dX7_stitch_55 (by decide) (fun c4 => ?_) (fun c4 => ?_)
        · exact fin2 (Or.inl (fun u => c4 (by rw [u])))
        · have e2 := (nI_eq (by omega) (by decide)).mp c4
          refine j_iload E dX7_stitch_58 rfl ?_
          refine j_if_ne E (tgt := 86) dX7_stitch_60 (by decide) (fun c5 => ?_) (fun c5 => ?_)
          · exact fin3 e2 (Or.inl (bI_n.mp c5))
          ·
            refine j_aload_n E dX7_stitch_63 rfl ?_
            refine j_getfield (ref := "ColourPartsModel") (C := RX7) (T := TX7) (N := 27) (ci := 8) E 8 dX7_stitch_64 iw_X7_stitch_X7 rfl (by decide) (by decide +kernel) rfl hM.obj rfl ?_
            refine j_iload_n E dX7_stitch_67 rfl ?_
            refine j_iaload E j dX7_stitch_68 (hM.gI 8 10 (by decide)) rfl (by omega) (by omega) ?_
            refine J.topi (x' := nI (nk (gS ss j))) (a8) ?_
            refine j_iconst (x := nI 3) E dX7_stitch_69 (by decide) ?_
            refine j_icmp_eq E (tgt := 82) dX7_stitch_70 (by decide) (fun c6 => ?_) (fun c6 => ?_)
            · exact fin2 (Or.inr ⟨bI_z.mp c5, Or.inl ((nI_eq (by omega) (by decide)).mp c6)⟩)
            ·
              refine j_aload_n E dX7_stitch_73 rfl ?_
              refine j_callV (np := 0) (C := RX7) (T := TX7) (N := 27) (ci := 8) E (m_allPieces v hM A0 hl) gX7_stitch_X7_allPieces rfl ⟨rfl, by decide, by decide, by decide +kernel⟩ dX7_stitch_74 (by omega) (by decide) rfl hM.obj rfl rfl (Nat.le_of_ble_eq_true rfl) (by omega) (by omega) (fun r9 h9 p9 => J.pure p9 ?_)
              refine J.wide (k' := 0) (n' := 0) (by omega) (by omega) ?_
              refine j_bipush (x := nI 12) E dX7_stitch_77 (by decide) ?_
              refine j_icmp_ne E (tgt := 86) dX7_stitch_79 (by decide) (fun c7 => ?_) (fun c7 => ?_)
              · exact fin3 e2 (Or.inr ⟨fun u => c6 (by rw [u]), fun u => c7 (by rw [u])⟩)
              · exact fin2 (Or.inr ⟨bI_z.mp c5, Or.inr ((nI_eq (by omega) (by decide)).mp c7)⟩)
      · exact absurd (by decide) c3
    ·
      refine j_iconst (x := nI 2) E dX7_stitch_20 (by decide) ?_
      refine j_goto E (tgt := 25) dX7_stitch_21 (by decide) ?_
      exact early _ (by rw [cdStitch, cI_f (fun u => u hx), cI_t (bI_n.mp c2)]; rfl) (by decide) (by decide)
  ·
    refine j_iconst (x := nI 1) E dX7_stitch_9 (by decide) ?_
    refine j_goto E (tgt := 25) dX7_stitch_10 (by decide) ?_
    exact early _ (by rw [cdStitch, cI_t (bI_z.mp c1)]; rfl) (by decide) (by decide)
end M6
