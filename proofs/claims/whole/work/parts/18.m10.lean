/-! the area of a piece; what the reference seeks -/
def okF (d : Int) (ss : List SH) (many most : Nat) (w : Nat → Nat) (k : Nat) : Prop := w k < many ∧ fitP d ss w most k
def lexL (n : Nat) (w v : Nat → Nat) : Prop := (∀ i, i < n → w i = v i) ∨ ∃ i, i < n ∧ (∀ j, j < i → w j = v j) ∧ w i < v i
theorem fitP_congr {d : Int} {ss : List SH} {most k : Nat} {w v : Nat → Nat} (h : ∀ i, i < k + 1 → w i = v i) : fitP d ss w most k ↔ fitP d ss v most k := by
  unfold fitP
  rw [h k (by omega), uC_congr (f := ow ss) (c := w) (e := v) (fun i hi => ⟨rfl, h i hi⟩)]
  refine and_congr Iff.rfl (and_congr ⟨fun z i hi => ?_, fun z i hi => ?_⟩ Iff.rfl)
  · rw [← h i (by omega)]; exact z i hi
  · rw [h i (by omega)]; exact z i hi
theorem okF_congr {d : Int} {ss : List SH} {many most k : Nat} {w v : Nat → Nat} (h : ∀ i, i < k + 1 → w i = v i) : okF d ss many most w k ↔ okF d ss many most v k := by
  unfold okF
  rw [h k (by omega), fitP_congr h]
def FV (d : Int) (ss : List SH) (many most : Nat) (w : Nat → Nat) : Prop := ∀ k, k < tS ss ss.length → okF d ss many most w k
def updN (w : Nat → Nat) (k x : Nat) : Nat → Nat := fun i => if i = k then x else w i
theorem updN_eq {w : Nat → Nat} {k x : Nat} : updN w k x k = x := if_pos rfl
theorem updN_ne {w : Nat → Nat} {k x i : Nat} (h : i ≠ k) : updN w k x i = w i := if_neg h
section M10
variable {l : Launch} {B E0 : Nat} {D : va_G} {h0 h : HM} {m : Nat} {a : Nat → Nat} {d : Int} {s : Nat → Int32} {I : Nat → Nat → Int32} {G : Nat → Nat → Int64} {ss : List SH} {kp : Option KPs} {rg : List Nat} {cl : Prop}
theorem iw_X7_areaOf_X7 : ∀ w ∈ u_ws RX7 TX7 27, w ∈ wsX7_areaOf := by decide +kernel
theorem m_areaOf (v : Nat) (hM : MR h0 h m a (lZ d) s I G) (A : MA ss s I G) (P : MP d ss s I) (hw : wfSS ss) {p : Nat} (hp : p < tS ss ss.length) : CM l B E0 D yX7_areaOf wsX7_areaOf (v + 3) 0 0 [.ref m, .int (nI p)] h (fun r h1 => r = some (.long (lZ (ar ss p))) ∧ ∃ G1, MR h0 h1 m a (lZ d) s I G1 ∧ gK G G1) := by
  have hl := hw.1
  have ht := hw.2.1
  obtain ⟨o1, o2, o3⟩ := ow_spec hp
  refine CM.of (cc := cX7_areaOf) (maxL := 5) (ret := (some .long)) (by decide) rfl (Nat.le_of_ble_eq_true rfl) (fun X E hin => ?_)
  show J X B D 5 _ h 0 0 0 [(0, .ref m), (1, .int (nI p))] []
  generalize hQ : jQ X B D _ _ _ = Q
  have key : ∀ (t b : Nat) (h : HM) (G1 : Nat → Nat → Int64), b + t = nb (gS ss (ow ss p)) → MR h0 h m a (lZ d) s I G1 → gK G G1 → J X B D 5 Q h 0 0 5 [(4, .int (nI b)), (2, .long (lZ (arU ss p b))), (1, .int (nI p)), (0, .ref m)] [] := by
    have hb4 : nb (gS ss (ow ss p)) ≤ 4 := by
      have h8 := (hw.2.2 _ o1).1
      unfold nb
      by_cases e : 0 < nk (gS ss (ow ss p))
      · rw [if_pos e]; omega
      · rw [if_neg e]; omega
    intro t
    induction t with
    | zero =>
      intro b h G1 hb hM hG
      refine j_iload E dX7_areaOf_5 rfl ?_
      refine j_aload_n E dX7_areaOf_7 rfl ?_
      refine j_aload_n E dX7_areaOf_8 rfl ?_
      refine j_getfield (ref := "ColourPartsModel") (C := RX7) (T := TX7) (N := 27) (ci := 8) E 11 dX7_areaOf_9 iw_X7_areaOf_X7 rfl (by decide) (by decide +kernel) rfl hM.obj rfl ?_
      refine j_iload_n E dX7_areaOf_12 rfl ?_
      refine j_iaload E p dX7_areaOf_13 (hM.gI 11 12 (by decide)) rfl (by omega) (by omega) ?_
      refine J.topi (x' := nI (ow ss p)) ((P.2.1 p hp).1) ?_
      refine j_callV (np := 1) (C := RX7) (T := TX7) (N := 27) (ci := 8) E (m_boxes (v + 1) hM (A.gk hG) hw o1) gX7_areaOf_X7_boxes rfl ⟨rfl, by decide, by decide, by decide +kernel⟩ dX7_areaOf_14 (by omega) (by decide) rfl hM.obj rfl rfl (Nat.le_of_ble_eq_true rfl) (by omega) (by omega) (fun r9 h9 p9 => J.pure p9 ?_)
      refine J.wide (k' := 0) (n' := 0) (by omega) (by omega) ?_
      refine j_icmp_ge E (tgt := 75) dX7_areaOf_17 (by decide) (fun c1 => ?_) (fun c1 => ?_)
      ·
        refine j_lload_n E dX7_areaOf_75 rfl ?_
        rw [← hQ]
        exact j_lret E dX7_areaOf_76 rfl (by omega) (by omega) ⟨by rw [show b = nb (gS ss (ow ss p)) by omega]; rfl, _, hM, hG⟩
      · exact absurd (nI_le (show nb (gS ss (ow ss p)) ≤ b by omega) (by omega)) c1
    | succ t ih =>
      intro b h G1 hb hM hG
      refine j_iload E dX7_areaOf_5 rfl ?_
      refine j_aload_n E dX7_areaOf_7 rfl ?_
      refine j_aload_n E dX7_areaOf_8 rfl ?_
      refine j_getfield (ref := "ColourPartsModel") (C := RX7) (T := TX7) (N := 27) (ci := 8) E 11 dX7_areaOf_9 iw_X7_areaOf_X7 rfl (by decide) (by decide +kernel) rfl hM.obj rfl ?_
      refine j_iload_n E dX7_areaOf_12 rfl ?_
      refine j_iaload E p dX7_areaOf_13 (hM.gI 11 12 (by decide)) rfl (by omega) (by omega) ?_
      refine J.topi (x' := nI (ow ss p)) ((P.2.1 p hp).1) ?_
      refine j_callV (np := 1) (C := RX7) (T := TX7) (N := 27) (ci := 8) E (m_boxes (v + 1) hM (A.gk hG) hw o1) gX7_areaOf_X7_boxes rfl ⟨rfl, by decide, by decide, by decide +kernel⟩ dX7_areaOf_14 (by omega) (by decide) rfl hM.obj rfl rfl (Nat.le_of_ble_eq_true rfl) (by omega) (by omega) (fun r9 h9 p9 => J.pure p9 ?_)
      refine J.wide (k' := 0) (n' := 0) (by omega) (by omega) ?_
      refine j_icmp_ge E (tgt := 75) dX7_areaOf_17 (by decide) (fun c1 => ?_) (fun c1 => ?_)
      · exact absurd c1 (nI_ge (show b < nb (gS ss (ow ss p)) by omega) (by omega))
      ·
        refine j_aload_n E dX7_areaOf_20 rfl ?_
        refine j_aload_n E dX7_areaOf_21 rfl ?_
        refine j_getfield (ref := "ColourPartsModel") (C := RX7) (T := TX7) (N := 27) (ci := 8) E 11 dX7_areaOf_22 iw_X7_areaOf_X7 rfl (by decide) (by decide +kernel) rfl hM.obj rfl ?_
        refine j_iload_n E dX7_areaOf_25 rfl ?_
        refine j_iaload E p dX7_areaOf_26 (hM.gI 11 12 (by decide)) rfl (by omega) (by omega) ?_
        refine J.topi (x' := nI (ow ss p)) ((P.2.1 p hp).1) ?_
        refine j_aload_n E dX7_areaOf_27 rfl ?_
        refine j_getfield (ref := "ColourPartsModel") (C := RX7) (T := TX7) (N := 27) (ci := 8) E 12 dX7_areaOf_28 iw_X7_areaOf_X7 rfl (by decide) (by decide +kernel) rfl hM.obj rfl ?_
        refine j_iload_n E dX7_areaOf_31 rfl ?_
        refine j_iaload E p dX7_areaOf_32 (hM.gI 12 12 (by decide)) rfl (by omega) (by omega) ?_
        refine J.topi (x' := nI (nu ss p)) ((P.2.1 p hp).2) ?_
        refine j_iload E dX7_areaOf_33 rfl ?_
        refine j_iconst (x := nI 1) E dX7_areaOf_35 (by decide) ?_
        refine j_callV (np := 4) (C := RX7) (T := TX7) (N := 27) (ci := 8) E (m_load v hM (A.gk hG) hw o1 o3 (show b < nb (gS ss (ow ss p)) by omega) true) gX7_areaOf_X7_load rfl ⟨rfl, by decide, by decide, by decide +kernel⟩ dX7_areaOf_36 (by omega) (by decide) rfl hM.obj rfl rfl (Nat.le_of_ble_eq_true rfl) (by omega) (by omega) (fun r h1 p2 => ?_)
        obtain ⟨rfl, f, hM, f0, f1, f2, f3⟩ := p2
        refine J.wide (k' := 0) (n' := 0) (by omega) (by omega) ?_
        refine j_lload_n E dX7_areaOf_39 rfl ?_
        refine j_aload_n E dX7_areaOf_40 rfl ?_
        refine j_getfield (ref := "ColourPartsModel") (C := RX7) (T := TX7) (N := 27) (ci := 8) E 14 dX7_areaOf_41 iw_X7_areaOf_X7 rfl (by decide) (by decide +kernel) rfl hM.obj rfl ?_
        refine j_iconst (x := nI 2) E dX7_areaOf_44 (by decide) ?_
        refine j_laload E 2 dX7_areaOf_45 (hM.gJ 14 4 (by decide)) rfl (by omega) (by omega) ?_
        refine J.topl (x' := lZ (px1 (gS ss (ow ss p)) (nu ss p) b)) (f2) ?_
        refine j_aload_n E dX7_areaOf_46 rfl ?_
        refine j_getfield (ref := "ColourPartsModel") (C := RX7) (T := TX7) (N := 27) (ci := 8) E 14 dX7_areaOf_47 iw_X7_areaOf_X7 rfl (by decide) (by decide +kernel) rfl hM.obj rfl ?_
        refine j_iconst (x := nI 0) E dX7_areaOf_50 (by decide) ?_
        refine j_laload E 0 dX7_areaOf_51 (hM.gJ 14 4 (by decide)) rfl (by omega) (by omega) ?_
        refine J.topl (x' := lZ (px0 (gS ss (ow ss p)) (nu ss p) b)) (f0) ?_
        refine j_lsub E dX7_areaOf_52 ?_
        refine J.topl (x' := lZ (px1 (gS ss (ow ss p)) (nu ss p) b - px0 (gS ss (ow ss p)) (nu ss p) b)) (lZ_sub _ _) ?_
        refine j_aload_n E dX7_areaOf_53 rfl ?_
        refine j_getfield (ref := "ColourPartsModel") (C := RX7) (T := TX7) (N := 27) (ci := 8) E 14 dX7_areaOf_54 iw_X7_areaOf_X7 rfl (by decide) (by decide +kernel) rfl hM.obj rfl ?_
        refine j_iconst (x := nI 3) E dX7_areaOf_57 (by decide) ?_
        refine j_laload E 3 dX7_areaOf_58 (hM.gJ 14 4 (by decide)) rfl (by omega) (by omega) ?_
        refine J.topl (x' := lZ (py1 (gS ss (ow ss p)) (nu ss p) b)) (f3) ?_
        refine j_aload_n E dX7_areaOf_59 rfl ?_
        refine j_getfield (ref := "ColourPartsModel") (C := RX7) (T := TX7) (N := 27) (ci := 8) E 14 dX7_areaOf_60 iw_X7_areaOf_X7 rfl (by decide) (by decide +kernel) rfl hM.obj rfl ?_
        refine j_iconst (x := nI 1) E dX7_areaOf_63 (by decide) ?_
        refine j_laload E 1 dX7_areaOf_64 (hM.gJ 14 4 (by decide)) rfl (by omega) (by omega) ?_
        refine J.topl (x' := lZ (py0 (gS ss (ow ss p)) (nu ss p) b)) (f1) ?_
        refine j_lsub E dX7_areaOf_65 ?_
        refine J.topl (x' := lZ (py1 (gS ss (ow ss p)) (nu ss p) b - py0 (gS ss (ow ss p)) (nu ss p) b)) (lZ_sub _ _) ?_
        refine j_lmul E dX7_areaOf_66 ?_
        refine J.topl (x' := lZ (arB ss p b)) (lZ_mul _ _) ?_
        refine j_ladd E dX7_areaOf_67 ?_
        refine J.topl (x' := lZ (arU ss p (b + 1))) (lZ_add _ _) ?_
        refine j_lstore_n E dX7_areaOf_68 (by decide) ?_
        refine j_iinc E dX7_areaOf_69 rfl (nI_1 b) (by decide) ?_
        refine j_goto E (tgt := 5) dX7_areaOf_72 (by decide) ?_
        refine J.sub [(4, .int (nI (b + 1))), (2, .long (lZ (arU ss p (b + 1)))), (1, .int (nI p)), (0, .ref m)] ⟨rfl, rfl, rfl, rfl, trivial⟩ ?_
        exact ih (b + 1) _ _ (by omega) hM (hG.up (Or.inl rfl) f)
  refine j_lconst (x := lZ 0) E dX7_areaOf_0 (by decide) ?_
  refine j_lstore_n E dX7_areaOf_1 (by decide) ?_
  refine j_iconst (x := nI 0) E dX7_areaOf_2 (by decide) ?_
  refine j_istore E dX7_areaOf_3 (by decide) ?_
  refine J.sub [(4, .int (nI 0)), (2, .long (lZ (arU ss p 0))), (1, .int (nI p)), (0, .ref m)] ⟨rfl, rfl, rfl, rfl, trivial⟩ ?_
  exact key (nb (gS ss (ow ss p))) 0 h G (by omega) hM gK.rf
theorem iw_X7_isFound_X7 : ∀ w ∈ u_ws RX7 TX7 27, w ∈ wsX7_isFound := by decide +kernel
theorem m_isFound (v : Nat) (hM : MR h0 h m a (lZ d) s I G) (A : MA ss s I G) (P : MP d ss s I) (hw : wfSS ss) {many most : Nat} (hmy : many < 100) (hmo : most < 100) : CM l B E0 D yX7_isFound wsX7_isFound (v + 3) 0 0 [.ref m, .int (nI many), .int (nI most)] h (fun r h1 => ∃ f, MR h0 h1 m a (lZ d) s (uA I 16 f) G ∧ (((∀ w, ¬ FV d ss many most w) ∧ r = some (.int 0)) ∨ ∃ w, FV d ss many most w ∧ (∀ v, FV d ss many most v → lexL (tS ss ss.length) w v) ∧ r = some (.int 1) ∧ ∀ i, i < tS ss ss.length → f i = nI (w i))) := by
  have hl := hw.1
  have ht := hw.2.1
  generalize hP : tS ss ss.length = n at *
  refine CM.of (cc := cX7_isFound) (maxL := 4) (ret := (some .boolean)) (by decide) rfl (Nat.le_of_ble_eq_true rfl) (fun X E hin => ?_)
  show J X B D 4 _ h 0 0 0 [(0, .ref m), (1, .int (nI many)), (2, .int (nI most))] []
  generalize hQ : jQ X B D _ _ _ = Q
  have dfs : ∀ (r k : Nat), k + r = n → ∀ (w : Nat → Nat) (h : HM) (f : Nat → Int32), MR h0 h m a (lZ d) s (uA I 16 f) G → (∀ i, i < k → f i = nI (w i) ∧ w i < 100) → f k = nI 0 + Int32.ofInt (-1) →
      ((∀ w1, (∀ i, i < k → w1 i = w i) → ¬ ∀ j, k ≤ j → j < n → okF d ss many most w1 j) → ∀ (h : HM) (f : Nat → Int32), MR h0 h m a (lZ d) s (uA I 16 f) G → (∀ i, i < k → f i = nI (w i)) → J X B D 4 Q h 0 0 9 [(3, .int (nI k + Int32.ofInt (-1))), (2, .int (nI most)), (1, .int (nI many)), (0, .ref m)] []) →
      (∀ w1, (∀ i, i < k → w1 i = w i) → (∀ j, k ≤ j → j < n → okF d ss many most w1 j) → (∀ w2, (∀ i, i < k → w2 i = w i) → (∀ j, k ≤ j → j < n → okF d ss many most w2 j) → lexL n w1 w2) → ∀ (h : HM) (f : Nat → Int32), MR h0 h m a (lZ d) s (uA I 16 f) G → (∀ i, i < n → f i = nI (w1 i)) → J X B D 4 Q h 0 0 9 [(3, .int (nI n)), (2, .int (nI most)), (1, .int (nI many)), (0, .ref m)] []) →
      J X B D 4 Q h 0 0 9 [(3, .int (nI k)), (2, .int (nI most)), (1, .int (nI many)), (0, .ref m)] [] := by
    intro r
    induction r with
    | zero =>
      intro k hk w h f hM hf hfk fail succ
      rw [show k = n by omega]
      refine succ w (fun _ _ => rfl) (fun j h1 h2 => by omega) (fun w2 h1 _ => Or.inl (fun i hi => (h1 i (by omega)).symm)) h f hM (fun i hi => (hf i (by omega)).1)
    | succ r ih =>
      intro k hk w h f hM hf hfk fail succ
      have hw100 : ∀ i, i < k → w i < 100 := fun i hi => (hf i hi).2
      have up : ∀ (h : HM) (f g : Nat → Int32), MR h0 h m a (lZ d) s (uA (uA I 16 f) 16 g) G → MR h0 h m a (lZ d) s (uA I 16 g) G := fun h f g hM => by rw [uA_uA] at hM; exact hM
      have head : ∀ (x : Nat) (z : Int32), z + nI 1 = nI x → ∀ (h : HM) (f : Nat → Int32), MR h0 h m a (lZ d) s (uA I 16 f) G → (∀ i, i < k → f i = nI (w i)) → f k = z → (∀ (h : HM) (f : Nat → Int32), MR h0 h m a (lZ d) s (uA I 16 f) G → (∀ i, i < k → f i = nI (w i)) → f k = nI x → J X B D 4 Q h 0 0 31 [(3, .int (nI k)), (2, .int (nI most)), (1, .int (nI many)), (0, .ref m)] []) → J X B D 4 Q h 0 0 9 [(3, .int (nI k)), (2, .int (nI most)), (1, .int (nI many)), (0, .ref m)] [] := by
        intro x z hz h f hM hf hfk kk
        refine j_iload_n E dX7_isFound_9 rfl ?_
        refine j_if_lt E (tgt := 92) dX7_isFound_10 (by decide) (fun c1 => ?_) (fun c1 => ?_)
        · exact absurd c1 (nI_pos (by omega))
        ·
          refine j_iload_n E dX7_isFound_13 rfl ?_
          refine j_aload_n E dX7_isFound_14 rfl ?_
          refine j_getfield (ref := "ColourPartsModel") (C := RX7) (T := TX7) (N := 27) (ci := 8) E 10 dX7_isFound_15 iw_X7_isFound_X7 rfl (by decide) (by decide +kernel) rfl hM.obj rfl ?_
          refine J.topi (x' := nI n) ((P.1.trans (by rw [hP]))) ?_
          refine j_icmp_ge E (tgt := 92) dX7_isFound_18 (by decide) (fun c2 => ?_) (fun c2 => ?_)
          · exact absurd c2 (nI_ge (show k < n by omega) (by omega))
          ·
            refine j_aload_n E dX7_isFound_21 rfl ?_
            refine j_getfield (ref := "ColourPartsModel") (C := RX7) (T := TX7) (N := 27) (ci := 8) E 16 dX7_isFound_22 iw_X7_isFound_X7 rfl (by decide) (by decide +kernel) rfl hM.obj rfl ?_
            refine j_iload_n E dX7_isFound_25 rfl ?_
            refine j_dup2 E dX7_isFound_26 rfl rfl ?_
            refine j_iaload E k dX7_isFound_27 (hM.gI 16 13 (by decide)) rfl (by omega) (by omega) ?_
            refine J.topi (x' := z) (hfk) ?_
            refine j_iconst (x := nI 1) E dX7_isFound_28 (by decide) ?_
            refine j_iadd E dX7_isFound_29 ?_
            refine J.topi (x' := nI x) (hz) ?_
            refine j_iastore E k dX7_isFound_30 (hM.gI 16 13 (by decide)) rfl (by omega) (by omega) ?_
            refine MR.gen (hM.pI 16 13 _ (by decide)) (fun h hM => ?_)
            exact kk _ _ (up _ _ _ hM) (fun i hi => (upd_ne (by omega)).trans (hf i hi)) upd_eq
      have at31 : ∀ (t x : Nat), x + t = many → ∀ (h : HM) (f : Nat → Int32), MR h0 h m a (lZ d) s (uA I 16 f) G → (∀ i, i < k → f i = nI (w i)) → f k = nI x → (∀ w1, (∀ i, i < k → w1 i = w i) → w1 k < x → ¬ ∀ j, k ≤ j → j < n → okF d ss many most w1 j) → J X B D 4 Q h 0 0 31 [(3, .int (nI k)), (2, .int (nI most)), (1, .int (nI many)), (0, .ref m)] [] := by
        intro t
        induction t with
        | zero =>
          intro x hx h f hM hf hfk hno
          refine j_aload_n E dX7_isFound_31 rfl ?_
          refine j_getfield (ref := "ColourPartsModel") (C := RX7) (T := TX7) (N := 27) (ci := 8) E 16 dX7_isFound_32 iw_X7_isFound_X7 rfl (by decide) (by decide +kernel) rfl hM.obj rfl ?_
          refine j_iload_n E dX7_isFound_35 rfl ?_
          refine j_iaload E k dX7_isFound_36 (hM.gI 16 13 (by decide)) rfl (by omega) (by omega) ?_
          refine J.topi (x' := nI x) (hfk) ?_
          refine j_iload_n E dX7_isFound_37 rfl ?_
          refine j_icmp_ge E (tgt := 63) dX7_isFound_38 (by decide) (fun c1 => ?_) (fun c1 => ?_)
          ·
            refine j_aload_n E dX7_isFound_63 rfl ?_
            refine j_getfield (ref := "ColourPartsModel") (C := RX7) (T := TX7) (N := 27) (ci := 8) E 16 dX7_isFound_64 iw_X7_isFound_X7 rfl (by decide) (by decide +kernel) rfl hM.obj rfl ?_
            refine j_iload_n E dX7_isFound_67 rfl ?_
            refine j_iaload E k dX7_isFound_68 (hM.gI 16 13 (by decide)) rfl (by omega) (by omega) ?_
            refine J.topi (x' := nI x) (hfk) ?_
            refine j_iload_n E dX7_isFound_69 rfl ?_
            refine j_icmp_ne E (tgt := 79) dX7_isFound_70 (by decide) (fun c2 => ?_) (fun c2 => ?_)
            · exact absurd (by rw [show x = many by omega]) c2
            ·
              refine j_iinc E dX7_isFound_73 rfl rfl (by decide) ?_
              refine j_goto E (tgt := 9) dX7_isFound_76 (by decide) ?_
              refine J.sub [(3, .int (nI k + Int32.ofInt (-1))), (2, .int (nI most)), (1, .int (nI many)), (0, .ref m)] ⟨rfl, rfl, rfl, rfl, trivial⟩ ?_
              exact fail (fun w1 h1 h2 => hno w1 h1 (by have := (h2 k (Nat.le_refl _) (by omega)).1; omega) h2) h f hM hf
          · exact absurd (nI_le (show many ≤ x by omega) (by omega)) c1
        | succ t ih2 =>
          intro x hx h f hM hf hfk hno
          have hc : ∀ i, i < k + 1 → uA I 16 f 16 i = nI (updN w k x i) ∧ updN w k x i < 100 := by
            intro i hi
            rw [uA_eq]
            by_cases e : i = k
            · rw [e, updN_eq]; exact ⟨hfk, by omega⟩
            · rw [updN_ne e]; exact ⟨hf i (by omega), hw100 i (by omega)⟩
          have hcg : ∀ w1 : Nat → Nat, (∀ i, i < k → w1 i = w i) → w1 k = x → ∀ i, i < k + 1 → updN w k x i = w1 i := by
            intro w1 h1 h2 i hi
            by_cases e : i = k
            · rw [e, updN_eq, h2]
            · rw [updN_ne e, h1 i (by omega)]
          refine j_aload_n E dX7_isFound_31 rfl ?_
          refine j_getfield (ref := "ColourPartsModel") (C := RX7) (T := TX7) (N := 27) (ci := 8) E 16 dX7_isFound_32 iw_X7_isFound_X7 rfl (by decide) (by decide +kernel) rfl hM.obj rfl ?_
          refine j_iload_n E dX7_isFound_35 rfl ?_
          refine j_iaload E k dX7_isFound_36 (hM.gI 16 13 (by decide)) rfl (by omega) (by omega) ?_
          refine J.topi (x' := nI x) (hfk) ?_
          refine j_iload_n E dX7_isFound_37 rfl ?_
          refine j_icmp_ge E (tgt := 63) dX7_isFound_38 (by decide) (fun c1 => ?_) (fun c1 => ?_)
          · exact absurd c1 (nI_ge (show x < many by omega) (by omega))
          ·
            refine j_aload_n E dX7_isFound_41 rfl ?_
            refine j_iload_n E dX7_isFound_42 rfl ?_
            refine j_iload_n E dX7_isFound_43 rfl ?_
            refine j_callV (np := 2) (C := RX7) (T := TX7) (N := 27) (ci := 8) E (m_fits v hM (A.keep rfl ⟨rfl, rfl, rfl, rfl⟩ ⟨rfl, rfl, rfl⟩) (P.keep rfl ⟨rfl, rfl, rfl⟩) hw (show k < tS ss ss.length by omega) hmo hc) gX7_isFound_X7_fits rfl ⟨rfl, by decide, by decide, by decide +kernel⟩ dX7_isFound_44 (by omega) (by decide) rfl hM.obj rfl rfl (Nat.le_of_ble_eq_true rfl) (by omega) (by omega) (fun r9 h9 p9 => J.pure p9 ?_)
            refine J.wide (k' := 0) (n' := 0) (by omega) (by omega) ?_
            refine j_if_ne E (tgt := 63) dX7_isFound_47 (by decide) (fun c2 => ?_) (fun c2 => ?_)
            · have fk := bI_n.mp c2
              refine j_aload_n E dX7_isFound_63 rfl ?_
              refine j_getfield (ref := "ColourPartsModel") (C := RX7) (T := TX7) (N := 27) (ci := 8) E 16 dX7_isFound_64 iw_X7_isFound_X7 rfl (by decide) (by decide +kernel) rfl hM.obj rfl ?_
              refine j_iload_n E dX7_isFound_67 rfl ?_
              refine j_iaload E k dX7_isFound_68 (hM.gI 16 13 (by decide)) rfl (by omega) (by omega) ?_
              refine J.topi (x' := nI x) (hfk) ?_
              refine j_iload_n E dX7_isFound_69 rfl ?_
              refine j_icmp_ne E (tgt := 79) dX7_isFound_70 (by decide) (fun c3 => ?_) (fun c3 => ?_)
              ·
                refine j_iinc E dX7_isFound_79 rfl (nI_1 k) (by decide) ?_
                refine j_aload_n E dX7_isFound_82 rfl ?_
                refine j_getfield (ref := "ColourPartsModel") (C := RX7) (T := TX7) (N := 27) (ci := 8) E 16 dX7_isFound_83 iw_X7_isFound_X7 rfl (by decide) (by decide +kernel) rfl hM.obj rfl ?_
                refine j_iload_n E dX7_isFound_86 rfl ?_
                refine j_iconst (x := (-1)) E dX7_isFound_87 (by decide) ?_
                refine j_iastore E (k + 1) dX7_isFound_88 (hM.gI 16 13 (by decide)) rfl (by omega) (by omega) ?_
                refine MR.gen (hM.pI 16 13 _ (by decide)) (fun h hM => ?_)
                refine j_goto E (tgt := 9) dX7_isFound_89 (by decide) ?_
                refine J.sub [(3, .int (nI (k + 1))), (2, .int (nI most)), (1, .int (nI many)), (0, .ref m)] ⟨rfl, rfl, rfl, rfl, trivial⟩ ?_
                have ext : ∀ w1 : Nat → Nat, (∀ i, i < k + 1 → w1 i = updN w k x i) → (∀ i, i < k → w1 i = w i) ∧ w1 k = x := fun w1 h1 => ⟨fun i hi => by rw [h1 i (by omega), updN_ne (by omega)], by rw [h1 k (by omega), updN_eq]⟩
                refine ih (k + 1) (by omega) (updN w k x) _ _ (up _ _ _ hM) (fun i hi => ?_) upd_eq (fun nof h f hM hf => ?_) (fun w1 h1 h2 h3 h f hM hf => ?_)
                · refine ⟨?_, (hc i hi).2⟩
                  exact (upd_ne (by omega)).trans (hc i hi).1
                · refine J.sub [(3, .int (nI k)), (2, .int (nI most)), (1, .int (nI many)), (0, .ref m)] ⟨congrArg (fun z => some (Value.int z)) (nI_m1 k), rfl, rfl, rfl, trivial⟩ ?_
                  refine head (x + 1) (nI x) (nI_1 x) h f hM (fun i hi => by rw [hf i (by omega), updN_ne (by omega)]) (by rw [hf k (by omega), updN_eq]) (fun h f hM hf hfk => ?_)
                  refine ih2 (x + 1) (by omega) h f hM hf hfk (fun w1 h1 h2 h3 => ?_)
                  by_cases e : w1 k < x
                  · exact hno w1 h1 e h3
                  · have e2 : w1 k = x := by omega
                    exact nof w1 (fun i hi => (hcg w1 h1 e2 i hi).symm) (fun j h4 h5 => h3 j (by omega) h5)
                · obtain ⟨h4, h5⟩ := ext w1 h1
                  have ok : okF d ss many most w1 k := ⟨by omega, (fitP_congr (hcg w1 h4 h5)).mp fk⟩
                  refine succ w1 h4 (fun j h6 h7 => ?_) (fun w2 h6 h7 => ?_) h f hM hf
                  · by_cases e : j = k
                    · rw [e]; exact ok
                    · exact h2 j (by omega) h7
                  · by_cases e : w2 k < x
                    · exact absurd h7 (hno w2 h6 e)
                    · by_cases e2 : w2 k = x
                      · exact h3 w2 (fun i hi => (hcg w2 h6 e2 i hi).symm) (fun j h8 h9 => h7 j (by omega) h9)
                      · exact Or.inr ⟨k, by omega, fun j hj => by rw [h4 j hj, h6 j hj], by omega⟩
              · exact absurd (show nI x = nI many from c3) (fun z => by have := (nI_eq (show x < 2 ^ 31 by omega) (by omega)).mp z; omega)
            · have nf := bI_z.mp c2
              refine j_aload_n E dX7_isFound_50 rfl ?_
              refine j_getfield (ref := "ColourPartsModel") (C := RX7) (T := TX7) (N := 27) (ci := 8) E 16 dX7_isFound_51 iw_X7_isFound_X7 rfl (by decide) (by decide +kernel) rfl hM.obj rfl ?_
              refine j_iload_n E dX7_isFound_54 rfl ?_
              refine j_dup2 E dX7_isFound_55 rfl rfl ?_
              refine j_iaload E k dX7_isFound_56 (hM.gI 16 13 (by decide)) rfl (by omega) (by omega) ?_
              refine J.topi (x' := nI x) (hfk) ?_
              refine j_iconst (x := nI 1) E dX7_isFound_57 (by decide) ?_
              refine j_iadd E dX7_isFound_58 ?_
              refine J.topi (x' := nI (x + 1)) (nI_1 x) ?_
              refine j_iastore E k dX7_isFound_59 (hM.gI 16 13 (by decide)) rfl (by omega) (by omega) ?_
              refine MR.gen (hM.pI 16 13 _ (by decide)) (fun h hM => ?_)
              refine j_goto E (tgt := 31) dX7_isFound_60 (by decide) ?_
              refine ih2 (x + 1) (by omega) _ _ (up _ _ _ hM) (fun i hi => (upd_ne (by omega)).trans (hf i hi)) upd_eq (fun w1 h1 h2 h3 => ?_)
              by_cases e : w1 k < x
              · exact hno w1 h1 e h3
              · exact nf ((fitP_congr (hcg w1 h1 (by omega))).mpr (h3 k (Nat.le_refl _) (by omega)).2)
      exact head 0 _ rfl h f hM (fun i hi => (hf i hi).1) hfk (fun h f hM hf hfk => at31 many 0 (by omega) h f hM hf hfk (fun w1 h1 h2 => absurd h2 (Nat.not_lt_zero _)))
  have fin : ∀ (z x : Int32) (h : HM) (f : Nat → Int32), MR h0 h m a (lZ d) s (uA I 16 f) G → ((z = nI n ∧ x = 1) ∨ (z = -1 ∧ x = 0)) → (((∀ w, ¬ FV d ss many most w) ∧ some (Value.int x) = some (.int 0)) ∨ ∃ w, FV d ss many most w ∧ (∀ v, FV d ss many most v → lexL n w v) ∧ some (Value.int x) = some (.int 1) ∧ ∀ i, i < n → f i = nI (w i)) → J X B D 4 Q h 0 0 9 [(3, .int z), (2, .int (nI most)), (1, .int (nI many)), (0, .ref m)] [] := by
    intro z x h f hM hz hp
    have last : J X B D 4 Q h 0 0 92 [(3, .int z), (2, .int (nI most)), (1, .int (nI many)), (0, .ref m)] [] := by
      refine j_iload_n E dX7_isFound_92 rfl ?_
      refine j_aload_n E dX7_isFound_93 rfl ?_
      refine j_getfield (ref := "ColourPartsModel") (C := RX7) (T := TX7) (N := 27) (ci := 8) E 10 dX7_isFound_94 iw_X7_isFound_X7 rfl (by decide) (by decide +kernel) rfl hM.obj rfl ?_
      refine J.topi (x' := nI n) ((P.1.trans (by rw [hP]))) ?_
      rcases hz with ⟨rfl, rfl⟩ | ⟨rfl, rfl⟩
      ·
        refine j_icmp_ne E (tgt := 104) dX7_isFound_97 (by decide) (fun c3 => ?_) (fun c3 => ?_)
        · exact absurd rfl c3
        ·
          refine j_iconst (x := nI 1) E dX7_isFound_100 (by decide) ?_
          refine j_goto E (tgt := 105) dX7_isFound_101 (by decide) ?_
          rw [← hQ]
          exact j_iret E dX7_isFound_105 rfl rfl (by omega) (by omega) ⟨f, hM, hp⟩
      ·
        refine j_icmp_ne E (tgt := 104) dX7_isFound_97 (by decide) (fun c3 => ?_) (fun c3 => ?_)
        ·
          refine j_iconst (x := nI 0) E dX7_isFound_104 (by decide) ?_
          rw [← hQ]
          exact j_iret E dX7_isFound_105 rfl rfl (by omega) (by omega) ⟨f, hM, hp⟩
        · exact absurd (show (-1 : Int32) = nI n from c3) (fun e => nI_pos (n := n) (by omega) (e ▸ (by decide : (-1 : Int32) < 0)))
    refine j_iload_n E dX7_isFound_9 rfl ?_
    refine j_if_lt E (tgt := 92) dX7_isFound_10 (by decide) (fun c1 => ?_) (fun c1 => ?_)
    · exact last
    ·
      refine j_iload_n E dX7_isFound_13 rfl ?_
      refine j_aload_n E dX7_isFound_14 rfl ?_
      refine j_getfield (ref := "ColourPartsModel") (C := RX7) (T := TX7) (N := 27) (ci := 8) E 10 dX7_isFound_15 iw_X7_isFound_X7 rfl (by decide) (by decide +kernel) rfl hM.obj rfl ?_
      refine J.topi (x' := nI n) ((P.1.trans (by rw [hP]))) ?_
      refine j_icmp_ge E (tgt := 92) dX7_isFound_18 (by decide) (fun c2 => ?_) (fun c2 => ?_)
      · exact last
      · rcases hz with ⟨rfl, rfl⟩ | ⟨rfl, rfl⟩
        · exact absurd (Int32.le_refl _) c2
        · exact absurd (by decide) c1
  refine j_iconst (x := nI 0) E dX7_isFound_0 (by decide) ?_
  refine j_istore_n E dX7_isFound_1 (by decide) ?_
  refine j_aload_n E dX7_isFound_2 rfl ?_
  refine j_getfield (ref := "ColourPartsModel") (C := RX7) (T := TX7) (N := 27) (ci := 8) E 16 dX7_isFound_3 iw_X7_isFound_X7 rfl (by decide) (by decide +kernel) rfl hM.obj rfl ?_
  refine j_iconst (x := nI 0) E dX7_isFound_6 (by decide) ?_
  refine j_iconst (x := (-1)) E dX7_isFound_7 (by decide) ?_
  refine j_iastore E 0 dX7_isFound_8 (hM.gI 16 13 (by decide)) rfl (by omega) (by omega) ?_
  refine MR.gen (hM.pI 16 13 _ (by decide)) (fun h hM => ?_)
  refine J.sub [(3, .int (nI 0)), (2, .int (nI most)), (1, .int (nI many)), (0, .ref m)] ⟨rfl, rfl, rfl, rfl, trivial⟩ ?_
  refine dfs n 0 (by omega) (fun _ => 0) _ _ hM (fun i hi => absurd hi (Nat.not_lt_zero _)) upd_eq (fun nof h f hM hf => ?_) (fun w1 _ h2 h3 h f hM hf => ?_)
  · refine fin _ 0 h f hM (Or.inr ⟨rfl, rfl⟩) (Or.inl ⟨fun w hv => nof w (fun i hi => absurd hi (Nat.not_lt_zero _)) (fun j _ hj => hv j (by omega)), rfl⟩)
  · refine fin _ 1 h f hM (Or.inl ⟨rfl, rfl⟩) (Or.inr ⟨w1, fun j hj => h2 j (Nat.zero_le _) (by omega), fun v hv => h3 v (fun i hi => absurd hi (Nat.not_lt_zero _)) (fun j _ hj => hv j (by omega)), rfl, hf⟩)
end M10
