/-! the ring -/
section M12
variable {l : Launch} {B E0 : Nat} {D : va_G} {h0 h : HM} {m : Nat} {a : Nat → Nat} {d : Int} {s : Nat → Int32} {I : Nat → Nat → Int32} {G : Nat → Nat → Int64} {ss : List SH} {kp : Option KPs} {rg : List Nat} {cl : Prop}
theorem iw_X7_isRing_X7 : ∀ w ∈ u_ws RX7 TX7 27, w ∈ wsX7_isRing := by decide +kernel
theorem m_isRing (v : Nat) (hM : MR h0 h m a (lZ d) s I G) (P : MP d ss s I) (hw : wfSS ss) {n : Nat} (hn1 : 1 ≤ n ∧ n ≤ 12) : CM l B E0 D yX7_isRing wsX7_isRing (v + 2) 0 0 [.ref m, .int (nI n)] h (fun r h1 => ∃ f, MR h0 h1 m a (lZ d) s (uA I 23 f) G ∧ (((∀ w, ¬ WR d ss n w) ∧ r = some (.int 0)) ∨ ∃ w, WR d ss n w ∧ (∀ v, WR d ss n v → lexL n w v) ∧ r = some (.int 1) ∧ ∀ i, i < n → f i = nI (w i))) := by
  have hl := hw.1
  have ht := hw.2.1
  refine CM.of (cc := cX7_isRing) (maxL := 3) (ret := (some .boolean)) (by decide) rfl (Nat.le_of_ble_eq_true rfl) (fun X E hin => ?_)
  show J X B D 3 _ h 0 0 0 [(0, .ref m), (1, .int (nI n))] []
  generalize hQ : jQ X B D _ _ _ = Q
  have dfs : ∀ (r k : Nat), k + r = n → ∀ (w : Nat → Nat) (h : HM) (f : Nat → Int32), MR h0 h m a (lZ d) s (uA I 23 f) G → (∀ i, i < k → f i = nI (w i) ∧ w i < tS ss ss.length) → f k = nI 0 + Int32.ofInt (-1) →
      ((∀ w1, (∀ i, i < k → w1 i = w i) → ¬ ∀ j, k ≤ j → j < n → okR d ss n w1 j) → ∀ (h : HM) (f : Nat → Int32), MR h0 h m a (lZ d) s (uA I 23 f) G → (∀ i, i < k → f i = nI (w i)) → J X B D 3 Q h 0 0 9 [(2, .int (nI k + Int32.ofInt (-1))), (1, .int (nI n)), (0, .ref m)] []) →
      (∀ w1, (∀ i, i < k → w1 i = w i) → (∀ j, k ≤ j → j < n → okR d ss n w1 j) → (∀ w2, (∀ i, i < k → w2 i = w i) → (∀ j, k ≤ j → j < n → okR d ss n w2 j) → lexL n w1 w2) → ∀ (h : HM) (f : Nat → Int32), MR h0 h m a (lZ d) s (uA I 23 f) G → (∀ i, i < n → f i = nI (w1 i)) → J X B D 3 Q h 0 0 9 [(2, .int (nI n)), (1, .int (nI n)), (0, .ref m)] []) →
      J X B D 3 Q h 0 0 9 [(2, .int (nI k)), (1, .int (nI n)), (0, .ref m)] [] := by
    intro r
    induction r with
    | zero =>
      intro k hk w h f hM hf hfk fail succ
      rw [show k = n by omega]
      refine succ w (fun _ _ => rfl) (fun j h1 h2 => by omega) (fun w2 h1 _ => Or.inl (fun i hi => (h1 i (by omega)).symm)) h f hM (fun i hi => (hf i (by omega)).1)
    | succ r ih =>
      intro k hk w h f hM hf hfk fail succ
      have hw100 : ∀ i, i < k → w i < tS ss ss.length := fun i hi => (hf i hi).2
      have up : ∀ (h : HM) (f g : Nat → Int32), MR h0 h m a (lZ d) s (uA (uA I 23 f) 23 g) G → MR h0 h m a (lZ d) s (uA I 23 g) G := fun h f g hM => by rw [uA_uA] at hM; exact hM
      have head : ∀ (x : Nat) (z : Int32), z + nI 1 = nI x → ∀ (h : HM) (f : Nat → Int32), MR h0 h m a (lZ d) s (uA I 23 f) G → (∀ i, i < k → f i = nI (w i)) → f k = z → (∀ (h : HM) (f : Nat → Int32), MR h0 h m a (lZ d) s (uA I 23 f) G → (∀ i, i < k → f i = nI (w i)) → f k = nI x → J X B D 3 Q h 0 0 28 [(2, .int (nI k)), (1, .int (nI n)), (0, .ref m)] []) → J X B D 3 Q h 0 0 9 [(2, .int (nI k)), (1, .int (nI n)), (0, .ref m)] [] := by
        intro x z hz h f hM hf hfk kk
        refine j_iload_n E dX7_isRing_9 rfl ?_
        refine j_if_lt E (tgt := 95) dX7_isRing_10 (by decide) (fun c1 => ?_) (fun c1 => ?_)
        · exact absurd c1 (nI_pos (by omega))
        ·
          refine j_iload_n E dX7_isRing_13 rfl ?_
          refine j_iload_n E dX7_isRing_14 rfl ?_
          refine j_icmp_ge E (tgt := 95) dX7_isRing_15 (by decide) (fun c2 => ?_) (fun c2 => ?_)
          · exact absurd c2 (nI_ge (show k < n by omega) (by omega))
          ·
            refine j_aload_n E dX7_isRing_18 rfl ?_
            refine j_getfield (ref := "ColourPartsModel") (C := RX7) (T := TX7) (N := 27) (ci := 8) E 23 dX7_isRing_19 iw_X7_isRing_X7 rfl (by decide) (by decide +kernel) rfl hM.obj rfl ?_
            refine j_iload_n E dX7_isRing_22 rfl ?_
            refine j_dup2 E dX7_isRing_23 rfl rfl ?_
            refine j_iaload E k dX7_isRing_24 (hM.gI 23 13 (by decide)) rfl (by omega) (by omega) ?_
            refine J.topi (x' := z) (hfk) ?_
            refine j_iconst (x := nI 1) E dX7_isRing_25 (by decide) ?_
            refine j_iadd E dX7_isRing_26 ?_
            refine J.topi (x' := nI x) (hz) ?_
            refine j_iastore E k dX7_isRing_27 (hM.gI 23 13 (by decide)) rfl (by omega) (by omega) ?_
            refine MR.gen (hM.pI 23 13 _ (by decide)) (fun h hM => ?_)
            exact kk _ _ (up _ _ _ hM) (fun i hi => (upd_ne (by omega)).trans (hf i hi)) upd_eq
      have at31 : ∀ (t x : Nat), x + t = tS ss ss.length → ∀ (h : HM) (f : Nat → Int32), MR h0 h m a (lZ d) s (uA I 23 f) G → (∀ i, i < k → f i = nI (w i)) → f k = nI x → (∀ w1, (∀ i, i < k → w1 i = w i) → w1 k < x → ¬ ∀ j, k ≤ j → j < n → okR d ss n w1 j) → J X B D 3 Q h 0 0 28 [(2, .int (nI k)), (1, .int (nI n)), (0, .ref m)] [] := by
        intro t
        induction t with
        | zero =>
          intro x hx h f hM hf hfk hno
          refine j_aload_n E dX7_isRing_28 rfl ?_
          refine j_getfield (ref := "ColourPartsModel") (C := RX7) (T := TX7) (N := 27) (ci := 8) E 23 dX7_isRing_29 iw_X7_isRing_X7 rfl (by decide) (by decide +kernel) rfl hM.obj rfl ?_
          refine j_iload_n E dX7_isRing_32 rfl ?_
          refine j_iaload E k dX7_isRing_33 (hM.gI 23 13 (by decide)) rfl (by omega) (by omega) ?_
          refine J.topi (x' := nI x) (hfk) ?_
          refine j_aload_n E dX7_isRing_34 rfl ?_
          refine j_getfield (ref := "ColourPartsModel") (C := RX7) (T := TX7) (N := 27) (ci := 8) E 10 dX7_isRing_35 iw_X7_isRing_X7 rfl (by decide) (by decide +kernel) rfl hM.obj rfl ?_
          refine J.topi (x' := nI (tS ss ss.length)) (P.1) ?_
          refine j_icmp_ge E (tgt := 63) dX7_isRing_38 (by decide) (fun c1 => ?_) (fun c1 => ?_)
          ·
            refine j_aload_n E dX7_isRing_63 rfl ?_
            refine j_getfield (ref := "ColourPartsModel") (C := RX7) (T := TX7) (N := 27) (ci := 8) E 23 dX7_isRing_64 iw_X7_isRing_X7 rfl (by decide) (by decide +kernel) rfl hM.obj rfl ?_
            refine j_iload_n E dX7_isRing_67 rfl ?_
            refine j_iaload E k dX7_isRing_68 (hM.gI 23 13 (by decide)) rfl (by omega) (by omega) ?_
            refine J.topi (x' := nI x) (hfk) ?_
            refine j_aload_n E dX7_isRing_69 rfl ?_
            refine j_getfield (ref := "ColourPartsModel") (C := RX7) (T := TX7) (N := 27) (ci := 8) E 10 dX7_isRing_70 iw_X7_isRing_X7 rfl (by decide) (by decide +kernel) rfl hM.obj rfl ?_
            refine J.topi (x' := nI (tS ss ss.length)) (P.1) ?_
            refine j_icmp_ne E (tgt := 82) dX7_isRing_73 (by decide) (fun c2 => ?_) (fun c2 => ?_)
            · exact absurd (by rw [show x = tS ss ss.length by omega]) c2
            ·
              refine j_iinc E dX7_isRing_76 rfl rfl (by decide) ?_
              refine j_goto E (tgt := 9) dX7_isRing_79 (by decide) ?_
              refine J.sub [(2, .int (nI k + Int32.ofInt (-1))), (1, .int (nI n)), (0, .ref m)] ⟨rfl, rfl, rfl, trivial⟩ ?_
              exact fail (fun w1 h1 h2 => hno w1 h1 (by have := (h2 k (Nat.le_refl _) (by omega)).1; omega) h2) h f hM hf
          · exact absurd (nI_le (show tS ss ss.length ≤ x by omega) (by omega)) c1
        | succ t ih2 =>
          intro x hx h f hM hf hfk hno
          have hc : ∀ i, i < k + 1 → uA I 23 f 23 i = nI (updN w k x i) ∧ updN w k x i < tS ss ss.length := by
            intro i hi
            rw [uA_eq]
            by_cases e : i = k
            · rw [e, updN_eq]; exact ⟨hfk, by omega⟩
            · rw [updN_ne e]; exact ⟨hf i (by omega), hw100 i (by omega)⟩
          have hcg : ∀ w1 : Nat → Nat, (∀ i, i < k → w1 i = w i) → w1 k = x → ∀ i, i < k + 1 → updN w k x i = w1 i := by
            intro w1 h1 h2 i hi
            by_cases e : i = k
            · rw [e, updN_eq, h2]
            · rw [updN_ne e, h1 i (by omega)]
          refine j_aload_n E dX7_isRing_28 rfl ?_
          refine j_getfield (ref := "ColourPartsModel") (C := RX7) (T := TX7) (N := 27) (ci := 8) E 23 dX7_isRing_29 iw_X7_isRing_X7 rfl (by decide) (by decide +kernel) rfl hM.obj rfl ?_
          refine j_iload_n E dX7_isRing_32 rfl ?_
          refine j_iaload E k dX7_isRing_33 (hM.gI 23 13 (by decide)) rfl (by omega) (by omega) ?_
          refine J.topi (x' := nI x) (hfk) ?_
          refine j_aload_n E dX7_isRing_34 rfl ?_
          refine j_getfield (ref := "ColourPartsModel") (C := RX7) (T := TX7) (N := 27) (ci := 8) E 10 dX7_isRing_35 iw_X7_isRing_X7 rfl (by decide) (by decide +kernel) rfl hM.obj rfl ?_
          refine J.topi (x' := nI (tS ss ss.length)) (P.1) ?_
          refine j_icmp_ge E (tgt := 63) dX7_isRing_38 (by decide) (fun c1 => ?_) (fun c1 => ?_)
          · exact absurd c1 (nI_ge (show x < tS ss ss.length by omega) (by omega))
          ·
            refine j_aload_n E dX7_isRing_41 rfl ?_
            refine j_iload_n E dX7_isRing_42 rfl ?_
            refine j_iload_n E dX7_isRing_43 rfl ?_
            refine j_callV (np := 2) (C := RX7) (T := TX7) (N := 27) (ci := 8) E (m_isStep v hM (P.keep rfl ⟨rfl, rfl, rfl⟩) hw (show 1 ≤ n ∧ n ≤ 12 by omega) (show k < n by omega) hc) gX7_isRing_X7_isStep rfl ⟨rfl, by decide, by decide, by decide +kernel⟩ dX7_isRing_44 (by omega) (by decide) rfl hM.obj rfl rfl (Nat.le_of_ble_eq_true rfl) (by omega) (by omega) (fun r9 h9 p9 => J.pure p9 ?_)
            refine J.wide (k' := 0) (n' := 0) (by omega) (by omega) ?_
            refine j_if_ne E (tgt := 63) dX7_isRing_47 (by decide) (fun c2 => ?_) (fun c2 => ?_)
            · have fk := bI_n.mp c2
              refine j_aload_n E dX7_isRing_63 rfl ?_
              refine j_getfield (ref := "ColourPartsModel") (C := RX7) (T := TX7) (N := 27) (ci := 8) E 23 dX7_isRing_64 iw_X7_isRing_X7 rfl (by decide) (by decide +kernel) rfl hM.obj rfl ?_
              refine j_iload_n E dX7_isRing_67 rfl ?_
              refine j_iaload E k dX7_isRing_68 (hM.gI 23 13 (by decide)) rfl (by omega) (by omega) ?_
              refine J.topi (x' := nI x) (hfk) ?_
              refine j_aload_n E dX7_isRing_69 rfl ?_
              refine j_getfield (ref := "ColourPartsModel") (C := RX7) (T := TX7) (N := 27) (ci := 8) E 10 dX7_isRing_70 iw_X7_isRing_X7 rfl (by decide) (by decide +kernel) rfl hM.obj rfl ?_
              refine J.topi (x' := nI (tS ss ss.length)) (P.1) ?_
              refine j_icmp_ne E (tgt := 82) dX7_isRing_73 (by decide) (fun c3 => ?_) (fun c3 => ?_)
              ·
                refine j_iinc E dX7_isRing_82 rfl (nI_1 k) (by decide) ?_
                refine j_aload_n E dX7_isRing_85 rfl ?_
                refine j_getfield (ref := "ColourPartsModel") (C := RX7) (T := TX7) (N := 27) (ci := 8) E 23 dX7_isRing_86 iw_X7_isRing_X7 rfl (by decide) (by decide +kernel) rfl hM.obj rfl ?_
                refine j_iload_n E dX7_isRing_89 rfl ?_
                refine j_iconst (x := (-1)) E dX7_isRing_90 (by decide) ?_
                refine j_iastore E (k + 1) dX7_isRing_91 (hM.gI 23 13 (by decide)) rfl (by omega) (by omega) ?_
                refine MR.gen (hM.pI 23 13 _ (by decide)) (fun h hM => ?_)
                refine j_goto E (tgt := 9) dX7_isRing_92 (by decide) ?_
                refine J.sub [(2, .int (nI (k + 1))), (1, .int (nI n)), (0, .ref m)] ⟨rfl, rfl, rfl, trivial⟩ ?_
                have ext : ∀ w1 : Nat → Nat, (∀ i, i < k + 1 → w1 i = updN w k x i) → (∀ i, i < k → w1 i = w i) ∧ w1 k = x := fun w1 h1 => ⟨fun i hi => by rw [h1 i (by omega), updN_ne (by omega)], by rw [h1 k (by omega), updN_eq]⟩
                refine ih (k + 1) (by omega) (updN w k x) _ _ (up _ _ _ hM) (fun i hi => ?_) upd_eq (fun nof h f hM hf => ?_) (fun w1 h1 h2 h3 h f hM hf => ?_)
                · refine ⟨?_, (hc i hi).2⟩
                  exact (upd_ne (by omega)).trans (hc i hi).1
                · refine J.sub [(2, .int (nI k)), (1, .int (nI n)), (0, .ref m)] ⟨congrArg (fun z => some (Value.int z)) (nI_m1 k), rfl, rfl, trivial⟩ ?_
                  refine head (x + 1) (nI x) (nI_1 x) h f hM (fun i hi => by rw [hf i (by omega), updN_ne (by omega)]) (by rw [hf k (by omega), updN_eq]) (fun h f hM hf hfk => ?_)
                  refine ih2 (x + 1) (by omega) h f hM hf hfk (fun w1 h1 h2 h3 => ?_)
                  by_cases e : w1 k < x
                  · exact hno w1 h1 e h3
                  · have e2 : w1 k = x := by omega
                    exact nof w1 (fun i hi => (hcg w1 h1 e2 i hi).symm) (fun j h4 h5 => h3 j (by omega) h5)
                · obtain ⟨h4, h5⟩ := ext w1 h1
                  have ok : okR d ss n w1 k := ⟨by omega, (stepW_congr (hcg w1 h4 h5)).mp fk⟩
                  refine succ w1 h4 (fun j h6 h7 => ?_) (fun w2 h6 h7 => ?_) h f hM hf
                  · by_cases e : j = k
                    · rw [e]; exact ok
                    · exact h2 j (by omega) h7
                  · by_cases e : w2 k < x
                    · exact absurd h7 (hno w2 h6 e)
                    · by_cases e2 : w2 k = x
                      · exact h3 w2 (fun i hi => (hcg w2 h6 e2 i hi).symm) (fun j h8 h9 => h7 j (by omega) h9)
                      · exact Or.inr ⟨k, by omega, fun j hj => by rw [h4 j hj, h6 j hj], by omega⟩
              · exact absurd (show nI x = nI (tS ss ss.length) from c3) (fun z => by have := (nI_eq (show x < 2 ^ 31 by omega) (by omega)).mp z; omega)
            · have nf := bI_z.mp c2
              refine j_aload_n E dX7_isRing_50 rfl ?_
              refine j_getfield (ref := "ColourPartsModel") (C := RX7) (T := TX7) (N := 27) (ci := 8) E 23 dX7_isRing_51 iw_X7_isRing_X7 rfl (by decide) (by decide +kernel) rfl hM.obj rfl ?_
              refine j_iload_n E dX7_isRing_54 rfl ?_
              refine j_dup2 E dX7_isRing_55 rfl rfl ?_
              refine j_iaload E k dX7_isRing_56 (hM.gI 23 13 (by decide)) rfl (by omega) (by omega) ?_
              refine J.topi (x' := nI x) (hfk) ?_
              refine j_iconst (x := nI 1) E dX7_isRing_57 (by decide) ?_
              refine j_iadd E dX7_isRing_58 ?_
              refine J.topi (x' := nI (x + 1)) (nI_1 x) ?_
              refine j_iastore E k dX7_isRing_59 (hM.gI 23 13 (by decide)) rfl (by omega) (by omega) ?_
              refine MR.gen (hM.pI 23 13 _ (by decide)) (fun h hM => ?_)
              refine j_goto E (tgt := 28) dX7_isRing_60 (by decide) ?_
              refine ih2 (x + 1) (by omega) _ _ (up _ _ _ hM) (fun i hi => (upd_ne (by omega)).trans (hf i hi)) upd_eq (fun w1 h1 h2 h3 => ?_)
              by_cases e : w1 k < x
              · exact hno w1 h1 e h3
              · exact nf ((stepW_congr (hcg w1 h1 (by omega))).mpr (h3 k (Nat.le_refl _) (by omega)).2)
      exact head 0 _ rfl h f hM (fun i hi => (hf i hi).1) hfk (fun h f hM hf hfk => at31 (tS ss ss.length) 0 (by omega) h f hM hf hfk (fun w1 h1 h2 => absurd h2 (Nat.not_lt_zero _)))
  have fin : ∀ (z x : Int32) (h : HM) (f : Nat → Int32), MR h0 h m a (lZ d) s (uA I 23 f) G → ((z = nI n ∧ x = 1) ∨ (z = -1 ∧ x = 0)) → (((∀ w, ¬ WR d ss n w) ∧ some (Value.int x) = some (.int 0)) ∨ ∃ w, WR d ss n w ∧ (∀ v, WR d ss n v → lexL n w v) ∧ some (Value.int x) = some (.int 1) ∧ ∀ i, i < n → f i = nI (w i)) → J X B D 3 Q h 0 0 9 [(2, .int z), (1, .int (nI n)), (0, .ref m)] [] := by
    intro z x h f hM hz hp
    have last : J X B D 3 Q h 0 0 95 [(2, .int z), (1, .int (nI n)), (0, .ref m)] [] := by
      refine j_iload_n E dX7_isRing_95 rfl ?_
      refine j_iload_n E dX7_isRing_96 rfl ?_
      rcases hz with ⟨rfl, rfl⟩ | ⟨rfl, rfl⟩
      ·
        refine j_icmp_ne E (tgt := 104) dX7_isRing_97 (by decide) (fun c3 => ?_) (fun c3 => ?_)
        · exact absurd rfl c3
        ·
          refine j_iconst (x := nI 1) E dX7_isRing_100 (by decide) ?_
          refine j_goto E (tgt := 105) dX7_isRing_101 (by decide) ?_
          rw [← hQ]
          exact j_iret E dX7_isRing_105 rfl rfl (by omega) (by omega) ⟨f, hM, hp⟩
      ·
        refine j_icmp_ne E (tgt := 104) dX7_isRing_97 (by decide) (fun c3 => ?_) (fun c3 => ?_)
        ·
          refine j_iconst (x := nI 0) E dX7_isRing_104 (by decide) ?_
          rw [← hQ]
          exact j_iret E dX7_isRing_105 rfl rfl (by omega) (by omega) ⟨f, hM, hp⟩
        · exact absurd (show (-1 : Int32) = nI n from c3) (fun e => nI_pos (n := n) (by omega) (e ▸ (by decide : (-1 : Int32) < 0)))
    refine j_iload_n E dX7_isRing_9 rfl ?_
    refine j_if_lt E (tgt := 95) dX7_isRing_10 (by decide) (fun c1 => ?_) (fun c1 => ?_)
    · exact last
    ·
      refine j_iload_n E dX7_isRing_13 rfl ?_
      refine j_iload_n E dX7_isRing_14 rfl ?_
      refine j_icmp_ge E (tgt := 95) dX7_isRing_15 (by decide) (fun c2 => ?_) (fun c2 => ?_)
      · exact last
      · rcases hz with ⟨rfl, rfl⟩ | ⟨rfl, rfl⟩
        · exact absurd (Int32.le_refl _) c2
        · exact absurd (by decide) c1
  refine j_iconst (x := nI 0) E dX7_isRing_0 (by decide) ?_
  refine j_istore_n E dX7_isRing_1 (by decide) ?_
  refine j_aload_n E dX7_isRing_2 rfl ?_
  refine j_getfield (ref := "ColourPartsModel") (C := RX7) (T := TX7) (N := 27) (ci := 8) E 23 dX7_isRing_3 iw_X7_isRing_X7 rfl (by decide) (by decide +kernel) rfl hM.obj rfl ?_
  refine j_iconst (x := nI 0) E dX7_isRing_6 (by decide) ?_
  refine j_iconst (x := (-1)) E dX7_isRing_7 (by decide) ?_
  refine j_iastore E 0 dX7_isRing_8 (hM.gI 23 13 (by decide)) rfl (by omega) (by omega) ?_
  refine MR.gen (hM.pI 23 13 _ (by decide)) (fun h hM => ?_)
  refine J.sub [(2, .int (nI 0)), (1, .int (nI n)), (0, .ref m)] ⟨rfl, rfl, rfl, trivial⟩ ?_
  refine dfs n 0 (by omega) (fun _ => 0) _ _ hM (fun i hi => absurd hi (Nat.not_lt_zero _)) upd_eq (fun nof h f hM hf => ?_) (fun w1 _ h2 h3 h f hM hf => ?_)
  · refine fin _ 0 h f hM (Or.inr ⟨rfl, rfl⟩) (Or.inl ⟨fun w hv => nof w (fun i hi => absurd hi (Nat.not_lt_zero _)) (fun j _ hj => hv j (by omega)), rfl⟩)
  · refine fin _ 1 h f hM (Or.inl ⟨rfl, rfl⟩) (Or.inr ⟨w1, fun j hj => h2 j (Nat.zero_le _) (by omega), fun v hv => h3 v (fun i hi => absurd hi (Nat.not_lt_zero _)) (fun j _ hj => hv j (by omega)), rfl, hf⟩)
end M12
