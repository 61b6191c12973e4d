/-! new Colouring(pieces, colours, usedInAll) -/
section C36
variable {l : Launch} {B E0 : Nat} {D : va_G} {h h0 : HM} {ps row re : Nat} {pg : List PG} {o : Nat → Nat} {t : Nat → Int} {bb : Nat → List BB} {N : Nat → Nat → Prop}
theorem iw_X1_init_X1 : ∀ w ∈ u_ws RX1 TX1 6, w ∈ wsX1_init := by decide +kernel
theorem c_colouringInit (v : Nat) (R : PSR E0 h0 h ps row re pg o t bb N) {ko bq : Nat} {b : Nat → Int32} {u : Int32} (hko : h ko = some (hO 2 [.null, .null, .null, .null, .null, .int 0])) (hbq : h bq = some (hI 12 b)) (kp : KPs) (hkl : kp.length = pg.length) (hk : ∀ p, p < pg.length → kS kp p = o p ∧ b p = nI (kC kp p) ∧ kC kp p < 4 ∧ kA kp p = areaL (bb p) (bb p).length) (hb : ∀ p, p < pg.length → (bb p).length < 12) (ho : ∀ p, p < pg.length → o p < 10) (hm : ∀ i j, i ≤ j → j < pg.length → o i ≤ o j) : CM l B E0 D yX1_init wsX1_init (v + 6) 5 38 [.ref ko, .ref ps, .ref bq, .int u] h (fun r h1 => r = none ∧ ∃ k f0 f1 f2 f3 f4, KO h1 ko k u f0 f1 f2 f3 f4 ∧ KV1 kp kp.length f0 f1 f2 ∧ KV2 kp kp.length f3 f4 ∧ (∀ i, i < 5 → h (k i) = none) ∧ FR h h1 (fun z => z = ko)) := by
  have h12 := R.2.2.2.1
  have hm2 : ∀ i j, i ≤ j → j < kp.length → kS kp i ≤ kS kp j := fun i j h1 h2 => by
    rw [(hk i (by omega)).1, (hk j (by omega)).1]; exact hm i j h1 (by omega)
  refine CM.of (cc := cX1_init) (maxL := 5) (ret := none) (by decide) rfl (Nat.le_of_ble_eq_true rfl) (fun X E hin => ?_)
  show J X B D 5 _ h 0 0 0 [(0, .ref ko), (1, .ref ps), (2, .ref bq), (3, .int u)] []
  generalize hQ : jQ X B D _ _ _ = Q
  have hM0 : MG h h ko 2 [.null, .null, .null, .null, .null, .int 0] [] := ⟨fun e => (by rw [hko] at e; cases e), hko, fun p hp => (List.not_mem_nil hp).elim, List.Pairwise.nil, fun _ _ _ => rfl⟩
  refine MG.gen hM0 (fun h1 hM => ?_)
  refine j_aload_n E dX1_init_0 rfl ?_
  refine j_objInit E dX1_init_1 (by decide +kernel) (by decide +kernel) (by decide +kernel) (by omega) (Nat.le_of_ble_eq_true rfl) ?_
  refine j_aload_n E dX1_init_4 rfl ?_
  refine j_bipush (x := nI 10) E dX1_init_5 (by decide) ?_
  refine j_newI E 10 dX1_init_7 (by decide +kernel) rfl (by omega) (by omega) (by omega) (fun q7 nq7 bq7 => ?_)
  refine MG.gen (hM.new nq7) (fun h1 hM => ?_)
  clear nq7 bq7
  refine j_putfin (C := RX1) (T := TX1) (N := 6) (ci := 2) E 0 dX1_init_9 iw_X1_init_X1 tyX1 tyX1_ok nmX1 rfl (by decide) (by decide +kernel) rfl rfl hin rfl rfl rfl hM.obj (Nat.le_of_ble_eq_true rfl) ?_
  refine MG.gen (hM.set [.ref q7, .null, .null, .null, .null, .int 0]) (fun h1 hM => ?_)
  refine j_aload_n E dX1_init_12 rfl ?_
  refine j_bipush (x := nI 10) E dX1_init_13 (by decide) ?_
  refine j_newI E 10 dX1_init_15 (by decide +kernel) rfl (by omega) (by omega) (by omega) (fun q15 nq15 bq15 => ?_)
  refine MG.gen (hM.new nq15) (fun h1 hM => ?_)
  clear nq15 bq15
  refine j_putfin (C := RX1) (T := TX1) (N := 6) (ci := 2) E 1 dX1_init_17 iw_X1_init_X1 tyX1 tyX1_ok nmX1 rfl (by decide) (by decide +kernel) rfl rfl hin rfl rfl rfl hM.obj (Nat.le_of_ble_eq_true rfl) ?_
  refine MG.gen (hM.set [.ref q7, .ref q15, .null, .null, .null, .int 0]) (fun h1 hM => ?_)
  refine j_aload_n E dX1_init_20 rfl ?_
  refine j_bipush (x := nI 10) E dX1_init_21 (by decide) ?_
  refine j_newI E 10 dX1_init_23 (by decide +kernel) rfl (by omega) (by omega) (by omega) (fun q23 nq23 bq23 => ?_)
  refine MG.gen (hM.new nq23) (fun h1 hM => ?_)
  clear nq23 bq23
  refine j_putfin (C := RX1) (T := TX1) (N := 6) (ci := 2) E 2 dX1_init_25 iw_X1_init_X1 tyX1 tyX1_ok nmX1 rfl (by decide) (by decide +kernel) rfl rfl hin rfl rfl rfl hM.obj (Nat.le_of_ble_eq_true rfl) ?_
  refine MG.gen (hM.set [.ref q7, .ref q15, .ref q23, .null, .null, .int 0]) (fun h1 hM => ?_)
  refine j_aload_n E dX1_init_28 rfl ?_
  refine j_iconst (x := nI 4) E dX1_init_29 (by decide) ?_
  refine j_newI E 4 dX1_init_30 (by decide +kernel) rfl (by omega) (by omega) (by omega) (fun q30 nq30 bq30 => ?_)
  refine MG.gen (hM.new nq30) (fun h1 hM => ?_)
  clear nq30 bq30
  refine j_putfin (C := RX1) (T := TX1) (N := 6) (ci := 2) E 3 dX1_init_32 iw_X1_init_X1 tyX1 tyX1_ok nmX1 rfl (by decide) (by decide +kernel) rfl rfl hin rfl rfl rfl hM.obj (Nat.le_of_ble_eq_true rfl) ?_
  refine MG.gen (hM.set [.ref q7, .ref q15, .ref q23, .ref q30, .null, .int 0]) (fun h1 hM => ?_)
  refine j_aload_n E dX1_init_35 rfl ?_
  refine j_iconst (x := nI 4) E dX1_init_36 (by decide) ?_
  refine j_newJ E 4 dX1_init_37 (by decide +kernel) rfl (by omega) (by omega) (by omega) (fun q37 nq37 bq37 => ?_)
  refine MG.gen (hM.new nq37) (fun h1 hM => ?_)
  clear nq37 bq37
  refine j_putfin (C := RX1) (T := TX1) (N := 6) (ci := 2) E 4 dX1_init_39 iw_X1_init_X1 tyX1 tyX1_ok nmX1 rfl (by decide) (by decide +kernel) rfl rfl hin rfl rfl rfl hM.obj (Nat.le_of_ble_eq_true rfl) ?_
  refine MG.gen (hM.set [.ref q7, .ref q15, .ref q23, .ref q30, .ref q37, .int 0]) (fun h1 hM => ?_)
  refine j_aload_n E dX1_init_42 rfl ?_
  refine j_iload_n E dX1_init_43 rfl ?_
  refine j_putfin (C := RX1) (T := TX1) (N := 6) (ci := 2) E 5 dX1_init_44 iw_X1_init_X1 tyX1 tyX1_ok nmX1 rfl (by decide) (by decide +kernel) rfl rfl hin rfl rfl rfl hM.obj (Nat.le_of_ble_eq_true rfl) ?_
  refine MG.gen (hM.set [.ref q7, .ref q15, .ref q23, .ref q30, .ref q37, .int u]) (fun h1 hM => ?_)
  refine J.wide (k' := 5) (n' := 38) (by omega) (by omega) ?_
  generalize hq : (fun i => [q7, q15, q23, q30, q37].getD i 0 : Nat → Nat) = k
  have e0 : k 0 = q7 := by rw [← hq]; rfl
  have e1 : k 1 = q15 := by rw [← hq]; rfl
  have e2 : k 2 = q23 := by rw [← hq]; rfl
  have e3 : k 3 = q30 := by rw [← hq]; rfl
  have e4 : k 4 = q37 := by rw [← hq]; rfl
  rw [← e0, ← e1, ← e2, ← e3, ← e4] at hM
  clear hq e0 e1 e2 e3 e4
  have hq0 : ∀ i, i < 5 → h (k i) = none := fun i h1 => by
    have : i = 0 ∨ i = 1 ∨ i = 2 ∨ i = 3 ∨ i = 4 := by omega
    rcases this with rfl | rfl | rfl | rfl | rfl
    · exact (hM.2.2.1 (k 0, hI 10 (fun _ => 0)) (by simp)).2
    · exact (hM.2.2.1 (k 1, hI 10 (fun _ => 0)) (by simp)).2
    · exact (hM.2.2.1 (k 2, hI 10 (fun _ => 0)) (by simp)).2
    · exact (hM.2.2.1 (k 3, hI 4 (fun _ => 0)) (by simp)).2
    · exact (hM.2.2.1 (k 4, hJ 4 (fun _ => 0)) (by simp)).2
  have hd : ∀ i j, i < 5 → j < 5 → i ≠ j → k i ≠ k j := by
    have pw := hM.2.2.2.1
    simp only [List.pairwise_cons, List.mem_cons, List.not_mem_nil, or_false, forall_eq_or_imp, forall_eq] at pw
    intro i j h1 h3 h5
    have hi : i = 0 ∨ i = 1 ∨ i = 2 ∨ i = 3 ∨ i = 4 := by omega
    have hj : j = 0 ∨ j = 1 ∨ j = 2 ∨ j = 3 ∨ j = 4 := by omega
    rcases hi with rfl | rfl | rfl | rfl | rfl <;> rcases hj with rfl | rfl | rfl | rfl | rfl <;> first | exact absurd rfl h5 | (intro e; simp [e] at pw) | (intro e; simp [← e] at pw)
  have K0 : KO h1 ko k u (fun _ => 0) (fun _ => 0) (fun _ => 0) (fun _ => 0) (fun _ => 0) := ⟨hM.obj, ⟨(hM.2.2.1 (k 0, hI 10 (fun _ => 0)) (by simp)).1, (hM.2.2.1 (k 1, hI 10 (fun _ => 0)) (by simp)).1, (hM.2.2.1 (k 2, hI 10 (fun _ => 0)) (by simp)).1, (hM.2.2.1 (k 3, hI 4 (fun _ => 0)) (by simp)).1, (hM.2.2.1 (k 4, hJ 4 (fun _ => 0)) (by simp)).1⟩, hd⟩
  have F0 : FR h h1 (fun z => z = ko) := fun z hz hz2 => hM.2.2.2.2 z hz2 (fun p hp e => hz (by rw [e]; exact (hM.2.2.1 p hp).2))
  clear hM
  have old : ∀ z, h z ≠ none → ∀ i, i < 5 → z ≠ k i := fun z hz i hi e => hz (by rw [e]; exact hq0 i hi)
  have nbq : bq ≠ ko := hm_ne hbq hko (by intro z; cases z)
  have hbn : h bq ≠ none := by rw [hbq]; intro w; cases w
  have PS : ∀ {h2 : HM}, FR h h2 (fun z => z = ko) → PSR E0 (fun z => if z = E0 then h E0 else none) h2 ps row re pg o t bb N := fun F => R.chg (fun z o h1 h2 => (F z (by rw [h1]; intro w; cases w) (fun e => by
    rw [e, hko] at h1
    rcases h2 with ⟨n2, f2, q⟩ | ⟨c, w, q, hc⟩
    · rw [q] at h1; cases h1
    · rw [q] at h1; cases h1; omega)).trans h1)
  have main : ∀ (u2 p : Nat) (h2 : HM) (f0 f1 f2 f3 : Nat → Int32) (f4 : Nat → Int64), p + u2 = pg.length → KO h2 ko k u f0 f1 f2 f3 f4 → KV1 kp p f0 f1 f2 → KV2 kp p f3 f4 → FR h h2 (fun z => z = ko) → J X B D 5 Q h2 5 38 74 [(4, .int (nI p)), (0, .ref ko), (1, .ref ps), (2, .ref bq)] [] := by
    intro u2
    induction u2 with
    | zero =>
      intro p h2 f0 f1 f2 f3 f4 hp K V1 V2 F
      have P := PS F
      have P1 := P.2.1
      refine j_iload E dX1_init_74 rfl ?_
      refine j_aload_n E dX1_init_76 rfl ?_
      refine j_callV (np := 0) (C := RX3) (T := TX3) (N := 1) (ci := 4) E (c_count (v + 3) P) gX1_init_X3_count rfl ⟨rfl, by decide, by decide, by decide +kernel⟩ dX1_init_77 (by omega) (by decide) rfl P1 rfl rfl (Nat.le_of_ble_eq_true rfl) (by omega) (by omega) (fun r9 h9 p9 => J.pure p9 ?_)
      refine J.wide (k' := 5) (n' := 38) (by omega) (by omega) ?_
      refine j_icmp_ge E (tgt := 164) dX1_init_80 (by decide) (fun c1 => ?_) (fun c1 => ?_)
      · rw [show p = kp.length by omega] at V1 V2
        rw [← hQ]
        exact j_vret E dX1_init_164 rfl (by omega) (by omega) ⟨rfl, k, f0, f1, f2, f3, f4, K, V1, V2, hq0, F⟩
      · exact absurd (nI_le (show pg.length ≤ p by omega) (by omega)) c1
    | succ u2 ih =>
      intro p h2 f0 f1 f2 f3 f4 hp K V1 V2 F
      have hpl : p < pg.length := by omega
      have P := PS F
      have P1 := P.2.1
      have hb2 := (F bq hbn nbq).trans hbq
      obtain ⟨k1, k2, k3, k4⟩ := hk p hpl
      have op := ho p hpl
      refine j_iload E dX1_init_74 rfl ?_
      refine j_aload_n E dX1_init_76 rfl ?_
      refine j_callV (np := 0) (C := RX3) (T := TX3) (N := 1) (ci := 4) E (c_count (v + 3) P) gX1_init_X3_count rfl ⟨rfl, by decide, by decide, by decide +kernel⟩ dX1_init_77 (by omega) (by decide) rfl P1 rfl rfl (Nat.le_of_ble_eq_true rfl) (by omega) (by omega) (fun r9 h9 p9 => J.pure p9 ?_)
      refine J.wide (k' := 5) (n' := 38) (by omega) (by omega) ?_
      refine j_icmp_ge E (tgt := 164) dX1_init_80 (by decide) (fun c1 => ?_) (fun c1 => ?_)
      · exact absurd c1 (nI_ge hpl (by omega))
      ·
        refine j_iload E dX1_init_83 rfl ?_
        refine j_aload_n E dX1_init_85 rfl ?_
        refine j_alen E dX1_init_86 hb2 ?_
        refine j_icmp_ge E (tgt := 164) dX1_init_87 (by decide) (fun c2 => ?_) (fun c2 => ?_)
        · exact absurd c2 (nI_ge (show p < 12 by omega) (by decide))
        ·
          refine j_aload_n E dX1_init_90 rfl ?_
          refine j_aload_n E dX1_init_91 rfl ?_
          refine j_iload E dX1_init_92 rfl ?_
          refine j_iaload E p dX1_init_94 hb2 rfl (by omega) (by omega) ?_
          refine J.topi (x' := nI (kC kp p)) (k2) ?_
          refine j_aload_n E dX1_init_95 rfl ?_
          refine j_iload E dX1_init_96 rfl ?_
          refine j_callV (np := 1) (C := RX3) (T := TX3) (N := 1) (ci := 4) E (c_areas v P hpl (hb p hpl)) gX1_init_X3_areas rfl ⟨rfl, by decide, by decide, by decide +kernel⟩ dX1_init_98 (by omega) (by decide) rfl P1 rfl rfl (Nat.le_of_ble_eq_true rfl) (by omega) (by omega) (fun r9 h9 p9 => J.pure p9 ?_)
          refine J.wide (k' := 5) (n' := 38) (by omega) (by omega) ?_
          refine J.topl (x' := lZ (kA kp p)) (by rw [k4]) ?_
          refine j_callV (np := 2) (C := RX1) (T := TX1) (N := 6) (ci := 2) E (c_weigh (v + 4) K k3 (kA kp p)) gX1_init_X1_weigh rfl ⟨rfl, by decide, by decide, by decide +kernel⟩ dX1_init_101 (by omega) (by decide) rfl K.1 rfl rfl (Nat.le_of_ble_eq_true rfl) (by omega) (by omega) (fun r h3 p3 => ?_)
          obtain ⟨rfl, rfl⟩ := p3
          refine J.wide (k' := 5) (n' := 38) (by omega) (by omega) ?_
          have K3 := K.p34 (upd f3 (kC kp p) (f3 (kC kp p) + nI 1)) (vp_updL f4 (kC kp p) (f4 (kC kp p) + lZ (kA kp p)))
          have V3 := V2.step k3
          have F3 : FR h (hput (hput h2 (k 3) (hI 4 (upd f3 (kC kp p) (f3 (kC kp p) + nI 1)))) (k 4) (hJ 4 (vp_updL f4 (kC kp p) (f4 (kC kp p) + lZ (kA kp p))))) (fun z => z = ko) := fun z hz hz2 => (hput_ne _ (old z hz 4 (by decide))).trans ((hput_ne _ (old z hz 3 (by decide))).trans (F z hz hz2))
          generalize hput (hput h2 (k 3) (hI 4 (upd f3 (kC kp p) (f3 (kC kp p) + nI 1)))) (k 4) (hJ 4 (vp_updL f4 (kC kp p) (f4 (kC kp p) + lZ (kA kp p)))) = h3 at K3 F3 ⊢
          generalize upd f3 (kC kp p) (f3 (kC kp p) + nI 1) = g3 at K3 V3
          generalize vp_updL f4 (kC kp p) (f4 (kC kp p) + lZ (kA kp p)) = g4 at K3 V3
          have P3 := PS F3
          have P31 := P3.2.1
          have hb3 := (F3 bq hbn nbq).trans hbq
          have next : ∀ (h4 : HM) (g0 g1 g2 : Nat → Int32), KO h4 ko k u g0 g1 g2 g3 g4 → KV1 kp (p + 1) g0 g1 g2 → FR h h4 (fun z => z = ko) → J X B D 5 Q h4 5 38 158 [(4, .int (nI p)), (0, .ref ko), (1, .ref ps), (2, .ref bq)] [] := by
            intro h4 g0 g1 g2 K4 W1 F4
            refine j_iinc E dX1_init_158 rfl (nI_1 p) (by decide) ?_
            refine j_goto E (tgt := 74) dX1_init_161 (by decide) ?_
            refine J.sub [(4, .int (nI (p + 1))), (0, .ref ko), (1, .ref ps), (2, .ref bq)] ⟨rfl, rfl, rfl, rfl, trivial⟩ ?_
            exact ih (p + 1) h4 g0 g1 g2 g3 g4 (by omega) K4 W1 V3 F4
          refine j_aload_n E dX1_init_104 rfl ?_
          refine j_iload E dX1_init_105 rfl ?_
          refine j_callV (np := 1) (C := RX3) (T := TX3) (N := 1) (ci := 4) E (c_isAfterStitch (v + 0) P3 hpl (fun p hp => by have := ho p hp; omega)) gX1_init_X3_isAfterStitch rfl ⟨rfl, by decide, by decide, by decide +kernel⟩ dX1_init_107 (by omega) (by decide) rfl P31 rfl rfl (Nat.le_of_ble_eq_true rfl) (by omega) (by omega) (fun r9 h9 p9 => J.pure p9 ?_)
          refine J.wide (k' := 5) (n' := 38) (by omega) (by omega) ?_
          refine j_if_eq E (tgt := 144) dX1_init_110 (by decide) (fun c3 => ?_) (fun c3 => ?_)
          · have na := bI_z.mp c3
            refine j_aload_n E dX1_init_144 rfl ?_
            refine j_aload_n E dX1_init_145 rfl ?_
            refine j_iload E dX1_init_146 rfl ?_
            refine j_callV (np := 1) (C := RX3) (T := TX3) (N := 1) (ci := 4) E (c_owner (v + 1) P3 hpl) gX1_init_X3_owner rfl ⟨rfl, by decide, by decide, by decide +kernel⟩ dX1_init_148 (by omega) (by decide) rfl P31 rfl rfl (Nat.le_of_ble_eq_true rfl) (by omega) (by omega) (fun r9 h9 p9 => J.pure p9 ?_)
            refine J.wide (k' := 5) (n' := 38) (by omega) (by omega) ?_
            refine j_aload_n E dX1_init_151 rfl ?_
            refine j_iload E dX1_init_152 rfl ?_
            refine j_iaload E p dX1_init_154 hb3 rfl (by omega) (by omega) ?_
            refine J.topi (x' := nI (kC kp p)) (k2) ?_
            refine j_callV (np := 2) (C := RX1) (T := TX1) (N := 6) (ci := 2) E (c_noteFirst (v + 4) K3 op _) gX1_init_X1_noteFirst rfl ⟨rfl, by decide, by decide, by decide +kernel⟩ dX1_init_155 (by omega) (by decide) rfl K3.1 rfl rfl (Nat.le_of_ble_eq_true rfl) (by omega) (by omega) (fun r h4 p4 => ?_)
            obtain ⟨rfl, rfl⟩ := p4
            refine J.wide (k' := 5) (n' := 38) (by omega) (by omega) ?_
            have W := V1.first hm2 (show p < kp.length by omega) (by
              rw [k1]
              rintro ⟨z1, z2⟩
              rw [(hk (p - 1) (by omega)).1] at z2
              exact na ⟨z1, z2⟩)
            rw [k1] at W
            exact next _ _ _ _ (K3.p0 _) W (fun z hz hz2 => (hput_ne _ (old z hz 0 (by decide))).trans (F3 z hz hz2))
          · obtain ⟨z1, z2⟩ := bI_n.mp c3
            obtain ⟨p1, rfl⟩ : ∃ p1, p = p1 + 1 := ⟨p - 1, by omega⟩
            obtain ⟨j1, j2, j3, j4⟩ := hk p1 (by omega)
            obtain ⟨n, n1, n2, n3, W⟩ := V1.stitch hm2 (show kp.length ≤ 12 by omega) (by rw [k1]; exact op) (show p1 + 1 < kp.length by omega) (Nat.succ_pos _) (by rw [k1]; exact z2.trans j1.symm)
            rw [k1] at n2 n3 W
            have fin : ∀ z : Prop, (z ↔ ¬ kC kp p1 = kC kp (p1 + 1)) → J X B D 5 Q h3 5 38 138 [(4, .int (nI (p1 + 1))), (0, .ref ko), (1, .ref ps), (2, .ref bq)] [.int (bI z), .int (nI (o (p1 + 1))), .ref ko] := by
              intro z hz
              refine j_callV (np := 2) (C := RX1) (T := TX1) (N := 6) (ci := 2) E (c_noteStitch (v + 4) K3 op z n2 n3 (by omega)) gX1_init_X1_noteStitch rfl ⟨rfl, by decide, by decide, by decide +kernel⟩ dX1_init_138 (by omega) (by decide) rfl K3.1 rfl rfl (Nat.le_of_ble_eq_true rfl) (by omega) (by omega) (fun r h4 p4 => ?_)
              obtain ⟨rfl, rfl⟩ := p4
              refine J.wide (k' := 5) (n' := 38) (by omega) (by omega) ?_
              rw [show (fun i => stU kp (p1 + 1) (o (p1 + 1)) i ∨ (i = n ∧ z)) = (fun i => stU kp (p1 + 1) (o (p1 + 1)) i ∨ (i = n ∧ ¬ kC kp p1 = kC kp (p1 + 1))) from funext (fun i => by rw [propext hz])]
              refine j_goto E (tgt := 158) dX1_init_141 (by decide) ?_
              exact next _ _ _ _ (K3.p12 _ _) W (fun z hz hz2 => (hput_ne _ (old z hz 1 (by decide))).trans ((hput_ne _ (old z hz 2 (by decide))).trans (F3 z hz hz2)))
            refine j_aload_n E dX1_init_113 rfl ?_
            refine j_aload_n E dX1_init_114 rfl ?_
            refine j_iload E dX1_init_115 rfl ?_
            refine j_callV (np := 1) (C := RX3) (T := TX3) (N := 1) (ci := 4) E (c_owner (v + 1) P3 hpl) gX1_init_X3_owner rfl ⟨rfl, by decide, by decide, by decide +kernel⟩ dX1_init_117 (by omega) (by decide) rfl P31 rfl rfl (Nat.le_of_ble_eq_true rfl) (by omega) (by omega) (fun r9 h9 p9 => J.pure p9 ?_)
            refine J.wide (k' := 5) (n' := 38) (by omega) (by omega) ?_
            refine j_aload_n E dX1_init_120 rfl ?_
            refine j_iload E dX1_init_121 rfl ?_
            refine j_iconst (x := nI 1) E dX1_init_123 (by decide) ?_
            refine j_isub E dX1_init_124 ?_
            refine J.topi (x' := nI p1) (nI_pred p1) ?_
            refine j_iaload E p1 dX1_init_125 hb3 rfl (by omega) (by omega) ?_
            refine J.topi (x' := nI (kC kp p1)) (j2) ?_
            refine j_aload_n E dX1_init_126 rfl ?_
            refine j_iload E dX1_init_127 rfl ?_
            refine j_iaload E (p1 + 1) dX1_init_129 hb3 rfl (by omega) (by omega) ?_
            refine J.topi (x' := nI (kC kp (p1 + 1))) (k2) ?_
            refine j_icmp_eq E (tgt := 137) dX1_init_130 (by decide) (fun c4 => ?_) (fun c4 => ?_)
            · have e := (nI_eq (show kC kp p1 < 2 ^ 31 by omega) (show kC kp (p1 + 1) < 2 ^ 31 by omega)).mp c4
              refine j_iconst (x := nI 0) E dX1_init_137 (by decide) ?_
              refine J.topi (x' := bI False) ((bI_f id).symm) ?_
              exact fin False ⟨fun z => z.elim, fun z => z e⟩
            ·
              refine j_iconst (x := nI 1) E dX1_init_133 (by decide) ?_
              refine J.topi (x' := bI True) ((bI_t trivial).symm) ?_
              refine j_goto E (tgt := 138) dX1_init_134 (by decide) ?_
              exact fin True ⟨fun _ e => c4 (congrArg nI e), fun _ => trivial⟩
  have fill : ∀ (u2 i : Nat) (h2 : HM) (f0 : Nat → Int32), i + u2 = 10 → KO h2 ko k u f0 (fun _ => 0) (fun _ => 0) (fun _ => 0) (fun _ => 0) → (∀ j, j < i → f0 j = -1) → FR h h2 (fun z => z = ko) → J X B D 5 Q h2 5 38 50 [(4, .int (nI i)), (0, .ref ko), (1, .ref ps), (2, .ref bq)] [] := by
    intro u2
    induction u2 with
    | zero =>
      intro i h2 f0 hi K hf F
      refine j_iload E dX1_init_50 rfl ?_
      refine j_bipush (x := nI 10) E dX1_init_52 (by decide) ?_
      refine j_icmp_ge E (tgt := 71) dX1_init_54 (by decide) (fun c1 => ?_) (fun c1 => ?_)
      ·
        refine j_iconst (x := nI 0) E dX1_init_71 (by decide) ?_
        refine j_istore E dX1_init_72 (by decide) ?_
        refine J.sub [(4, .int (nI 0)), (0, .ref ko), (1, .ref ps), (2, .ref bq)] ⟨rfl, rfl, rfl, rfl, trivial⟩ ?_
        refine main pg.length 0 h2 _ _ _ _ _ (by omega) K (fun s hs => ?_) (KV2.zero kp) F
        have z := KV1.zero kp s hs
        exact ⟨Or.inr ⟨fun f z => Nat.not_lt_zero _ z.1, hf s (by omega)⟩, z.2⟩
      · exact absurd (nI_le (show 10 ≤ i by omega) (by omega)) c1
    | succ u2 ih =>
      intro i h2 f0 hi K hf F
      have K1 := K.1
      have K2 := K.2.1.1
      refine j_iload E dX1_init_50 rfl ?_
      refine j_bipush (x := nI 10) E dX1_init_52 (by decide) ?_
      refine j_icmp_ge E (tgt := 71) dX1_init_54 (by decide) (fun c1 => ?_) (fun c1 => ?_)
      · exact absurd c1 (nI_ge (show i < 10 by omega) (by decide))
      ·
        refine j_aload_n E dX1_init_57 rfl ?_
        refine j_getfield (ref := "ColourParts$Colouring") (C := RX1) (T := TX1) (N := 6) (ci := 2) E 0 dX1_init_58 iw_X1_init_X1 rfl (by decide) (by decide +kernel) rfl K1 rfl ?_
        refine j_iload E dX1_init_61 rfl ?_
        refine j_iconst (x := (-1)) E dX1_init_63 (by decide) ?_
        refine j_iastore E i dX1_init_64 K2 rfl (by omega) (by omega) ?_
        refine j_iinc E dX1_init_65 rfl (nI_1 i) (by decide) ?_
        refine j_goto E (tgt := 50) dX1_init_68 (by decide) ?_
        refine J.sub [(4, .int (nI (i + 1))), (0, .ref ko), (1, .ref ps), (2, .ref bq)] ⟨rfl, rfl, rfl, rfl, trivial⟩ ?_
        refine ih (i + 1) _ _ (by omega) (K.p0 _) (fun j hj => ?_) (fun z hz hz2 => (hput_ne _ (old z hz 0 (by decide))).trans (F z hz hz2))
        by_cases e : j = i
        · rw [e]; exact upd_eq
        · exact (upd_ne e).trans (hf j (by omega))
  refine j_iconst (x := nI 0) E dX1_init_47 (by decide) ?_
  refine j_istore E dX1_init_48 (by decide) ?_
  refine J.sub [(4, .int (nI 0)), (0, .ref ko), (1, .ref ps), (2, .ref bq)] ⟨rfl, rfl, rfl, rfl, trivial⟩ ?_
  exact fill 10 0 h1 _ (by omega) K0 (fun j hj => absurd hj (Nat.not_lt_zero _)) F0
end C36
