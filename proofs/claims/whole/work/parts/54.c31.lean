/-! the search made: its constructor -/
section C31
theorem mn4 {m : Nat} (h : m ≤ 4) : (if nI m < nI 4 then nI m else nI 4) = nI m := by
  by_cases e : m < 4
  · exact if_pos (nI_lt e (by decide))
  · rw [show m = 4 by omega]; rfl
theorem mx0 {m : Nat} (h : m ≤ 4) : (if nI 0 < nI m then nI m else nI 0) = nI m := by
  by_cases e : 0 < m
  · exact if_pos (nI_lt e (by omega))
  · rw [show m = 0 by omega]; rfl
theorem mn12 {m : Nat} (h : m ≤ 12) : (if nI m < nI 12 then nI m else nI 12) = nI m := by
  by_cases e : m < 12
  · exact if_pos (nI_lt e (by decide))
  · rw [show m = 12 by omega]; rfl
variable {l : Launch} {B E0 : Nat} {D : va_G} {h h0 : HM} {d : Int} {ps row re : Nat} {pg : List PG} {o : Nat → Nat} {t : Nat → Int} {bb : Nat → List BB} {N : Nat → Nat → Prop}
theorem iw_X4_init_X4 : ∀ w ∈ u_ws RX4 TX4 9, w ∈ wsX4_init := by decide +kernel
theorem c_searchInit (v : Nat) (R : PSR E0 h0 h ps row re pg o t bb N) {sr many : Nat} (hm : many ≤ 4) (n0 : h0 sr = none) (hsr : h sr = some (hO 5 [.int 0, .int 0, .null, .null, .null, .null, .null, .null, .int 0])) (ho : ∀ p, p < pg.length → o p < 100) (ht : ∀ p, p < pg.length → -1 ≤ t p ∧ t p ≤ 3) : CM l B E0 D yX4_init wsX4_init (v + 6) 6 64 [.ref sr, .ref ps, .int (nI many)] h (fun r h1 => r = none ∧ ∃ q w b, SR h1 sr q many pg.length 12 N t (afO o) (fun _ _ => False) w b ∧ (∀ i, 2 ≤ i → i ≤ 7 → h (q i) = none) ∧ FR h h1 (fun z => z = sr)) := by
  have h12 := R.2.2.2.1
  refine CM.of (cc := cX4_init) (maxL := 4) (ret := none) (by decide) rfl (Nat.le_of_ble_eq_true rfl) (fun X E hin => ?_)
  show J X B D 4 _ h 0 0 0 [(0, .ref sr), (1, .ref ps), (2, .int (nI many))] []
  generalize hQ : jQ X B D _ _ _ = Q
  have hM0 : MG h h sr 5 [.int 0, .int 0, .null, .null, .null, .null, .null, .null, .int 0] [] := ⟨fun e => (by rw [hsr] at e; cases e), hsr, fun p hp => (List.not_mem_nil hp).elim, List.Pairwise.nil, fun _ _ _ => rfl⟩
  refine MG.gen hM0 (fun h1 hM => ?_)
  refine j_aload_n E dX4_init_0 rfl ?_
  refine j_objInit E dX4_init_1 (by decide +kernel) (by decide +kernel) (by decide +kernel) (by omega) (Nat.le_of_ble_eq_true rfl) ?_
  refine j_aload_n E dX4_init_4 rfl ?_
  refine j_bipush (x := nI 12) E dX4_init_5 (by decide) ?_
  refine j_newI E 12 dX4_init_7 (by decide +kernel) rfl (by omega) (by omega) (by omega) (fun q7 nq7 bq7 => ?_)
  refine MG.gen (hM.new nq7) (fun h1 hM => ?_)
  clear nq7 bq7
  refine j_putfin (C := RX4) (T := TX4) (N := 9) (ci := 5) E 2 dX4_init_9 iw_X4_init_X4 tyX4 tyX4_ok nmX4 rfl (by decide) (by decide +kernel) rfl rfl hin rfl rfl rfl hM.obj (Nat.le_of_ble_eq_true rfl) ?_
  refine MG.gen (hM.set [.int 0, .int 0, .ref q7, .null, .null, .null, .null, .null, .int 0]) (fun h1 hM => ?_)
  refine j_aload_n E dX4_init_12 rfl ?_
  refine j_bipush (x := nI 12) E dX4_init_13 (by decide) ?_
  refine j_newI E 12 dX4_init_15 (by decide +kernel) rfl (by omega) (by omega) (by omega) (fun q15 nq15 bq15 => ?_)
  refine MG.gen (hM.new nq15) (fun h1 hM => ?_)
  clear nq15 bq15
  refine j_putfin (C := RX4) (T := TX4) (N := 9) (ci := 5) E 3 dX4_init_17 iw_X4_init_X4 tyX4 tyX4_ok nmX4 rfl (by decide) (by decide +kernel) rfl rfl hin rfl rfl rfl hM.obj (Nat.le_of_ble_eq_true rfl) ?_
  refine MG.gen (hM.set [.int 0, .int 0, .ref q7, .ref q15, .null, .null, .null, .null, .int 0]) (fun h1 hM => ?_)
  refine j_aload_n E dX4_init_20 rfl ?_
  refine j_bipush (x := nI 12) E dX4_init_21 (by decide) ?_
  refine j_newZ E 12 dX4_init_23 (by decide +kernel) rfl (by omega) (by omega) (by omega) (fun q23 nq23 bq23 => ?_)
  refine MG.gen (hM.new nq23) (fun h1 hM => ?_)
  clear nq23 bq23
  refine j_putfin (C := RX4) (T := TX4) (N := 9) (ci := 5) E 4 dX4_init_25 iw_X4_init_X4 tyX4 tyX4_ok nmX4 rfl (by decide) (by decide +kernel) rfl rfl hin rfl rfl rfl hM.obj (Nat.le_of_ble_eq_true rfl) ?_
  refine MG.gen (hM.set [.int 0, .int 0, .ref q7, .ref q15, .ref q23, .null, .null, .null, .int 0]) (fun h1 hM => ?_)
  refine j_aload_n E dX4_init_28 rfl ?_
  refine j_iconst (x := nI 4) E dX4_init_29 (by decide) ?_
  refine j_newI E 4 dX4_init_30 (by decide +kernel) rfl (by omega) (by omega) (by omega) (fun q30 nq30 bq30 => ?_)
  refine MG.gen (hM.new nq30) (fun h1 hM => ?_)
  clear nq30 bq30
  refine j_putfin (C := RX4) (T := TX4) (N := 9) (ci := 5) E 5 dX4_init_32 iw_X4_init_X4 tyX4 tyX4_ok nmX4 rfl (by decide) (by decide +kernel) rfl rfl hin rfl rfl rfl hM.obj (Nat.le_of_ble_eq_true rfl) ?_
  refine MG.gen (hM.set [.int 0, .int 0, .ref q7, .ref q15, .ref q23, .ref q30, .null, .null, .int 0]) (fun h1 hM => ?_)
  refine j_aload_n E dX4_init_35 rfl ?_
  refine j_bipush (x := nI 12) E dX4_init_36 (by decide) ?_
  refine j_newI E 12 dX4_init_38 (by decide +kernel) rfl (by omega) (by omega) (by omega) (fun q38 nq38 bq38 => ?_)
  refine MG.gen (hM.new nq38) (fun h1 hM => ?_)
  clear nq38 bq38
  refine j_putfin (C := RX4) (T := TX4) (N := 9) (ci := 5) E 6 dX4_init_40 iw_X4_init_X4 tyX4 tyX4_ok nmX4 rfl (by decide) (by decide +kernel) rfl rfl hin rfl rfl rfl hM.obj (Nat.le_of_ble_eq_true rfl) ?_
  refine MG.gen (hM.set [.int 0, .int 0, .ref q7, .ref q15, .ref q23, .ref q30, .ref q38, .null, .int 0]) (fun h1 hM => ?_)
  refine j_aload_n E dX4_init_43 rfl ?_
  refine j_bipush (x := nI 12) E dX4_init_44 (by decide) ?_
  refine j_newI E 12 dX4_init_46 (by decide +kernel) rfl (by omega) (by omega) (by omega) (fun q46 nq46 bq46 => ?_)
  refine MG.gen (hM.new nq46) (fun h1 hM => ?_)
  clear nq46 bq46
  refine j_putfin (C := RX4) (T := TX4) (N := 9) (ci := 5) E 7 dX4_init_48 iw_X4_init_X4 tyX4 tyX4_ok nmX4 rfl (by decide) (by decide +kernel) rfl rfl hin rfl rfl rfl hM.obj (Nat.le_of_ble_eq_true rfl) ?_
  refine MG.gen (hM.set [.int 0, .int 0, .ref q7, .ref q15, .ref q23, .ref q30, .ref q38, .ref q46, .int 0]) (fun h1 hM => ?_)
  refine J.wide (k' := 6) (n' := 64) (by omega) (by omega) ?_
  generalize hq : (fun k => [q7, q15, q23, q30, q38, q46].getD (k - 2) 0 : Nat → Nat) = q
  have e2 : q 2 = q7 := by rw [← hq]; rfl
  have e3 : q 3 = q15 := by rw [← hq]; rfl
  have e4 : q 4 = q23 := by rw [← hq]; rfl
  have e5 : q 5 = q30 := by rw [← hq]; rfl
  have e6 : q 6 = q38 := by rw [← hq]; rfl
  have e7 : q 7 = q46 := by rw [← hq]; rfl
  rw [← e2, ← e3, ← e4, ← e5, ← e6, ← e7] at hM
  clear hq e2 e3 e4 e5 e6 e7
  have hfr : FR h h1 (fun z => z = sr) := fun z hz hz2 => hM.2.2.2.2 z hz2 (fun p hp e => hz (by rw [e]; exact (hM.2.2.1 p hp).2))
  refine j_aload_n E dX4_init_51 rfl ?_
  refine j_bipush (x := nI 12) E dX4_init_52 (by decide) ?_
  refine j_putfield (ref := "ColourParts$Search") (C := RX4) (T := TX4) (N := 9) (ci := 5) E 8 dX4_init_54 iw_X4_init_X4 tyX4 tyX4_ok nmX4 rfl (by decide) (by decide +kernel) rfl rfl rfl rfl hM.obj (Nat.le_of_ble_eq_true rfl) ?_
  refine MG.gen (hM.set [.int 0, .int 0, .ref (q 2), .ref (q 3), .ref (q 4), .ref (q 5), .ref (q 6), .ref (q 7), .int (nI 12)]) (fun h1 hM => ?_)
  refine j_aload_n E dX4_init_57 rfl ?_
  refine j_iconst (x := nI 0) E dX4_init_58 (by decide) ?_
  refine j_iconst (x := nI 4) E dX4_init_59 (by decide) ?_
  refine j_iload_n E dX4_init_60 rfl ?_
  refine j_mmin E dX4_init_61 (by decide +kernel) (by decide +kernel) (by decide +kernel) (by decide +kernel) (by omega) (Nat.le_of_ble_eq_true rfl) (by omega) (by omega) ?_
  refine J.topi (x' := nI many) (mn4 hm) ?_
  refine j_mmax E dX4_init_64 (by decide +kernel) (by decide +kernel) (by decide +kernel) (by decide +kernel) (by omega) (Nat.le_of_ble_eq_true rfl) (by omega) (by omega) ?_
  refine J.topi (x' := nI many) (mx0 hm) ?_
  refine j_putfin (C := RX4) (T := TX4) (N := 9) (ci := 5) E 0 dX4_init_67 iw_X4_init_X4 tyX4 tyX4_ok nmX4 rfl (by decide) (by decide +kernel) rfl rfl hin rfl rfl rfl hM.obj (Nat.le_of_ble_eq_true rfl) ?_
  refine MG.gen (hM.set [.int (nI many), .int 0, .ref (q 2), .ref (q 3), .ref (q 4), .ref (q 5), .ref (q 6), .ref (q 7), .int (nI 12)]) (fun h1 hM => ?_)
  have on1 : ∀ {h1 : HM} {fs : List Value} {L : List (Nat × HO)}, MG h h1 sr 5 fs L → ∀ z, h z ≠ none → z ≠ sr → h1 z = h z := fun hM z hz hz2 => hM.2.2.2.2 z hz2 (fun p hp e => hz (by rw [e]; exact (hM.2.2.1 p hp).2))
  have P1 := R.but hsr n0 (on1 hM)
  refine j_aload_n E dX4_init_70 rfl ?_
  refine j_bipush (x := nI 12) E dX4_init_71 (by decide) ?_
  refine j_aload_n E dX4_init_73 rfl ?_
  refine j_callV (np := 0) (C := RX3) (T := TX3) (N := 1) (ci := 4) E (c_count v P1) gX4_init_X3_count rfl ⟨rfl, by decide, by decide, by decide +kernel⟩ dX4_init_74 (by omega) (by decide) rfl P1.2.1 rfl rfl (Nat.le_of_ble_eq_true rfl) (by omega) (by omega) (fun r9 h9 p9 => J.pure p9 ?_)
  refine J.wide (k' := 6) (n' := 64) (by omega) (by omega) ?_
  refine j_mmin E dX4_init_77 (by decide +kernel) (by decide +kernel) (by decide +kernel) (by decide +kernel) (by omega) (Nat.le_of_ble_eq_true rfl) (by omega) (by omega) ?_
  refine J.topi (x' := nI pg.length) (mn12 h12) ?_
  refine j_putfin (C := RX4) (T := TX4) (N := 9) (ci := 5) E 1 dX4_init_80 iw_X4_init_X4 tyX4 tyX4_ok nmX4 rfl (by decide) (by decide +kernel) rfl rfl hin rfl rfl rfl hM.obj (Nat.le_of_ble_eq_true rfl) ?_
  refine MG.gen (hM.set [.int (nI many), .int (nI pg.length), .ref (q 2), .ref (q 3), .ref (q 4), .ref (q 5), .ref (q 6), .ref (q 7), .int (nI 12)]) (fun h1 hM => ?_)
  have hq0 : ∀ i, 2 ≤ i → i ≤ 7 → h (q i) = none := fun i h1 h2 => by
    have : i = 2 ∨ i = 3 ∨ i = 4 ∨ i = 5 ∨ i = 6 ∨ i = 7 := by omega
    rcases this with rfl | rfl | rfl | rfl | rfl | rfl
    · exact (hM.2.2.1 (q 2, hI 12 (fun _ => 0)) (by simp)).2
    · exact (hM.2.2.1 (q 3, hI 12 (fun _ => 0)) (by simp)).2
    · exact (hM.2.2.1 (q 4, hZ 12 (fun _ => 0)) (by simp)).2
    · exact (hM.2.2.1 (q 5, hI 4 (fun _ => 0)) (by simp)).2
    · exact (hM.2.2.1 (q 6, hI 12 (fun _ => 0)) (by simp)).2
    · exact (hM.2.2.1 (q 7, hI 12 (fun _ => 0)) (by simp)).2
  have hd : ∀ i j, 2 ≤ i → i ≤ 7 → 2 ≤ j → j ≤ 7 → i ≠ j → q i ≠ q j := by
    have pw := hM.2.2.2.1
    simp only [List.pairwise_cons, List.mem_cons, List.not_mem_nil, or_false, forall_eq_or_imp, forall_eq] at pw
    intro i j h1 h2 h3 h4 h5
    have hi : i = 2 ∨ i = 3 ∨ i = 4 ∨ i = 5 ∨ i = 6 ∨ i = 7 := by omega
    have hj : j = 2 ∨ j = 3 ∨ j = 4 ∨ j = 5 ∨ j = 6 ∨ j = 7 := by omega
    rcases hi with rfl | rfl | rfl | rfl | rfl | rfl <;> rcases hj with rfl | rfl | rfl | rfl | rfl | rfl <;> first | exact absurd rfl h5 | (intro e; simp [e] at pw) | (intro e; simp [← e] at pw)
  have c2 := (hM.2.2.1 (q 2, hI 12 (fun _ => 0)) (by simp)).1
  have c3 := (hM.2.2.1 (q 3, hI 12 (fun _ => 0)) (by simp)).1
  have c4 := (hM.2.2.1 (q 4, hZ 12 (fun _ => 0)) (by simp)).1
  have c5 := (hM.2.2.1 (q 5, hI 4 (fun _ => 0)) (by simp)).1
  have c6 := (hM.2.2.1 (q 6, hI 12 (fun _ => 0)) (by simp)).1
  have c7 := (hM.2.2.1 (q 7, hI 12 (fun _ => 0)) (by simp)).1
  have cs := hM.obj
  have on0 := on1 hM
  sorry
end C31
