/-! the search made: its constructor -/
def SI (h h2 : HM) (sr : Nat) (q : Nat → Nat) (many n : Nat) (f2 f3 f4 : Nat → Int32) : Prop := (∀ z, h z ≠ none → z ≠ sr → h2 z = h z) ∧ h2 sr = some (hO 5 [.int (nI many), .int (nI n), .ref (q 2), .ref (q 3), .ref (q 4), .ref (q 5), .ref (q 6), .ref (q 7), .int (nI 12)]) ∧ h2 (q 2) = some (hI 12 f2) ∧ h2 (q 3) = some (hI 12 f3) ∧ h2 (q 4) = some (hZ 12 f4) ∧ h2 (q 5) = some (hI 4 (fun _ => 0)) ∧ h2 (q 6) = some (hI 12 (fun _ => 0)) ∧ h2 (q 7) = some (hI 12 (fun _ => 0))
def SN (h : HM) (sr : Nat) (q : Nat → Nat) : Prop := h sr ≠ none ∧ (∀ i, 2 ≤ i → i ≤ 7 → h (q i) = none) ∧ ∀ i j, 2 ≤ i → i ≤ 7 → 2 ≤ j → j ≤ 7 → i ≠ j → q i ≠ q j
theorem SN.ne {h : HM} {sr : Nat} {q : Nat → Nat} (S : SN h sr q) {i : Nat} (h1 : 2 ≤ i) (h2 : i ≤ 7) : sr ≠ q i := fun e => S.1 (by rw [e]; exact S.2.1 i h1 h2)
theorem SN.old {h : HM} {sr : Nat} {q : Nat → Nat} (S : SN h sr q) {i z : Nat} (h1 : 2 ≤ i) (h2 : i ≤ 7) (hz : h z ≠ none) : z ≠ q i := fun e => hz (by rw [e]; exact S.2.1 i h1 h2)
theorem SI.s2 {h h2 : HM} {sr : Nat} {q : Nat → Nat} {many n : Nat} {f2 f3 f4 : Nat → Int32} (I : SI h h2 sr q many n f2 f3 f4) (S : SN h sr q) (g : Nat → Int32) : SI h (hput h2 (q 2) (hI 12 g)) sr q many n g f3 f4 := by
  obtain ⟨i0, i1, i2, i3, i4, i5, i6, i7⟩ := I
  have d := S.2.2
  exact ⟨fun z hz hs => (hput_ne _ (S.old (by decide) (by decide) hz)).trans (i0 z hz hs), (hput_ne _ (S.ne (by decide) (by decide))).trans i1, hput_eq _ _ _, (hput_ne _ (d 3 2 (by decide) (by decide) (by decide) (by decide) (by decide))).trans i3, (hput_ne _ (d 4 2 (by decide) (by decide) (by decide) (by decide) (by decide))).trans i4, (hput_ne _ (d 5 2 (by decide) (by decide) (by decide) (by decide) (by decide))).trans i5, (hput_ne _ (d 6 2 (by decide) (by decide) (by decide) (by decide) (by decide))).trans i6, (hput_ne _ (d 7 2 (by decide) (by decide) (by decide) (by decide) (by decide))).trans i7⟩
theorem SI.s3 {h h2 : HM} {sr : Nat} {q : Nat → Nat} {many n : Nat} {f2 f3 f4 : Nat → Int32} (I : SI h h2 sr q many n f2 f3 f4) (S : SN h sr q) (g : Nat → Int32) : SI h (hput h2 (q 3) (hI 12 g)) sr q many n f2 g f4 := by
  obtain ⟨i0, i1, i2, i3, i4, i5, i6, i7⟩ := I
  have d := S.2.2
  exact ⟨fun z hz hs => (hput_ne _ (S.old (by decide) (by decide) hz)).trans (i0 z hz hs), (hput_ne _ (S.ne (by decide) (by decide))).trans i1, (hput_ne _ (d 2 3 (by decide) (by decide) (by decide) (by decide) (by decide))).trans i2, hput_eq _ _ _, (hput_ne _ (d 4 3 (by decide) (by decide) (by decide) (by decide) (by decide))).trans i4, (hput_ne _ (d 5 3 (by decide) (by decide) (by decide) (by decide) (by decide))).trans i5, (hput_ne _ (d 6 3 (by decide) (by decide) (by decide) (by decide) (by decide))).trans i6, (hput_ne _ (d 7 3 (by decide) (by decide) (by decide) (by decide) (by decide))).trans i7⟩
theorem SI.s4 {h h2 : HM} {sr : Nat} {q : Nat → Nat} {many n : Nat} {f2 f3 f4 : Nat → Int32} (I : SI h h2 sr q many n f2 f3 f4) (S : SN h sr q) (g : Nat → Int32) : SI h (hput h2 (q 4) (hZ 12 g)) sr q many n f2 f3 g := by
  obtain ⟨i0, i1, i2, i3, i4, i5, i6, i7⟩ := I
  have d := S.2.2
  exact ⟨fun z hz hs => (hput_ne _ (S.old (by decide) (by decide) hz)).trans (i0 z hz hs), (hput_ne _ (S.ne (by decide) (by decide))).trans i1, (hput_ne _ (d 2 4 (by decide) (by decide) (by decide) (by decide) (by decide))).trans i2, (hput_ne _ (d 3 4 (by decide) (by decide) (by decide) (by decide) (by decide))).trans i3, hput_eq _ _ _, (hput_ne _ (d 5 4 (by decide) (by decide) (by decide) (by decide) (by decide))).trans i5, (hput_ne _ (d 6 4 (by decide) (by decide) (by decide) (by decide) (by decide))).trans i6, (hput_ne _ (d 7 4 (by decide) (by decide) (by decide) (by decide) (by decide))).trans i7⟩
section C31
theorem mn4 {m : Nat} (h : m ≤ 4) : (if nI m < nI 4 then nI m else nI 4) = nI m := by
  by_cases e : m < 4
  · exact if_pos (nI_lt e (by decide))
  · rw [show m = 4 by omega]; rfl
theorem mx0 {m : Nat} (h : m ≤ 4) : (if nI 0 < nI m then nI m else nI 0) = nI m := by
  by_cases e : 0 < m
  · exact if_pos (nI_lt e (by omega))
  · rw [show m = 0 by omega]; rfl
theorem mn12 {m : Nat} (h : m ≤ 12) : (if nI m < nI 12 then nI m else nI 12) = nI m := by
  by_cases e : m < 12
  · exact if_pos (nI_lt e (by decide))
  · rw [show m = 12 by omega]; rfl
variable {l : Launch} {B E0 : Nat} {D : va_G} {h h0 : HM} {d : Int} {ps row re : Nat} {pg : List PG} {o : Nat → Nat} {t : Nat → Int} {bb : Nat → List BB} {N : Nat → Nat → Prop}
theorem iw_X4_init_X4 : ∀ w ∈ u_ws RX4 TX4 9, w ∈ wsX4_init := by decide +kernel
theorem c_searchInit (v : Nat) (R : PSR E0 h0 h ps row re pg o t bb N) {sr many : Nat} (hm : many ≤ 4) (n0 : h0 sr = none) (hsr : h sr = some (hO 5 [.int 0, .int 0, .null, .null, .null, .null, .null, .null, .int 0])) (ho : ∀ p, p < pg.length → o p < 100) (ht : ∀ p, p < pg.length → -1 ≤ t p ∧ t p ≤ 3) : CM l B E0 D yX4_init wsX4_init (v + 6) 6 64 [.ref sr, .ref ps, .int (nI many)] h (fun r h1 => r = none ∧ ∃ q w b, SR h1 sr q many pg.length 12 N t (afO o) (fun _ _ => False) w b ∧ (∀ i, 2 ≤ i → i ≤ 7 → h (q i) = none) ∧ FR h h1 (fun z => z = sr)) := by
  have h12 := R.2.2.2.1
  refine CM.of (cc := cX4_init) (maxL := 4) (ret := none) (by decide) rfl (Nat.le_of_ble_eq_true rfl) (fun X E hin => ?_)
  show J X B D 4 _ h 0 0 0 [(0, .ref sr), (1, .ref ps), (2, .int (nI many))] []
  generalize hQ : jQ X B D _ _ _ = Q
  have hM0 : MG h h sr 5 [.int 0, .int 0, .null, .null, .null, .null, .null, .null, .int 0] [] := ⟨fun e => (by rw [hsr] at e; cases e), hsr, fun p hp => (List.not_mem_nil hp).elim, List.Pairwise.nil, fun _ _ _ => rfl⟩
  refine MG.gen hM0 (fun h1 hM => ?_)
  refine j_aload_n E dX4_init_0 rfl ?_
  refine j_objInit E dX4_init_1 (by decide +kernel) (by decide +kernel) (by decide +kernel) (by omega) (Nat.le_of_ble_eq_true rfl) ?_
  refine j_aload_n E dX4_init_4 rfl ?_
  refine j_bipush (x := nI 12) E dX4_init_5 (by decide) ?_
  refine j_newI E 12 dX4_init_7 (by decide +kernel) rfl (by omega) (by omega) (by omega) (fun q7 nq7 bq7 => ?_)
  refine MG.gen (hM.new nq7) (fun h1 hM => ?_)
  clear nq7 bq7
  refine j_putfin (C := RX4) (T := TX4) (N := 9) (ci := 5) E 2 dX4_init_9 iw_X4_init_X4 tyX4 tyX4_ok nmX4 rfl (by decide) (by decide +kernel) rfl rfl hin rfl rfl rfl hM.obj (Nat.le_of_ble_eq_true rfl) ?_
  refine MG.gen (hM.set [.int 0, .int 0, .ref q7, .null, .null, .null, .null, .null, .int 0]) (fun h1 hM => ?_)
  refine j_aload_n E dX4_init_12 rfl ?_
  refine j_bipush (x := nI 12) E dX4_init_13 (by decide) ?_
  refine j_newI E 12 dX4_init_15 (by decide +kernel) rfl (by omega) (by omega) (by omega) (fun q15 nq15 bq15 => ?_)
  refine MG.gen (hM.new nq15) (fun h1 hM => ?_)
  clear nq15 bq15
  refine j_putfin (C := RX4) (T := TX4) (N := 9) (ci := 5) E 3 dX4_init_17 iw_X4_init_X4 tyX4 tyX4_ok nmX4 rfl (by decide) (by decide +kernel) rfl rfl hin rfl rfl rfl hM.obj (Nat.le_of_ble_eq_true rfl) ?_
  refine MG.gen (hM.set [.int 0, .int 0, .ref q7, .ref q15, .null, .null, .null, .null, .int 0]) (fun h1 hM => ?_)
  refine j_aload_n E dX4_init_20 rfl ?_
  refine j_bipush (x := nI 12) E dX4_init_21 (by decide) ?_
  refine j_newZ E 12 dX4_init_23 (by decide +kernel) rfl (by omega) (by omega) (by omega) (fun q23 nq23 bq23 => ?_)
  refine MG.gen (hM.new nq23) (fun h1 hM => ?_)
  clear nq23 bq23
  refine j_putfin (C := RX4) (T := TX4) (N := 9) (ci := 5) E 4 dX4_init_25 iw_X4_init_X4 tyX4 tyX4_ok nmX4 rfl (by decide) (by decide +kernel) rfl rfl hin rfl rfl rfl hM.obj (Nat.le_of_ble_eq_true rfl) ?_
  refine MG.gen (hM.set [.int 0, .int 0, .ref q7, .ref q15, .ref q23, .null, .null, .null, .int 0]) (fun h1 hM => ?_)
  refine j_aload_n E dX4_init_28 rfl ?_
  refine j_iconst (x := nI 4) E dX4_init_29 (by decide) ?_
  refine j_newI E 4 dX4_init_30 (by decide +kernel) rfl (by omega) (by omega) (by omega) (fun q30 nq30 bq30 => ?_)
  refine MG.gen (hM.new nq30) (fun h1 hM => ?_)
  clear nq30 bq30
  refine j_putfin (C := RX4) (T := TX4) (N := 9) (ci := 5) E 5 dX4_init_32 iw_X4_init_X4 tyX4 tyX4_ok nmX4 rfl (by decide) (by decide +kernel) rfl rfl hin rfl rfl rfl hM.obj (Nat.le_of_ble_eq_true rfl) ?_
  refine MG.gen (hM.set [.int 0, .int 0, .ref q7, .ref q15, .ref q23, .ref q30, .null, .null, .int 0]) (fun h1 hM => ?_)
  refine j_aload_n E dX4_init_35 rfl ?_
  refine j_bipush (x := nI 12) E dX4_init_36 (by decide) ?_
  refine j_newI E 12 dX4_init_38 (by decide +kernel) rfl (by omega) (by omega) (by omega) (fun q38 nq38 bq38 => ?_)
  refine MG.gen (hM.new nq38) (fun h1 hM => ?_)
  clear nq38 bq38
  refine j_putfin (C := RX4) (T := TX4) (N := 9) (ci := 5) E 6 dX4_init_40 iw_X4_init_X4 tyX4 tyX4_ok nmX4 rfl (by decide) (by decide +kernel) rfl rfl hin rfl rfl rfl hM.obj (Nat.le_of_ble_eq_true rfl) ?_
  refine MG.gen (hM.set [.int 0, .int 0, .ref q7, .ref q15, .ref q23, .ref q30, .ref q38, .null, .int 0]) (fun h1 hM => ?_)
  refine j_aload_n E dX4_init_43 rfl ?_
  refine j_bipush (x := nI 12) E dX4_init_44 (by decide) ?_
  refine j_newI E 12 dX4_init_46 (by decide +kernel) rfl (by omega) (by omega) (by omega) (fun q46 nq46 bq46 => ?_)
  refine MG.gen (hM.new nq46) (fun h1 hM => ?_)
  clear nq46 bq46
  refine j_putfin (C := RX4) (T := TX4) (N := 9) (ci := 5) E 7 dX4_init_48 iw_X4_init_X4 tyX4 tyX4_ok nmX4 rfl (by decide) (by decide +kernel) rfl rfl hin rfl rfl rfl hM.obj (Nat.le_of_ble_eq_true rfl) ?_
  refine MG.gen (hM.set [.int 0, .int 0, .ref q7, .ref q15, .ref q23, .ref q30, .ref q38, .ref q46, .int 0]) (fun h1 hM => ?_)
  refine J.wide (k' := 6) (n' := 64) (by omega) (by omega) ?_
  generalize hq : (fun k => [q7, q15, q23, q30, q38, q46].getD (k - 2) 0 : Nat → Nat) = q
  have e2 : q 2 = q7 := by rw [← hq]; rfl
  have e3 : q 3 = q15 := by rw [← hq]; rfl
  have e4 : q 4 = q23 := by rw [← hq]; rfl
  have e5 : q 5 = q30 := by rw [← hq]; rfl
  have e6 : q 6 = q38 := by rw [← hq]; rfl
  have e7 : q 7 = q46 := by rw [← hq]; rfl
  rw [← e2, ← e3, ← e4, ← e5, ← e6, ← e7] at hM
  clear hq e2 e3 e4 e5 e6 e7
  have hfr : FR h h1 (fun z => z = sr) := fun z hz hz2 => hM.2.2.2.2 z hz2 (fun p hp e => hz (by rw [e]; exact (hM.2.2.1 p hp).2))
  refine j_aload_n E dX4_init_51 rfl ?_
  refine j_bipush (x := nI 12) E dX4_init_52 (by decide) ?_
  refine j_putfield (ref := "ColourParts$Search") (C := RX4) (T := TX4) (N := 9) (ci := 5) E 8 dX4_init_54 iw_X4_init_X4 tyX4 tyX4_ok nmX4 rfl (by decide) (by decide +kernel) rfl rfl rfl rfl hM.obj (Nat.le_of_ble_eq_true rfl) ?_
  refine MG.gen (hM.set [.int 0, .int 0, .ref (q 2), .ref (q 3), .ref (q 4), .ref (q 5), .ref (q 6), .ref (q 7), .int (nI 12)]) (fun h1 hM => ?_)
  refine j_aload_n E dX4_init_57 rfl ?_
  refine j_iconst (x := nI 0) E dX4_init_58 (by decide) ?_
  refine j_iconst (x := nI 4) E dX4_init_59 (by decide) ?_
  refine j_iload_n E dX4_init_60 rfl ?_
  refine j_mmin E dX4_init_61 (by decide +kernel) (by decide +kernel) (by decide +kernel) (by decide +kernel) (by omega) (Nat.le_of_ble_eq_true rfl) (by omega) (by omega) ?_
  refine J.topi (x' := nI many) (mn4 hm) ?_
  refine j_mmax E dX4_init_64 (by decide +kernel) (by decide +kernel) (by decide +kernel) (by decide +kernel) (by omega) (Nat.le_of_ble_eq_true rfl) (by omega) (by omega) ?_
  refine J.topi (x' := nI many) (mx0 hm) ?_
  refine j_putfin (C := RX4) (T := TX4) (N := 9) (ci := 5) E 0 dX4_init_67 iw_X4_init_X4 tyX4 tyX4_ok nmX4 rfl (by decide) (by decide +kernel) rfl rfl hin rfl rfl rfl hM.obj (Nat.le_of_ble_eq_true rfl) ?_
  refine MG.gen (hM.set [.int (nI many), .int 0, .ref (q 2), .ref (q 3), .ref (q 4), .ref (q 5), .ref (q 6), .ref (q 7), .int (nI 12)]) (fun h1 hM => ?_)
  have on1 : ∀ {h1 : HM} {fs : List Value} {L : List (Nat × HO)}, MG h h1 sr 5 fs L → ∀ z, h z ≠ none → z ≠ sr → h1 z = h z := fun hM z hz hz2 => hM.2.2.2.2 z hz2 (fun p hp e => hz (by rw [e]; exact (hM.2.2.1 p hp).2))
  have P1 := R.but hsr n0 (on1 hM)
  refine j_aload_n E dX4_init_70 rfl ?_
  refine j_bipush (x := nI 12) E dX4_init_71 (by decide) ?_
  refine j_aload_n E dX4_init_73 rfl ?_
  refine j_callV (np := 0) (C := RX3) (T := TX3) (N := 1) (ci := 4) E (c_count v P1) gX4_init_X3_count rfl ⟨rfl, by decide, by decide, by decide +kernel⟩ dX4_init_74 (by omega) (by decide) rfl P1.2.1 rfl rfl (Nat.le_of_ble_eq_true rfl) (by omega) (by omega) (fun r9 h9 p9 => J.pure p9 ?_)
  refine J.wide (k' := 6) (n' := 64) (by omega) (by omega) ?_
  refine j_mmin E dX4_init_77 (by decide +kernel) (by decide +kernel) (by decide +kernel) (by decide +kernel) (by omega) (Nat.le_of_ble_eq_true rfl) (by omega) (by omega) ?_
  refine J.topi (x' := nI pg.length) (mn12 h12) ?_
  refine j_putfin (C := RX4) (T := TX4) (N := 9) (ci := 5) E 1 dX4_init_80 iw_X4_init_X4 tyX4 tyX4_ok nmX4 rfl (by decide) (by decide +kernel) rfl rfl hin rfl rfl rfl hM.obj (Nat.le_of_ble_eq_true rfl) ?_
  refine MG.gen (hM.set [.int (nI many), .int (nI pg.length), .ref (q 2), .ref (q 3), .ref (q 4), .ref (q 5), .ref (q 6), .ref (q 7), .int (nI 12)]) (fun h1 hM => ?_)
  have hq0 : ∀ i, 2 ≤ i → i ≤ 7 → h (q i) = none := fun i h1 h2 => by
    have : i = 2 ∨ i = 3 ∨ i = 4 ∨ i = 5 ∨ i = 6 ∨ i = 7 := by omega
    rcases this with rfl | rfl | rfl | rfl | rfl | rfl
    · exact (hM.2.2.1 (q 2, hI 12 (fun _ => 0)) (by simp)).2
    · exact (hM.2.2.1 (q 3, hI 12 (fun _ => 0)) (by simp)).2
    · exact (hM.2.2.1 (q 4, hZ 12 (fun _ => 0)) (by simp)).2
    · exact (hM.2.2.1 (q 5, hI 4 (fun _ => 0)) (by simp)).2
    · exact (hM.2.2.1 (q 6, hI 12 (fun _ => 0)) (by simp)).2
    · exact (hM.2.2.1 (q 7, hI 12 (fun _ => 0)) (by simp)).2
  have hd : ∀ i j, 2 ≤ i → i ≤ 7 → 2 ≤ j → j ≤ 7 → i ≠ j → q i ≠ q j := by
    have pw := hM.2.2.2.1
    simp only [List.pairwise_cons, List.mem_cons, List.not_mem_nil, or_false, forall_eq_or_imp, forall_eq] at pw
    intro i j h1 h2 h3 h4 h5
    have hi : i = 2 ∨ i = 3 ∨ i = 4 ∨ i = 5 ∨ i = 6 ∨ i = 7 := by omega
    have hj : j = 2 ∨ j = 3 ∨ j = 4 ∨ j = 5 ∨ j = 6 ∨ j = 7 := by omega
    rcases hi with rfl | rfl | rfl | rfl | rfl | rfl <;> rcases hj with rfl | rfl | rfl | rfl | rfl | rfl <;> first | exact absurd rfl h5 | (intro e; simp [e] at pw) | (intro e; simp [← e] at pw)
  have c2 := (hM.2.2.1 (q 2, hI 12 (fun _ => 0)) (by simp)).1
  have c3 := (hM.2.2.1 (q 3, hI 12 (fun _ => 0)) (by simp)).1
  have c4 := (hM.2.2.1 (q 4, hZ 12 (fun _ => 0)) (by simp)).1
  have c5 := (hM.2.2.1 (q 5, hI 4 (fun _ => 0)) (by simp)).1
  have c6 := (hM.2.2.1 (q 6, hI 12 (fun _ => 0)) (by simp)).1
  have c7 := (hM.2.2.1 (q 7, hI 12 (fun _ => 0)) (by simp)).1
  have cs := hM.obj
  have I0 : SI h h1 sr q many pg.length (fun _ => 0) (fun _ => 0) (fun _ => 0) := ⟨on1 hM, cs, c2, c3, c4, c5, c6, c7⟩
  have SN0 : SN h sr q := ⟨hM.1, hq0, hd⟩
  have loop : ∀ (u p : Nat) (h2 : HM) (f2 f3 f4 : Nat → Int32), p + u = pg.length → SI h h2 sr q many pg.length f2 f3 f4 → (∀ i, i < p → f2 i = bS (N i) ∧ f3 i = iZ (t i) ∧ f4 i = bI (afO o i)) → J X B D 4 Q h2 6 64 85 [(3, .int (nI p)), (0, .ref sr), (1, .ref ps)] [] := by
    intro u
    induction u with
    | zero =>
      intro p h2 f2 f3 f4 hp I hf
      have i1 := I.2.1
      refine j_iload_n E dX4_init_85 rfl ?_
      refine j_aload_n E dX4_init_86 rfl ?_
      refine j_getfield (ref := "ColourParts$Search") (C := RX4) (T := TX4) (N := 9) (ci := 5) E 1 dX4_init_87 iw_X4_init_X4 rfl (by decide) (by decide +kernel) rfl i1 rfl ?_
      refine j_icmp_ge E (tgt := 132) dX4_init_90 (by decide) (fun c1 => ?_) (fun c1 => ?_)
      · obtain ⟨i0, -, i2, i3, i4, i5, i6, i7⟩ := I
        rw [← hQ]
        exact j_vret E dX4_init_132 rfl (by omega) (by omega) ⟨rfl, q, _, _, ⟨i1, ⟨f2, i2, fun i hi => (hf i (by omega)).1⟩, ⟨f3, i3, fun i hi => (hf i (by omega)).2.1⟩, ⟨f4, i4, fun i hi => (hf i (by omega)).2.2⟩, ⟨_, i5, fun c _ => bS_0.symm⟩, i6, i7, hd, hm, h12, Nat.le_refl _, ht⟩, hq0, i0⟩
      · exact absurd (nI_le (show pg.length ≤ p by omega) (by omega)) c1
    | succ u ih =>
      intro p h2 f2 f3 f4 hp I hf
      have hpl : p < pg.length := by omega
      have i1 := I.2.1
      have i2 := I.2.2.1
      have P := R.but hsr n0 I.1
      have Pr := P.2.1
      refine j_iload_n E dX4_init_85 rfl ?_
      refine j_aload_n E dX4_init_86 rfl ?_
      refine j_getfield (ref := "ColourParts$Search") (C := RX4) (T := TX4) (N := 9) (ci := 5) E 1 dX4_init_87 iw_X4_init_X4 rfl (by decide) (by decide +kernel) rfl i1 rfl ?_
      refine j_icmp_ge E (tgt := 132) dX4_init_90 (by decide) (fun c1 => ?_) (fun c1 => ?_)
      · exact absurd c1 (nI_ge hpl (by omega))
      ·
        refine j_aload_n E dX4_init_93 rfl ?_
        refine j_getfield (ref := "ColourParts$Search") (C := RX4) (T := TX4) (N := 9) (ci := 5) E 2 dX4_init_94 iw_X4_init_X4 rfl (by decide) (by decide +kernel) rfl i1 rfl ?_
        refine j_iload_n E dX4_init_97 rfl ?_
        refine j_aload_n E dX4_init_98 rfl ?_
        refine j_iload_n E dX4_init_99 rfl ?_
        refine j_callV (np := 1) (C := RX3) (T := TX3) (N := 1) (ci := 4) E (c_nearPieces (v + 1) P hpl) gX4_init_X3_nearPieces rfl ⟨rfl, by decide, by decide, by decide +kernel⟩ dX4_init_100 (by omega) (by decide) rfl Pr rfl rfl (Nat.le_of_ble_eq_true rfl) (by omega) (by omega) (fun r9 h9 p9 => J.pure p9 ?_)
        refine J.wide (k' := 6) (n' := 64) (by omega) (by omega) ?_
        refine j_iastore E p dX4_init_103 i2 rfl (by omega) (by omega) ?_
        have I2 := I.s2 SN0 (upd f2 p (bS (N p)))
        generalize hput h2 (q 2) _ = h3 at I2 ⊢
        have j1 := I2.2.1
        have j3 := I2.2.2.2.1
        have P3 := R.but hsr n0 I2.1
        have Pr3 := P3.2.1
        refine j_aload_n E dX4_init_104 rfl ?_
        refine j_getfield (ref := "ColourParts$Search") (C := RX4) (T := TX4) (N := 9) (ci := 5) E 3 dX4_init_105 iw_X4_init_X4 rfl (by decide) (by decide +kernel) rfl j1 rfl ?_
        refine j_iload_n E dX4_init_108 rfl ?_
        refine j_aload_n E dX4_init_109 rfl ?_
        refine j_iload_n E dX4_init_110 rfl ?_
        refine j_callV (np := 1) (C := RX3) (T := TX3) (N := 1) (ci := 4) E (c_told (v + 1) P3 hpl) gX4_init_X3_told rfl ⟨rfl, by decide, by decide, by decide +kernel⟩ dX4_init_111 (by omega) (by decide) rfl Pr3 rfl rfl (Nat.le_of_ble_eq_true rfl) (by omega) (by omega) (fun r9 h9 p9 => J.pure p9 ?_)
        refine J.wide (k' := 6) (n' := 64) (by omega) (by omega) ?_
        refine j_iastore E p dX4_init_114 j3 rfl (by omega) (by omega) ?_
        have I3 := I2.s3 SN0 (upd f3 p (iZ (t p)))
        generalize hput h3 (q 3) _ = h4 at I3 ⊢
        have k1 := I3.2.1
        have k4 := I3.2.2.2.2.1
        have P4 := R.but hsr n0 I3.1
        have Pr4 := P4.2.1
        refine j_aload_n E dX4_init_115 rfl ?_
        refine j_getfield (ref := "ColourParts$Search") (C := RX4) (T := TX4) (N := 9) (ci := 5) E 4 dX4_init_116 iw_X4_init_X4 rfl (by decide) (by decide +kernel) rfl k1 rfl ?_
        refine j_iload_n E dX4_init_119 rfl ?_
        refine j_aload_n E dX4_init_120 rfl ?_
        refine j_iload_n E dX4_init_121 rfl ?_
        refine j_callV (np := 1) (C := RX3) (T := TX3) (N := 1) (ci := 4) E (c_isAfterStitch v P4 hpl ho) gX4_init_X3_isAfterStitch rfl ⟨rfl, by decide, by decide, by decide +kernel⟩ dX4_init_122 (by omega) (by decide) rfl Pr4 rfl rfl (Nat.le_of_ble_eq_true rfl) (by omega) (by omega) (fun r9 h9 p9 => J.pure p9 ?_)
        refine J.wide (k' := 6) (n' := 64) (by omega) (by omega) ?_
        refine j_zastore E p dX4_init_125 k4 rfl (by omega) (by omega) (nb_bI _) ?_
        have I4 := I3.s4 SN0 (upd f4 p (bI (0 < p ∧ o p = o (p - 1))))
        generalize hput h4 (q 4) _ = h5 at I4 ⊢
        refine j_iinc E dX4_init_126 rfl (nI_1 p) (by decide) ?_
        refine j_goto E (tgt := 85) dX4_init_129 (by decide) ?_
        refine J.sub [(3, .int (nI (p + 1))), (0, .ref sr), (1, .ref ps)] ⟨rfl, rfl, rfl, trivial⟩ ?_
        refine ih (p + 1) h5 _ _ _ (by omega) I4 (fun i hi => ?_)
        by_cases e : i = p
        · subst e
          exact ⟨upd_eq, upd_eq, upd_eq⟩
        · obtain ⟨g1, g2, g3⟩ := hf i (by omega)
          exact ⟨(upd_ne e).trans g1, (upd_ne e).trans g2, (upd_ne e).trans g3⟩
  refine j_iconst (x := nI 0) E dX4_init_83 (by decide) ?_
  refine j_istore_n E dX4_init_84 (by decide) ?_
  refine J.sub [(3, .int (nI 0)), (0, .ref sr), (1, .ref ps)] ⟨rfl, rfl, rfl, trivial⟩ ?_
  exact loop pg.length 0 h1 _ _ _ (by omega) I0 (fun i hi => absurd hi (Nat.not_lt_zero _))
end C31
