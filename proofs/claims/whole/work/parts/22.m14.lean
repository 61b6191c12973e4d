/-! the reference made -/
def MN (h0 h : HM) (m : Nat) (fs : List Value) (L : List (Nat × HO)) : Prop := h0 m ≠ none ∧ h m = some (hO 8 fs) ∧ (∀ p ∈ L, h p.1 = some p.2 ∧ h0 p.1 = none) ∧ L.Pairwise (fun p q => p.1 ≠ q.1) ∧ ∀ q, q ≠ m → (∀ p ∈ L, q ≠ p.1) → h q = h0 q
section MNs
variable {h0 h : HM} {m : Nat} {fs : List Value} {L : List (Nat × HO)}
theorem MN.obj (M : MN h0 h m fs L) : h m = some (hO 8 fs) := M.2.1
theorem MN.new (M : MN h0 h m fs L) {q : Nat} {o : HO} (hq : h q = none) : MN h0 (hput h q o) m fs ((q, o) :: L) := by
  have hm : q ≠ m := fun e => by rw [e, M.obj] at hq; cases hq
  have hL : ∀ p ∈ L, q ≠ p.1 := fun p hp e => by rw [e, (M.2.2.1 p hp).1] at hq; cases hq
  refine ⟨M.1, (hput_ne _ hm.symm).trans M.obj, fun p hp => ?_, List.pairwise_cons.mpr ⟨hL, M.2.2.2.1⟩, fun p h1 h2 => (hput_ne _ (h2 (q, o) List.mem_cons_self)).trans (M.2.2.2.2 p h1 (fun r hr => h2 r (List.mem_cons_of_mem _ hr)))⟩
  rcases List.mem_cons.mp hp with rfl | hp
  · exact ⟨hput_eq _ _ _, (M.2.2.2.2 _ hm hL).symm.trans hq⟩
  · exact ⟨(hput_ne _ (hL p hp).symm).trans (M.2.2.1 p hp).1, (M.2.2.1 p hp).2⟩
theorem MN.set (M : MN h0 h m fs L) (fs2 : List Value) : MN h0 (hput h m (hO 8 fs2)) m fs2 L := by
  refine ⟨M.1, hput_eq _ _ _, fun p hp => ⟨(hput_ne _ ?_).trans (M.2.2.1 p hp).1, (M.2.2.1 p hp).2⟩, M.2.2.2.1, fun p h1 h2 => (hput_ne _ h1).trans (M.2.2.2.2 p h1 h2)⟩
  intro e
  have := (M.2.2.1 p hp).2
  rw [e] at this
  exact M.1 this
end MNs
theorem MN.gen {X : JC} {B : Nat} {D : va_G} {nL : Nat} {Q : State → Prop} {h0 h : HM} {k n pc : Nat} {L : List (Nat × Value)} {st : List Value} {m : Nat} {fs : List Value} {W : List (Nat × HO)} (M : MN h0 h m fs W) (kk : ∀ h : HM, MN h0 h m fs W → J X B D nL Q h k n pc L st) : J X B D nL Q h k n pc L st := kk h M
def d0 : List Value := [.int 0, .long 0, .int 0, .null, .null, .null, .null, .null, .null, .null, .int 0, .null, .null, .null, .null, .null, .null, .int 0, .int 0, .int 0, .null, .null, .null, .null, .null, .int 0, .int 0]
def aOf (qs : List Nat) : Nat → Nat := fun k => qs.getD (mK.idxOf k) 0
theorem MN.mr {h0 h : HM} {m : Nat} {d : Int64} {q3 q4 q5 q6 q7 q8 q9 q11 q12 q13 q14 q15 q16 q20 q21 q22 q23 q24 : Nat} (M : MN h0 h m (mfs (aOf [q3, q4, q5, q6, q7, q8, q9, q11, q12, q13, q14, q15, q16, q20, q21, q22, q23, q24]) d (fun _ => 0)) [(q24, hI 12 (fun _ => 0)), (q23, hI 13 (fun _ => 0)), (q22, hJ 12 (fun _ => 0)), (q21, hI 12 (fun _ => 0)), (q20, hI 12 (fun _ => 0)), (q16, hI 13 (fun _ => 0)), (q15, hJ 4 (fun _ => 0)), (q14, hJ 4 (fun _ => 0)), (q13, hZ 144 (fun _ => 0)), (q12, hI 12 (fun _ => 0)), (q11, hI 12 (fun _ => 0)), (q9, hZ 10 (fun _ => 0)), (q8, hI 10 (fun _ => 0)), (q7, hJ 30 (fun _ => 0)), (q6, hI 10 (fun _ => 0)), (q5, hI 10 (fun _ => 0)), (q4, hJ 80 (fun _ => 0)), (q3, hJ 80 (fun _ => 0))]) : MR h0 h m (aOf [q3, q4, q5, q6, q7, q8, q9, q11, q12, q13, q14, q15, q16, q20, q21, q22, q23, q24]) d (fun _ => 0) (fun _ _ => 0) (fun _ _ => 0) ∧ ∀ k, k ∈ mK → h0 (aOf [q3, q4, q5, q6, q7, q8, q9, q11, q12, q13, q14, q15, q16, q20, q21, q22, q23, q24] k) = none := by
  have T : ∀ k, k ∈ mK → ∃ o, [(q24, hI 12 (fun _ => 0)), (q23, hI 13 (fun _ => 0)), (q22, hJ 12 (fun _ => 0)), (q21, hI 12 (fun _ => 0)), (q20, hI 12 (fun _ => 0)), (q16, hI 13 (fun _ => 0)), (q15, hJ 4 (fun _ => 0)), (q14, hJ 4 (fun _ => 0)), (q13, hZ 144 (fun _ => 0)), (q12, hI 12 (fun _ => 0)), (q11, hI 12 (fun _ => 0)), (q9, hZ 10 (fun _ => 0)), (q8, hI 10 (fun _ => 0)), (q7, hJ 30 (fun _ => 0)), (q6, hI 10 (fun _ => 0)), (q5, hI 10 (fun _ => 0)), (q4, hJ 80 (fun _ => 0)), (q3, hJ 80 (fun _ => 0))][17 - mK.idxOf k]? = some (aOf [q3, q4, q5, q6, q7, q8, q9, q11, q12, q13, q14, q15, q16, q20, q21, q22, q23, q24] k, o) := by
    intro k hk
    simp only [mK, List.mem_cons, List.not_mem_nil, or_false] at hk
    rcases hk with rfl | rfl | rfl | rfl | rfl | rfl | rfl | rfl | rfl | rfl | rfl | rfl | rfl | rfl | rfl | rfl | rfl | rfl <;> exact ⟨_, rfl⟩
  have hat : ∀ (i : Nat) (p : Nat × HO), [(q24, hI 12 (fun _ => 0)), (q23, hI 13 (fun _ => 0)), (q22, hJ 12 (fun _ => 0)), (q21, hI 12 (fun _ => 0)), (q20, hI 12 (fun _ => 0)), (q16, hI 13 (fun _ => 0)), (q15, hJ 4 (fun _ => 0)), (q14, hJ 4 (fun _ => 0)), (q13, hZ 144 (fun _ => 0)), (q12, hI 12 (fun _ => 0)), (q11, hI 12 (fun _ => 0)), (q9, hZ 10 (fun _ => 0)), (q8, hI 10 (fun _ => 0)), (q7, hJ 30 (fun _ => 0)), (q6, hI 10 (fun _ => 0)), (q5, hI 10 (fun _ => 0)), (q4, hJ 80 (fun _ => 0)), (q3, hJ 80 (fun _ => 0))][i]? = some p → h p.1 = some p.2 := fun i p e => (M.2.2.1 p (List.mem_of_getElem? e)).1
  refine ⟨⟨M.obj, fun p hp => ?_, fun p hp => ?_, fun p hp => ?_, fun k hk e => ?_, fun j k hj hk hn e => ?_, fun q h1 h2 => M.2.2.2.2 q h1 (fun p hp => ?_)⟩, fun k hk => ?_⟩
  · simp only [mI, List.mem_cons, List.not_mem_nil, or_false] at hp
    rcases hp with rfl | rfl | rfl | rfl | rfl | rfl | rfl | rfl | rfl | rfl
    · exact hat 15 _ rfl
    · exact hat 14 _ rfl
    · exact hat 12 _ rfl
    · exact hat 10 _ rfl
    · exact hat 9 _ rfl
    · exact hat 5 _ rfl
    · exact hat 4 _ rfl
    · exact hat 3 _ rfl
    · exact hat 1 _ rfl
    · exact hat 0 _ rfl
  · simp only [mJ, List.mem_cons, List.not_mem_nil, or_false] at hp
    rcases hp with rfl | rfl | rfl | rfl | rfl | rfl
    · exact hat 17 _ rfl
    · exact hat 16 _ rfl
    · exact hat 13 _ rfl
    · exact hat 7 _ rfl
    · exact hat 6 _ rfl
    · exact hat 2 _ rfl
  · simp only [mZ, List.mem_cons, List.not_mem_nil, or_false] at hp
    rcases hp with rfl | rfl
    · exact hat 11 _ rfl
    · exact hat 8 _ rfl
  · obtain ⟨o, ho⟩ := T k hk
    have := (M.2.2.1 _ (List.mem_of_getElem? ho)).2
    rw [e] at this
    exact M.1 this
  · obtain ⟨o, ho⟩ := T j hj
    obtain ⟨o2, ho2⟩ := T k hk
    have hne := (by decide : ∀ j, j ∈ mK → ∀ k, k ∈ mK → j ≠ k → 17 - mK.idxOf j ≠ 17 - mK.idxOf k) j hj k hk hn
    obtain ⟨l1, e1⟩ := List.getElem?_eq_some_iff.mp ho
    obtain ⟨l2, e2⟩ := List.getElem?_eq_some_iff.mp ho2
    have hp := List.pairwise_iff_getElem.mp M.2.2.2.1
    rcases Nat.lt_or_gt_of_ne hne with z | z
    · have := hp _ _ l1 l2 z
      rw [e1, e2] at this
      exact this e
    · have := hp _ _ l2 l1 z
      rw [e1, e2] at this
      exact this e.symm
  · simp only [List.mem_cons, List.not_mem_nil, or_false] at hp
    rcases hp with rfl | rfl | rfl | rfl | rfl | rfl | rfl | rfl | rfl | rfl | rfl | rfl | rfl | rfl | rfl | rfl | rfl | rfl
    · exact h2 24 (by decide)
    · exact h2 23 (by decide)
    · exact h2 22 (by decide)
    · exact h2 21 (by decide)
    · exact h2 20 (by decide)
    · exact h2 16 (by decide)
    · exact h2 15 (by decide)
    · exact h2 14 (by decide)
    · exact h2 13 (by decide)
    · exact h2 12 (by decide)
    · exact h2 11 (by decide)
    · exact h2 9 (by decide)
    · exact h2 8 (by decide)
    · exact h2 7 (by decide)
    · exact h2 6 (by decide)
    · exact h2 5 (by decide)
    · exact h2 4 (by decide)
    · exact h2 3 (by decide)
  · obtain ⟨o, ho⟩ := T k hk
    exact (M.2.2.1 _ (List.mem_of_getElem? ho)).2
/-- the distance kept -/
def clampD (x : Int64) : Int := if x < lZ 1 then 1 else if lZ 65536 < x then 65536 else x.toInt
theorem clampD_b (x : Int64) : 1 ≤ clampD x ∧ clampD x ≤ 65536 := by
  unfold clampD
  by_cases e1 : x < lZ 1
  · rw [if_pos e1]; decide
  · rw [if_neg e1]
    by_cases e2 : lZ 65536 < x
    · rw [if_pos e2]; decide
    · rw [if_neg e2]
      rw [Int64.lt_iff_toInt_lt] at e1 e2
      rw [lZ_toInt (by decide) (by decide)] at e1 e2
      omega
section MI
variable {l : Launch} {B E0 : Nat} {D : va_G} {h : HM} {m : Nat}
theorem iw_X7_init_X7 : ∀ w ∈ u_ws RX7 TX7 27, w ∈ wsX7_init := by decide +kernel
theorem m_init (v : Nat) (hm : h m = some (hO 8 d0)) (x : Int64) : CM l B E0 D yX7_init wsX7_init (v + 2) 18 500 [.ref m, .long x] h (fun r h1 => r = none ∧ ∃ a s I G, MR h h1 m a (lZ (clampD x)) s I G ∧ (∀ k, k ∈ mK → h (a k) = none) ∧ MA [] s I G ∧ MK none [] False s I G) := by
  refine CM.of (cc := cX7_init) (maxL := 3) (ret := none) (by decide) rfl (Nat.le_of_ble_eq_true rfl) (fun X E hin => ?_)
  show J X B D 3 _ h 0 0 0 [(0, .ref m), (1, .long x)] []
  generalize hQ : jQ X B D _ _ _ = Q
  have hM0 : MN h h m d0 [] := ⟨fun e => (by rw [hm] at e; cases e), hm, fun p hp => (List.not_mem_nil hp).elim, List.Pairwise.nil, fun _ _ _ => rfl⟩
  unfold d0 at hM0
  refine MN.gen hM0 (fun h1 hM => ?_)
  refine j_aload_n E dX7_init_0 rfl ?_
  refine j_objInit E dX7_init_1 (by decide +kernel) (by decide +kernel) (by decide +kernel) (by omega) (Nat.le_of_ble_eq_true rfl) ?_
  refine j_aload_n E dX7_init_4 rfl ?_
  refine j_bipush (x := nI 80) E dX7_init_5 (by decide) ?_
  refine j_newJ E 80 dX7_init_7 (by decide +kernel) rfl (by omega) (by omega) (by omega) (fun q7 nq7 bq7 => ?_)
  refine MN.gen (hM.new nq7) (fun h1 hM => ?_)
  clear nq7 bq7
  refine j_putfin (C := RX7) (T := TX7) (N := 27) (ci := 8) E 3 dX7_init_9 iw_X7_init_X7 tyX7 tyX7_ok nmX7 rfl (by decide) (by decide +kernel) rfl rfl hin rfl rfl rfl hM.obj (Nat.le_of_ble_eq_true rfl) ?_
  refine MN.gen (hM.set [.int 0, .long 0, .int 0, .ref q7, .null, .null, .null, .null, .null, .null, .int 0, .null, .null, .null, .null, .null, .null, .int 0, .int 0, .int 0, .null, .null, .null, .null, .null, .int 0, .int 0]) (fun h1 hM => ?_)
  refine j_aload_n E dX7_init_12 rfl ?_
  refine j_bipush (x := nI 80) E dX7_init_13 (by decide) ?_
  refine j_newJ E 80 dX7_init_15 (by decide +kernel) rfl (by omega) (by omega) (by omega) (fun q15 nq15 bq15 => ?_)
  refine MN.gen (hM.new nq15) (fun h1 hM => ?_)
  clear nq15 bq15
  refine j_putfin (C := RX7) (T := TX7) (N := 27) (ci := 8) E 4 dX7_init_17 iw_X7_init_X7 tyX7 tyX7_ok nmX7 rfl (by decide) (by decide +kernel) rfl rfl hin rfl rfl rfl hM.obj (Nat.le_of_ble_eq_true rfl) ?_
  refine MN.gen (hM.set [.int 0, .long 0, .int 0, .ref q7, .ref q15, .null, .null, .null, .null, .null, .int 0, .null, .null, .null, .null, .null, .null, .int 0, .int 0, .int 0, .null, .null, .null, .null, .null, .int 0, .int 0]) (fun h1 hM => ?_)
  refine j_aload_n E dX7_init_20 rfl ?_
  refine j_bipush (x := nI 10) E dX7_init_21 (by decide) ?_
  refine j_newI E 10 dX7_init_23 (by decide +kernel) rfl (by omega) (by omega) (by omega) (fun q23 nq23 bq23 => ?_)
  refine MN.gen (hM.new nq23) (fun h1 hM => ?_)
  clear nq23 bq23
  refine j_putfin (C := RX7) (T := TX7) (N := 27) (ci := 8) E 5 dX7_init_25 iw_X7_init_X7 tyX7 tyX7_ok nmX7 rfl (by decide) (by decide +kernel) rfl rfl hin rfl rfl rfl hM.obj (Nat.le_of_ble_eq_true rfl) ?_
  refine MN.gen (hM.set [.int 0, .long 0, .int 0, .ref q7, .ref q15, .ref q23, .null, .null, .null, .null, .int 0, .null, .null, .null, .null, .null, .null, .int 0, .int 0, .int 0, .null, .null, .null, .null, .null, .int 0, .int 0]) (fun h1 hM => ?_)
  refine j_aload_n E dX7_init_28 rfl ?_
  refine j_bipush (x := nI 10) E dX7_init_29 (by decide) ?_
  refine j_newI E 10 dX7_init_31 (by decide +kernel) rfl (by omega) (by omega) (by omega) (fun q31 nq31 bq31 => ?_)
  refine MN.gen (hM.new nq31) (fun h1 hM => ?_)
  clear nq31 bq31
  refine j_putfin (C := RX7) (T := TX7) (N := 27) (ci := 8) E 6 dX7_init_33 iw_X7_init_X7 tyX7 tyX7_ok nmX7 rfl (by decide) (by decide +kernel) rfl rfl hin rfl rfl rfl hM.obj (Nat.le_of_ble_eq_true rfl) ?_
  refine MN.gen (hM.set [.int 0, .long 0, .int 0, .ref q7, .ref q15, .ref q23, .ref q31, .null, .null, .null, .int 0, .null, .null, .null, .null, .null, .null, .int 0, .int 0, .int 0, .null, .null, .null, .null, .null, .int 0, .int 0]) (fun h1 hM => ?_)
  refine j_aload_n E dX7_init_36 rfl ?_
  refine j_bipush (x := nI 30) E dX7_init_37 (by decide) ?_
  refine j_newJ E 30 dX7_init_39 (by decide +kernel) rfl (by omega) (by omega) (by omega) (fun q39 nq39 bq39 => ?_)
  refine MN.gen (hM.new nq39) (fun h1 hM => ?_)
  clear nq39 bq39
  refine j_putfin (C := RX7) (T := TX7) (N := 27) (ci := 8) E 7 dX7_init_41 iw_X7_init_X7 tyX7 tyX7_ok nmX7 rfl (by decide) (by decide +kernel) rfl rfl hin rfl rfl rfl hM.obj (Nat.le_of_ble_eq_true rfl) ?_
  refine MN.gen (hM.set [.int 0, .long 0, .int 0, .ref q7, .ref q15, .ref q23, .ref q31, .ref q39, .null, .null, .int 0, .null, .null, .null, .null, .null, .null, .int 0, .int 0, .int 0, .null, .null, .null, .null, .null, .int 0, .int 0]) (fun h1 hM => ?_)
  refine j_aload_n E dX7_init_44 rfl ?_
  refine j_bipush (x := nI 10) E dX7_init_45 (by decide) ?_
  refine j_newI E 10 dX7_init_47 (by decide +kernel) rfl (by omega) (by omega) (by omega) (fun q47 nq47 bq47 => ?_)
  refine MN.gen (hM.new nq47) (fun h1 hM => ?_)
  clear nq47 bq47
  refine j_putfin (C := RX7) (T := TX7) (N := 27) (ci := 8) E 8 dX7_init_49 iw_X7_init_X7 tyX7 tyX7_ok nmX7 rfl (by decide) (by decide +kernel) rfl rfl hin rfl rfl rfl hM.obj (Nat.le_of_ble_eq_true rfl) ?_
  refine MN.gen (hM.set [.int 0, .long 0, .int 0, .ref q7, .ref q15, .ref q23, .ref q31, .ref q39, .ref q47, .null, .int 0, .null, .null, .null, .null, .null, .null, .int 0, .int 0, .int 0, .null, .null, .null, .null, .null, .int 0, .int 0]) (fun h1 hM => ?_)
  refine j_aload_n E dX7_init_52 rfl ?_
  refine j_bipush (x := nI 10) E dX7_init_53 (by decide) ?_
  refine j_newZ E 10 dX7_init_55 (by decide +kernel) rfl (by omega) (by omega) (by omega) (fun q55 nq55 bq55 => ?_)
  refine MN.gen (hM.new nq55) (fun h1 hM => ?_)
  clear nq55 bq55
  refine j_putfin (C := RX7) (T := TX7) (N := 27) (ci := 8) E 9 dX7_init_57 iw_X7_init_X7 tyX7 tyX7_ok nmX7 rfl (by decide) (by decide +kernel) rfl rfl hin rfl rfl rfl hM.obj (Nat.le_of_ble_eq_true rfl) ?_
  refine MN.gen (hM.set [.int 0, .long 0, .int 0, .ref q7, .ref q15, .ref q23, .ref q31, .ref q39, .ref q47, .ref q55, .int 0, .null, .null, .null, .null, .null, .null, .int 0, .int 0, .int 0, .null, .null, .null, .null, .null, .int 0, .int 0]) (fun h1 hM => ?_)
  refine j_aload_n E dX7_init_60 rfl ?_
  refine j_bipush (x := nI 12) E dX7_init_61 (by decide) ?_
  refine j_newI E 12 dX7_init_63 (by decide +kernel) rfl (by omega) (by omega) (by omega) (fun q63 nq63 bq63 => ?_)
  refine MN.gen (hM.new nq63) (fun h1 hM => ?_)
  clear nq63 bq63
  refine j_putfin (C := RX7) (T := TX7) (N := 27) (ci := 8) E 11 dX7_init_65 iw_X7_init_X7 tyX7 tyX7_ok nmX7 rfl (by decide) (by decide +kernel) rfl rfl hin rfl rfl rfl hM.obj (Nat.le_of_ble_eq_true rfl) ?_
  refine MN.gen (hM.set [.int 0, .long 0, .int 0, .ref q7, .ref q15, .ref q23, .ref q31, .ref q39, .ref q47, .ref q55, .int 0, .ref q63, .null, .null, .null, .null, .null, .int 0, .int 0, .int 0, .null, .null, .null, .null, .null, .int 0, .int 0]) (fun h1 hM => ?_)
  refine j_aload_n E dX7_init_68 rfl ?_
  refine j_bipush (x := nI 12) E dX7_init_69 (by decide) ?_
  refine j_newI E 12 dX7_init_71 (by decide +kernel) rfl (by omega) (by omega) (by omega) (fun q71 nq71 bq71 => ?_)
  refine MN.gen (hM.new nq71) (fun h1 hM => ?_)
  clear nq71 bq71
  refine j_putfin (C := RX7) (T := TX7) (N := 27) (ci := 8) E 12 dX7_init_73 iw_X7_init_X7 tyX7 tyX7_ok nmX7 rfl (by decide) (by decide +kernel) rfl rfl hin rfl rfl rfl hM.obj (Nat.le_of_ble_eq_true rfl) ?_
  refine MN.gen (hM.set [.int 0, .long 0, .int 0, .ref q7, .ref q15, .ref q23, .ref q31, .ref q39, .ref q47, .ref q55, .int 0, .ref q63, .ref q71, .null, .null, .null, .null, .int 0, .int 0, .int 0, .null, .null, .null, .null, .null, .int 0, .int 0]) (fun h1 hM => ?_)
  refine j_aload_n E dX7_init_76 rfl ?_
  refine j_sipush (x := nI 144) E dX7_init_77 (by decide) ?_
  refine j_newZ E 144 dX7_init_80 (by decide +kernel) rfl (by omega) (by omega) (by omega) (fun q80 nq80 bq80 => ?_)
  refine MN.gen (hM.new nq80) (fun h1 hM => ?_)
  clear nq80 bq80
  refine j_putfin (C := RX7) (T := TX7) (N := 27) (ci := 8) E 13 dX7_init_82 iw_X7_init_X7 tyX7 tyX7_ok nmX7 rfl (by decide) (by decide +kernel) rfl rfl hin rfl rfl rfl hM.obj (Nat.le_of_ble_eq_true rfl) ?_
  refine MN.gen (hM.set [.int 0, .long 0, .int 0, .ref q7, .ref q15, .ref q23, .ref q31, .ref q39, .ref q47, .ref q55, .int 0, .ref q63, .ref q71, .ref q80, .null, .null, .null, .int 0, .int 0, .int 0, .null, .null, .null, .null, .null, .int 0, .int 0]) (fun h1 hM => ?_)
  refine j_aload_n E dX7_init_85 rfl ?_
  refine j_iconst (x := nI 4) E dX7_init_86 (by decide) ?_
  refine j_newJ E 4 dX7_init_87 (by decide +kernel) rfl (by omega) (by omega) (by omega) (fun q87 nq87 bq87 => ?_)
  refine MN.gen (hM.new nq87) (fun h1 hM => ?_)
  clear nq87 bq87
  refine j_putfin (C := RX7) (T := TX7) (N := 27) (ci := 8) E 14 dX7_init_89 iw_X7_init_X7 tyX7 tyX7_ok nmX7 rfl (by decide) (by decide +kernel) rfl rfl hin rfl rfl rfl hM.obj (Nat.le_of_ble_eq_true rfl) ?_
  refine MN.gen (hM.set [.int 0, .long 0, .int 0, .ref q7, .ref q15, .ref q23, .ref q31, .ref q39, .ref q47, .ref q55, .int 0, .ref q63, .ref q71, .ref q80, .ref q87, .null, .null, .int 0, .int 0, .int 0, .null, .null, .null, .null, .null, .int 0, .int 0]) (fun h1 hM => ?_)
  refine j_aload_n E dX7_init_92 rfl ?_
  refine j_iconst (x := nI 4) E dX7_init_93 (by decide) ?_
  refine j_newJ E 4 dX7_init_94 (by decide +kernel) rfl (by omega) (by omega) (by omega) (fun q94 nq94 bq94 => ?_)
  refine MN.gen (hM.new nq94) (fun h1 hM => ?_)
  clear nq94 bq94
  refine j_putfin (C := RX7) (T := TX7) (N := 27) (ci := 8) E 15 dX7_init_96 iw_X7_init_X7 tyX7 tyX7_ok nmX7 rfl (by decide) (by decide +kernel) rfl rfl hin rfl rfl rfl hM.obj (Nat.le_of_ble_eq_true rfl) ?_
  refine MN.gen (hM.set [.int 0, .long 0, .int 0, .ref q7, .ref q15, .ref q23, .ref q31, .ref q39, .ref q47, .ref q55, .int 0, .ref q63, .ref q71, .ref q80, .ref q87, .ref q94, .null, .int 0, .int 0, .int 0, .null, .null, .null, .null, .null, .int 0, .int 0]) (fun h1 hM => ?_)
  refine j_aload_n E dX7_init_99 rfl ?_
  refine j_bipush (x := nI 13) E dX7_init_100 (by decide) ?_
  refine j_newI E 13 dX7_init_102 (by decide +kernel) rfl (by omega) (by omega) (by omega) (fun q102 nq102 bq102 => ?_)
  refine MN.gen (hM.new nq102) (fun h1 hM => ?_)
  clear nq102 bq102
  refine j_putfin (C := RX7) (T := TX7) (N := 27) (ci := 8) E 16 dX7_init_104 iw_X7_init_X7 tyX7 tyX7_ok nmX7 rfl (by decide) (by decide +kernel) rfl rfl hin rfl rfl rfl hM.obj (Nat.le_of_ble_eq_true rfl) ?_
  refine MN.gen (hM.set [.int 0, .long 0, .int 0, .ref q7, .ref q15, .ref q23, .ref q31, .ref q39, .ref q47, .ref q55, .int 0, .ref q63, .ref q71, .ref q80, .ref q87, .ref q94, .ref q102, .int 0, .int 0, .int 0, .null, .null, .null, .null, .null, .int 0, .int 0]) (fun h1 hM => ?_)
  refine j_aload_n E dX7_init_107 rfl ?_
  refine j_bipush (x := nI 12) E dX7_init_108 (by decide) ?_
  refine j_newI E 12 dX7_init_110 (by decide +kernel) rfl (by omega) (by omega) (by omega) (fun q110 nq110 bq110 => ?_)
  refine MN.gen (hM.new nq110) (fun h1 hM => ?_)
  clear nq110 bq110
  refine j_putfin (C := RX7) (T := TX7) (N := 27) (ci := 8) E 20 dX7_init_112 iw_X7_init_X7 tyX7 tyX7_ok nmX7 rfl (by decide) (by decide +kernel) rfl rfl hin rfl rfl rfl hM.obj (Nat.le_of_ble_eq_true rfl) ?_
  refine MN.gen (hM.set [.int 0, .long 0, .int 0, .ref q7, .ref q15, .ref q23, .ref q31, .ref q39, .ref q47, .ref q55, .int 0, .ref q63, .ref q71, .ref q80, .ref q87, .ref q94, .ref q102, .int 0, .int 0, .int 0, .ref q110, .null, .null, .null, .null, .int 0, .int 0]) (fun h1 hM => ?_)
  refine j_aload_n E dX7_init_115 rfl ?_
  refine j_bipush (x := nI 12) E dX7_init_116 (by decide) ?_
  refine j_newI E 12 dX7_init_118 (by decide +kernel) rfl (by omega) (by omega) (by omega) (fun q118 nq118 bq118 => ?_)
  refine MN.gen (hM.new nq118) (fun h1 hM => ?_)
  clear nq118 bq118
  refine j_putfin (C := RX7) (T := TX7) (N := 27) (ci := 8) E 21 dX7_init_120 iw_X7_init_X7 tyX7 tyX7_ok nmX7 rfl (by decide) (by decide +kernel) rfl rfl hin rfl rfl rfl hM.obj (Nat.le_of_ble_eq_true rfl) ?_
  refine MN.gen (hM.set [.int 0, .long 0, .int 0, .ref q7, .ref q15, .ref q23, .ref q31, .ref q39, .ref q47, .ref q55, .int 0, .ref q63, .ref q71, .ref q80, .ref q87, .ref q94, .ref q102, .int 0, .int 0, .int 0, .ref q110, .ref q118, .null, .null, .null, .int 0, .int 0]) (fun h1 hM => ?_)
  refine j_aload_n E dX7_init_123 rfl ?_
  refine j_bipush (x := nI 12) E dX7_init_124 (by decide) ?_
  refine j_newJ E 12 dX7_init_126 (by decide +kernel) rfl (by omega) (by omega) (by omega) (fun q126 nq126 bq126 => ?_)
  refine MN.gen (hM.new nq126) (fun h1 hM => ?_)
  clear nq126 bq126
  refine j_putfin (C := RX7) (T := TX7) (N := 27) (ci := 8) E 22 dX7_init_128 iw_X7_init_X7 tyX7 tyX7_ok nmX7 rfl (by decide) (by decide +kernel) rfl rfl hin rfl rfl rfl hM.obj (Nat.le_of_ble_eq_true rfl) ?_
  refine MN.gen (hM.set [.int 0, .long 0, .int 0, .ref q7, .ref q15, .ref q23, .ref q31, .ref q39, .ref q47, .ref q55, .int 0, .ref q63, .ref q71, .ref q80, .ref q87, .ref q94, .ref q102, .int 0, .int 0, .int 0, .ref q110, .ref q118, .ref q126, .null, .null, .int 0, .int 0]) (fun h1 hM => ?_)
  refine j_aload_n E dX7_init_131 rfl ?_
  refine j_bipush (x := nI 13) E dX7_init_132 (by decide) ?_
  refine j_newI E 13 dX7_init_134 (by decide +kernel) rfl (by omega) (by omega) (by omega) (fun q134 nq134 bq134 => ?_)
  refine MN.gen (hM.new nq134) (fun h1 hM => ?_)
  clear nq134 bq134
  refine j_putfin (C := RX7) (T := TX7) (N := 27) (ci := 8) E 23 dX7_init_136 iw_X7_init_X7 tyX7 tyX7_ok nmX7 rfl (by decide) (by decide +kernel) rfl rfl hin rfl rfl rfl hM.obj (Nat.le_of_ble_eq_true rfl) ?_
  refine MN.gen (hM.set [.int 0, .long 0, .int 0, .ref q7, .ref q15, .ref q23, .ref q31, .ref q39, .ref q47, .ref q55, .int 0, .ref q63, .ref q71, .ref q80, .ref q87, .ref q94, .ref q102, .int 0, .int 0, .int 0, .ref q110, .ref q118, .ref q126, .ref q134, .null, .int 0, .int 0]) (fun h1 hM => ?_)
  refine j_aload_n E dX7_init_139 rfl ?_
  refine j_bipush (x := nI 12) E dX7_init_140 (by decide) ?_
  refine j_newI E 12 dX7_init_142 (by decide +kernel) rfl (by omega) (by omega) (by omega) (fun q142 nq142 bq142 => ?_)
  refine MN.gen (hM.new nq142) (fun h1 hM => ?_)
  clear nq142 bq142
  refine j_putfin (C := RX7) (T := TX7) (N := 27) (ci := 8) E 24 dX7_init_144 iw_X7_init_X7 tyX7 tyX7_ok nmX7 rfl (by decide) (by decide +kernel) rfl rfl hin rfl rfl rfl hM.obj (Nat.le_of_ble_eq_true rfl) ?_
  refine MN.gen (hM.set [.int 0, .long 0, .int 0, .ref q7, .ref q15, .ref q23, .ref q31, .ref q39, .ref q47, .ref q55, .int 0, .ref q63, .ref q71, .ref q80, .ref q87, .ref q94, .ref q102, .int 0, .int 0, .int 0, .ref q110, .ref q118, .ref q126, .ref q134, .ref q142, .int 0, .int 0]) (fun h1 hM => ?_)
  have fin : ∀ z : Int, z = clampD x → J X B D 3 Q h1 18 480 173 [(0, .ref m), (1, .long x)] [.long (lZ z), .ref m] := by
    intro z hz
    refine j_putfin (C := RX7) (T := TX7) (N := 27) (ci := 8) E 1 dX7_init_173 iw_X7_init_X7 tyX7 tyX7_ok nmX7 rfl (by decide) (by decide +kernel) rfl rfl hin rfl rfl rfl hM.obj (Nat.le_of_ble_eq_true rfl) ?_
    have hM2 := hM.set (mfs (aOf [q7, q15, q23, q31, q39, q47, q55, q63, q71, q80, q87, q94, q102, q110, q118, q126, q134, q142]) (lZ z) (fun _ => 0))
    rw [← hQ]
    exact j_vret E dX7_init_176 rfl (by omega) (by omega) ⟨rfl, aOf [q7, q15, q23, q31, q39, q47, q55, q63, q71, q80, q87, q94, q102, q110, q118, q126, q134, q142], fun _ => 0, fun _ _ => 0, fun _ _ => 0, hz ▸ hM2.mr.1, hM2.mr.2, ⟨rfl, fun j hj => absurd hj (Nat.not_lt_zero _)⟩, ⟨(bI_f id).symm, rfl, fun k hk => absurd hk (Nat.not_lt_zero _), fun _ => rfl, fun ps e => (by cases e)⟩⟩
  refine j_aload_n E dX7_init_147 rfl ?_
  refine j_lload_n E dX7_init_148 rfl ?_
  refine j_lconst (x := lZ 1) E dX7_init_149 (by decide) ?_
  refine j_lcmp E dX7_init_150 ?_
  refine j_if_ge E (tgt := 158) dX7_init_151 (by decide) (fun c1 => ?_) (fun c1 => ?_)
  · have h1 := cmp_ge.mp c1
    refine j_lload_n E dX7_init_158 rfl ?_
    refine j_ldc2 E (x := lZ (65536)) dX7_init_159 (show Cond.constantLong _ _ (65536) ∈ _ by decide +kernel) ?_
    refine j_lcmp E dX7_init_162 ?_
    refine j_if_le E (tgt := 172) dX7_init_163 (by decide) (fun c2 => ?_) (fun c2 => ?_)
    · have h2 := cmp_le.mp c2
      refine j_lload_n E dX7_init_172 rfl ?_
      have e : x = lZ (clampD x) := by
        unfold clampD
        rw [if_neg (Int64.not_lt.mpr h1), if_neg (Int64.not_lt.mpr h2)]
        exact (lZ_of x).symm
      refine J.topl (x' := lZ (clampD x)) e ?_
      exact fin _ rfl
    · have h2 : lZ 65536 < x := cmp_gt.mp (Int32.not_le.mp c2)
      refine j_ldc2 E (x := lZ (65536)) dX7_init_166 (show Cond.constantLong _ _ (65536) ∈ _ by decide +kernel) ?_
      refine j_goto E (tgt := 173) dX7_init_169 (by decide) ?_
      exact fin 65536 (by unfold clampD; rw [if_neg (Int64.not_lt.mpr h1), if_pos h2])
  · have h1 : x < lZ 1 := cmp_lt.mp (Int32.not_le.mp c1)
    refine j_lconst (x := lZ 1) E dX7_init_154 (by decide) ?_
    refine j_goto E (tgt := 173) dX7_init_155 (by decide) ?_
    exact fin 1 (by unfold clampD; rw [if_pos h1])
end MI
