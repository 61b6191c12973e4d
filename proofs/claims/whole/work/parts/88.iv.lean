/-! THE CLAIM OUT OF ONE WALK OF THE LAW'S BODY. Your part is whole_start (and what it stands on); all else here is the same for every law, but numbers. -/
def R_law : String := "ColourPartsLaw"
def lw_P (b : Addr) (xs : List Int32) (args : Array Value) (s : State) : Prop := args = #[.ref b] ∧ s.IntsAt b xs ∧ xs.length ≤ 3073 ∧ (Jvm.Cond.and given_1 narrow_1).before args s = true
def lw_Q (_ : Array Value) (s : State) (o : Outcome) (t : State) : Prop := o = .returned (some (.int 1)) ∧ Framed s o t [] 601024 7293000
def lw_Z (below : List Frame) (a : Array Value) (s : State) : State → Prop := fun t => ∃ o, t.status = .running ∧ Ended t below o ∧ lw_Q a s o t
/-- the law's own end, with 1 on the stack, nothing written that was there before, its room as the claim has it -/
theorem lw_ret {p : Program} {l : Launch} {e : Env} {s : State} {m : MethodId} {below : List Frame} {meth : Method} {c : Code} {b : Nat} (hx : p.tables.exec = Jvm.exec) (hb : c.code = code) (hr : meth.sig.returnType = ret) (hlocks : meth.locks = false) {pc : Nat} {H : Heap} {ls : Array Slot} (hdg : decode code pc = .ok (.ireturn, 1)) : W p l e room_1 s m #[Value.ref b] below meth c H [] 601024 7293000 (lw_Z below #[Value.ref b] s) (F0 m pc ls [.int 1]) := by
  intro T hT X
  obtain ⟨fs, hret, hrun, hended, hW, hframe⟩ := X.leave (v := some (.int 1)) (hlocks := hlocks) (fun h => by rw [hr] at h; cases h)
  have hmeth' : T.vm.method? m = some meth := X.method'
  refine ⟨T.setFrames fs, ?_, .returned (some (.int 1)), hrun, hended, rfl, ⟨_, rfl⟩, hW, hframe⟩
  jvm_step X.here [X.here.top, hx, hb, hdg, hmeth', hr, ret, narrow_b1]
  (try refine ⟨rfl, ?_⟩); (try refine ⟨rfl, ?_⟩)
  first | (intro acts; rw [hret _ acts rfl rfl rfl]) | rw [hret _ _ rfl rfl rfl]
  exact Steps.refl _
/-- what holds at the law's entry: the machine, the code, the tables' words (any of lw_tbl by 'hts w (by decide +kernel)'), the script of L ints xs at the cell b, what the Statement gives of the start (any of its parts by flat_of_before) -/
def lw_At (p : Program) (s : State) (m : MethodId) (meth : Method) (c : Code) (b L : Nat) (xs : Nat → Int32) : Prop :=
  p.tables.exec = Jvm.exec ∧ c.code = code ∧ meth.sig.returnType = ret ∧ c.maxLocals = 8 ∧ s.vm.findClass R_law = some m.cls ∧ (∀ w ∈ lw_tbl, w.before #[Value.ref b] s = true) ∧ va_X b L xs s s.heap ∧ b < s.heap.size ∧ meth.locks = false ∧ (Jvm.Cond.and given_1 narrow_1).before #[Value.ref b] s = true
theorem lw_retR {p : Program} {l : Launch} {e : Env} {R : Room} {s : State} {m : MethodId} {below : List Frame} {meth : Method} {c : Code} {b : Nat} (hx : p.tables.exec = Jvm.exec) (hb : c.code = code) (hr : meth.sig.returnType = ret) (hlocks : meth.locks = false) {pc : Nat} {H : Heap} {ls : Array Slot} (hdg : decode code pc = .ok (.ireturn, 1)) : W p l e R s m #[Value.ref b] below meth c H [] 601024 7293000 (lw_Z below #[Value.ref b] s) (F0 m pc ls [.int 1]) := by
  intro T hT X
  obtain ⟨fs, hret, hrun, hended, hW, hframe⟩ := X.leave (v := some (.int 1)) (hlocks := hlocks) (fun h => by rw [hr] at h; cases h)
  have hmeth' : T.vm.method? m = some meth := X.method'
  refine ⟨T.setFrames fs, ?_, .returned (some (.int 1)), hrun, hended, rfl, ⟨_, rfl⟩, hW, hframe⟩
  jvm_step X.here [X.here.top, hx, hb, hdg, hmeth', hr, ret, narrow_b1]
  (try refine ⟨rfl, ?_⟩); (try refine ⟨rfl, ?_⟩)
  first | (intro acts; rw [hret _ acts rfl rfl rfl]) | rw [hret _ _ rfl rfl rfl]
  exact Steps.refl _

theorem lw_world {s : State} {b : Nat} (l : Launch) (hflags : l.flags = flags0) (hts : ∀ w ∈ lw_tbl, w.before #[Value.ref b] s = true) (hgv : (Jvm.Cond.and given_1 narrow_1).before #[Value.ref b] s = true) : ∃ (E0 : Nat) (D : va_G) (h : HM) (f0 : Nat → Option Nat), PW l s.heap.size E0 D s ∧ hm_R s s.heap.size D h s.heap ∧ h E0 = some (hQ 0 f0) ∧ XN s := by
  have fl := flat_of_before _ hgv
  have hA : ∀ a : Nat, a < s.heap.size → ¬ (fun q : Nat => s.heap.size ≤ q) a := fun a h => Nat.not_le.mpr h
  obtain ⟨mi, hmi⟩ := va_Mi.of (C := "[Ljava/lang/Object;") (fl (Cond.isRef (.mirror "[Ljava/lang/Object;")) (by decide +kernel))
  -- the empty array
  have hex := fl (Cond.exactly (.static "java/util/ArrayList" "DEFAULTCAPACITY_EMPTY_ELEMENTDATA" "[Ljava/lang/Object;") "[Ljava/lang/Object;") (by decide +kernel)
  have har := fl (Cond.arrayOf (.static "java/util/ArrayList" "DEFAULTCAPACITY_EMPTY_ELEMENTDATA" "[Ljava/lang/Object;") (.object "java/lang/Object")) (by decide +kernel)
  have hln := va_eqt (fl (Cond.eq (.length (.static "java/util/ArrayList" "DEFAULTCAPACITY_EMPTY_ELEMENTDATA" "[Ljava/lang/Object;")) (.int 0)) (by decide +kernel))
  obtain ⟨E0, cell, ev, hat, hz⟩ := Term.length_spec hln
  obtain ⟨hcell, -, -, -⟩ := State.arrayAt?_spec hat
  obtain ⟨hof, -⟩ := Cond.arrayOf_spec har ev hcell
  have hsz : cell.slots.size.toInt32 = 0 := (Value.int.inj hz).symm
  have hZ : va_Z "java/util/ArrayList" "DEFAULTCAPACITY_EMPTY_ELEMENTDATA" "[Ljava/lang/Object;" (.ref E0) (fun q => s.heap.size ≤ q) s s.heap := va_Zof (hts (.laysStatic "java/util/ArrayList" "DEFAULTCAPACITY_EMPTY_ELEMENTDATA" "[Ljava/lang/Object;") (List.mem_of_getElem? (i := 87) (by decide +kernel))) (hts (.initialized "java/util/ArrayList") (by decide +kernel)) ev hA
  have hU : vx_Zq Bundle.tN "UNASSIGNED_STACK" Bundle.steD (fun q => s.heap.size ≤ q) s s.heap := vx_Zqof (hts (.laysStatic Bundle.tN "UNASSIGNED_STACK" Bundle.steD) (List.mem_of_getElem? (i := 208) (by decide +kernel))) (hts (.initialized Bundle.tN) (by decide +kernel)) (fl (Cond.isRef (.static Bundle.tN "UNASSIGNED_STACK" Bundle.steD)) (by decide +kernel)) hA
  have hS : vx_Zq Bundle.tN "SUPPRESSED_SENTINEL" Bundle.listD (fun q => s.heap.size ≤ q) s s.heap := vx_Zqof (hts (.laysStatic Bundle.tN "SUPPRESSED_SENTINEL" Bundle.listD) (List.mem_of_getElem? (i := 210) (by decide +kernel))) (hts (.initialized Bundle.tN) (by decide +kernel)) (fl (Cond.isRef (.static Bundle.tN "SUPPRESSED_SENTINEL" Bundle.listD)) (by decide +kernel)) hA
  -- the classes
  obtain ⟨c0, i0, k0⟩ := u_known (C := RJx4a65c) (T := TJx4a65c) (N := 3) (n := 3) hts inJx4a65c (hts (.instantiable RJx4a65c 3) (by decide +kernel))
  obtain ⟨c1, i1, k1⟩ := u_known (C := RX0) (T := TX0) (N := 4) (n := 4) hts inX0 (hts (.instantiable RX0 4) (by decide +kernel))
  obtain ⟨c2, i2, k2⟩ := u_known (C := RX1) (T := TX1) (N := 6) (n := 6) hts inX1 (hts (.instantiable RX1 6) (by decide +kernel))
  obtain ⟨c3, i3, k3⟩ := u_known (C := RX2) (T := TX2) (N := 4) (n := 4) hts inX2 (hts (.instantiable RX2 4) (by decide +kernel))
  obtain ⟨c4, i4, k4⟩ := u_known (C := RX3) (T := TX3) (N := 1) (n := 1) hts inX3 (hts (.instantiable RX3 1) (by decide +kernel))
  obtain ⟨c5, i5, k5⟩ := u_known (C := RX4) (T := TX4) (N := 9) (n := 9) hts inX4 (hts (.instantiable RX4 9) (by decide +kernel))
  obtain ⟨c6, i6, k6⟩ := u_known (C := RX5) (T := TX5) (N := 9) (n := 9) hts inX5 (hts (.instantiable RX5 9) (by decide +kernel))
  obtain ⟨c7, i7, k7⟩ := u_known (C := RX6) (T := TX6) (N := 6) (n := 6) hts inX6 (hts (.instantiable RX6 6) (by decide +kernel))
  obtain ⟨c8, i8, k8⟩ := u_known (C := RX7) (T := TX7) (N := 27) (n := 27) hts inX7 (hts (.instantiable RX7 27) (by decide +kernel))
  have hK : va_K (fun k => [c0, c1, c2, c3, c4, c5, c6, c7, c8].getD k c0, fun k j => if k = 99 then mi else ([i0, i1, i2, i3, i4, i5, i6, i7, i8].getD k i0) j) vwCl [] s := by
    refine ⟨fun k q hq => ?_, fun k q h => by simp at h⟩
    match k, hq with
    | 0, hq => cases hq; exact k0
    | 1, hq => cases hq; exact k1
    | 2, hq => cases hq; exact k2
    | 3, hq => cases hq; exact k3
    | 4, hq => cases hq; exact k4
    | 5, hq => cases hq; exact k5
    | 6, hq => cases hq; exact k6
    | 7, hq => cases hq; exact k7
    | 8, hq => cases hq; exact k8
    | k + 9, hq => simp [vwCl] at hq
  have hcast : ∀ (ci : Nat) (q : vw_C), vwCl[ci]? = some q → va_Nw (.castable q.1 "java/lang/Object") s := by
    intro k q hq
    match k, hq with
    | 0, hq => cases hq; exact va_Nw.of rfl (hts (.castable RJx4a65c "java/lang/Object") (List.mem_of_getElem? (i := 1035) (by decide +kernel)))
    | 1, hq => cases hq; exact va_Nw.of rfl (hts (.castable RX0 "java/lang/Object") (List.mem_of_getElem? (i := 1041) (by decide +kernel)))
    | 2, hq => cases hq; exact va_Nw.of rfl (hts (.castable RX1 "java/lang/Object") (List.mem_of_getElem? (i := 1045) (by decide +kernel)))
    | 3, hq => cases hq; exact va_Nw.of rfl (hts (.castable RX2 "java/lang/Object") (List.mem_of_getElem? (i := 1043) (by decide +kernel)))
    | 4, hq => cases hq; exact va_Nw.of rfl (hts (.castable RX3 "java/lang/Object") (List.mem_of_getElem? (i := 1042) (by decide +kernel)))
    | 5, hq => cases hq; exact va_Nw.of rfl (hts (.castable RX4 "java/lang/Object") (List.mem_of_getElem? (i := 1044) (by decide +kernel)))
    | 6, hq => cases hq; exact va_Nw.of rfl (hts (.castable RX5 "java/lang/Object") (List.mem_of_getElem? (i := 1038) (by decide +kernel)))
    | 7, hq => cases hq; exact va_Nw.of rfl (hts (.castable RX6 "java/lang/Object") (List.mem_of_getElem? (i := 1034) (by decide +kernel)))
    | 8, hq => cases hq; exact va_Nw.of rfl (hts (.castable RX7 "java/lang/Object") (List.mem_of_getElem? (i := 1036) (by decide +kernel)))
    | k + 9, hq => simp [vwCl] at hq
  have hstr : ∀ q ∈ jstr, ∃ a, vk_R "ColourParts" q.1 q.2 a s := by
    have one : ∀ (n : Nat) (t : String), (Cond.stringRef "ColourParts" n t).before #[Value.ref b] s = true → (Cond.exactly (.string "ColourParts" n) "java/lang/String").before #[Value.ref b] s = true → ∃ a, vk_R "ColourParts" n t a s := by
      intro n t h1 h2
      obtain ⟨a, c, cA, kA, q1, -⟩ := Cond.exactly_spec (args := #[Value.ref b]) (first := s) (o := none) (s := s) (idx := []) h2
      exact ⟨a, vk_R.of h1 q1⟩
    intro q hq
    simp only [jstr, List.mem_cons, List.not_mem_nil, or_false] at hq
    rcases hq with rfl | rfl | rfl | rfl | rfl | rfl | rfl | rfl | rfl | rfl | rfl | rfl | rfl | rfl | rfl
    · exact one _ _ (hts _ (List.mem_of_getElem? (i := 222) (by decide +kernel))) (fl _ (by decide +kernel))
    · exact one _ _ (hts _ (List.mem_of_getElem? (i := 371) (by decide +kernel))) (fl _ (by decide +kernel))
    · exact one _ _ (hts _ (List.mem_of_getElem? (i := 378) (by decide +kernel))) (fl _ (by decide +kernel))
    · exact one _ _ (hts _ (List.mem_of_getElem? (i := 393) (by decide +kernel))) (fl _ (by decide +kernel))
    · exact one _ _ (hts _ (List.mem_of_getElem? (i := 470) (by decide +kernel))) (fl _ (by decide +kernel))
    · exact one _ _ (hts _ (List.mem_of_getElem? (i := 484) (by decide +kernel))) (fl _ (by decide +kernel))
    · exact one _ _ (hts _ (List.mem_of_getElem? (i := 728) (by decide +kernel))) (fl _ (by decide +kernel))
    · exact one _ _ (hts _ (List.mem_of_getElem? (i := 739) (by decide +kernel))) (fl _ (by decide +kernel))
    · exact one _ _ (hts _ (List.mem_of_getElem? (i := 747) (by decide +kernel))) (fl _ (by decide +kernel))
    · exact one _ _ (hts _ (List.mem_of_getElem? (i := 752) (by decide +kernel))) (fl _ (by decide +kernel))
    · exact one _ _ (hts _ (List.mem_of_getElem? (i := 757) (by decide +kernel))) (fl _ (by decide +kernel))
    · exact one _ _ (hts _ (List.mem_of_getElem? (i := 758) (by decide +kernel))) (fl _ (by decide +kernel))
    · exact one _ _ (hts _ (List.mem_of_getElem? (i := 770) (by decide +kernel))) (fl _ (by decide +kernel))
    · exact one _ _ (hts _ (List.mem_of_getElem? (i := 778) (by decide +kernel))) (fl _ (by decide +kernel))
    · exact one _ _ (hts _ (List.mem_of_getElem? (i := 786) (by decide +kernel))) (fl _ (by decide +kernel))
  have hjfw : ∀ w ∈ jfw, va_Nw w s := by
    intro w hw
    refine va_Nw.of (jfw_t w hw) (hts w ?_)
    simp only [jfw, List.mem_cons, List.not_mem_nil, or_false] at hw
    rcases hw with rfl | rfl | rfl | rfl | rfl | rfl
    · exact List.mem_of_getElem? (i := 364) (by decide +kernel)
    · exact List.mem_of_getElem? (i := 183) (by decide +kernel)
    · exact List.mem_of_getElem? (i := 386) (by decide +kernel)
    · exact List.mem_of_getElem? (i := 185) (by decide +kernel)
    · exact List.mem_of_getElem? (i := 187) (by decide +kernel)
    · exact List.mem_of_getElem? (i := 189) (by decide +kernel)
  have hPx : PWx (fun k => [c0, c1, c2, c3, c4, c5, c6, c7, c8].getD k c0, fun k j => if k = 99 then mi else ([i0, i1, i2, i3, i4, i5, i6, i7, i8].getD k i0) j) s := ⟨hmi, va_Dc.of (hts _ (List.mem_of_getElem? (i := 1050) (by decide +kernel))), va_AO.of (hts (.arrayOver (.object "java/lang/Object")) (List.mem_of_getElem? (i := 339) (by decide +kernel))), va_Nw.of rfl (hts _ (List.mem_of_getElem? (i := 250) (by decide +kernel))), va_Nw.of rfl (hts _ (List.mem_of_getElem? (i := 491) (by decide +kernel))), hjfw⟩
  refine ⟨E0, _, fun q => if q = E0 then some (hQ 0 (fun _ => none)) else none, fun _ => none, ⟨⟨?_, hK, hcast, hstr, hPx⟩, Nat.le_refl _, hZ, hU, hS⟩, fun a o ho => ?_, if_pos rfl, va_Nc.of (fl (Cond.not (.castable eS eI)) (by decide +kernel)), va_Nc.of (fl (Cond.not (.castable eA eI)) (by decide +kernel)), va_Nc.of (fl (Cond.not (.castable eA eS)) (by decide +kernel))⟩
  · unfold Launch.stackTraces
    rw [hflags]
    decide
  · by_cases e : a = E0
    · have h2 : some (hQ 0 (fun _ => none)) = some o := by rw [← ho]; exact (if_pos e).symm
      cases h2
      rw [e]
      exact ⟨Or.inr ⟨rfl, cell, hcell, hof, hsz⟩, Or.inl rfl⟩
    · have h2 : (none : Option HO) = some o := by rw [← ho]; exact (if_neg e).symm
      cases h2
/-- YOUR PART: from the entry, for every script of at most 3073 ints, the law comes to its end with true -/
theorem whole_start {p : Program} {e : Env} {s : State} {m : MethodId} {below : List Frame} {meth : Method} {c : Code} (l : Launch) (hflags : l.flags = flags0) {b L : Nat} {xs : Nat → Int32} (hL : L ≤ 3073) (C0 : lw_At p s m meth c b L xs) : W p l e room_1 s m #[Value.ref b] below meth c s.heap [] 0 0 (lw_Z below #[Value.ref b] s) (entryFrame m ([Value.ref b] : List Value).toArray 8) := by
  obtain ⟨hx, hb, hr, hml, hown, hts, hX, hbl, hlocks, hgv⟩ := C0
  obtain ⟨E0, D, h, f0, hPW, hR, hE, hXN⟩ := lw_world l hflags hts hgv
  have hl := lv_entry ([.ref b]) (n := 8) (Nat.le_of_ble_eq_true rfl)
  rw [lg_entry_eq]
  generalize (lg_sl ([.ref b]) ++ List.replicate (8 - (lg_sl ([.ref b])).length) Slot.unset).toArray = ls at hl ⊢
  have hl : lv_has ls 8 [(0, .ref b)] := hl
  refine W.lessRoom (R2 := rmv 1300 601024 7293000) ⟨Nat.le_of_ble_eq_true rfl, Nat.le_refl _, Nat.le_refl _, Nat.le_of_ble_eq_true rfl⟩ ?_
  have E : JE (p, l, e, rmv 1300 601024 7293000, s, m, #[Value.ref b], below, meth, c) RL cL_law 8 wsL_law ret s.heap.size E0 D l 1300 601024 7293000 := ⟨hx, hb, hml, hown, fun w h => hts w (wsL_law_in w h), hlocks, hr, hPW, rfl, rfl⟩
  refine law_start (X := (p, l, e, rmv 1300 601024 7293000, s, m, #[Value.ref b], below, meth, c)) E hXN hX ⟨hbl, hbl⟩ hL (by decide) (fun h k n L2 h1 h2 => ?_) hE s.heap [] ls hR va_S.rf hl
  intro H locs ls hR hS hl
  exact W.widen h1 h2 (va_forget (fun q hq => hS.2.2 q hq) (lw_retR hx hb hr hlocks dL_law_1056))
set_option maxHeartbeats 4000000 in
theorem lw_walk (l : Launch) (hflags : l.flags = flags0) (b : Addr) (xs : List Int32) : MetFree l x (headSpec (Jvm.Cond.code x code maxLocals ret :: tables_1) room_1) (lw_P b xs) (fun _ _ _ _ _ => True) lw_Q := by
  refine MetFree.of_bodyS (code := code) (maxLocals := maxLocals) (ret := ret) (by decide) ?_ ?_
  · intro args s m h hn
    obtain ⟨meth, c, h1, h2, h3, h4, h5, h6, -, -⟩ := Cond.code_spec hn (atoms_spec (ws := Jvm.Cond.code x code maxLocals ret :: tables_1) h _ List.mem_cons_self)
    exact ⟨meth, c, h1, h2, h3, h4, h5, h6⟩
  · intro p e s m args below meth c s₁ B hml0 hP _
    obtain ⟨rfl, hx, hbd, hgv⟩ := hP
    obtain ⟨scr, harrAt, hlist, hof, hsmall⟩ := hx
    obtain ⟨hcb, hkn, -, -⟩ := State.arrayAt?_spec harrAt
    have hown : s.vm.findClass R_law = some m.cls := findClass_of_methodNamed B.named
    have hts0 : ∀ c ∈ (Jvm.Cond.code x code maxLocals ret :: tables_1), c.before #[Value.ref b] s = true := atoms_spec (ws := Jvm.Cond.code x code maxLocals ret :: tables_1) B.pre
    have hts : ∀ w ∈ lw_tbl, w.before #[Value.ref b] s = true := k2_hts_sels lw_privs (fun w hw => hts0 w (List.mem_cons_of_mem _ hw)) lw_privs_ok
    have hml : c.maxLocals = 8 := B.maxLocals_eq (hts0 _ List.mem_cons_self)
    have X₀ : Stand p l e room_1 s m #[Value.ref b] below meth c s₁ [] 0 0 := Stand.of_body B
    have hh0 : s₁.heap = s.heap := by rw [B.state]; rfl
    have hsz : scr.slots.size = xs.length := by rw [← Array.length_toList, hlist, List.length_map]
    have hval : ∀ j : Nat, j < xs.length → scr.slots[j]? = some (.int (xs.getD j 0)) := fun j hj => by
      rw [← Array.getElem?_toList, hlist]
      simp [hj]
    have hbl : b < s.heap.size := (Array.getElem?_eq_some_iff.mp hcb).1
    have hX : va_X b xs.length (fun j => xs.getD j 0) s s.heap := ⟨scr, hcb, hof, hkn, hsz, hval⟩
    have K : W p l e room_1 s m #[Value.ref b] below meth c s₁.heap [] 0 0 (lw_Z below #[Value.ref b] s) (entryFrame m ([Value.ref b] : List Value).toArray 8) := by
      rw [hh0]
      exact whole_start l hflags hbd ⟨B.exec, B.bytes, B.returns, hml, hown, hts, hX, hbl, B.notSynchronized, hgv⟩
    obtain ⟨t, a1, o, b1, b2, b3⟩ := K s₁ rfl X₀
    exact ⟨t, o, a1, b1, b2, b3⟩
theorem lw_pre_spec {args : Array Value} {s : State} (h : (Jvm.Cond.and given_1 narrow_1).before args s = true) (hr : rest_1_c.before args s = true) : ∃ (b : Addr) (xs : List Int32), lw_P b xs args s := by
  have hs := flat_of_before _ h
  have hq := flat_of_before _ hr
  have hc : (Cond.count 1).before args s = true := hs _ (by decide +kernel)
  have harr : (Cond.arrayOf (.arg 0) .int).before args s = true := hs _ (by decide +kernel)
  have hle : (Cond.le (.length (.arg 0)) (.int 3073)).before args s = true := hs _ (by decide +kernel)
  have hlen : (Cond.isInt (.length (.arg 0))).before args s = true := hq _ (by decide +kernel)
  have hall : (Cond.all (.arg 0) (.isInt (.elem (.arg 0) (.index 0)))).before args s = true := hq _ (by decide +kernel)
  obtain ⟨b, xs, hb, hx⟩ := State.ints_of_pre rfl harr hlen hall
  have hsm : xs.length < 2 ^ 31 := hx.choose_spec.2.2.2
  have hev : (Term.length (.arg 0)).eval args s none [] s = some (.int xs.length.toInt32) := hx.length_eval hb
  have hv := Cond.le_ints hev (show (Term.int 3073).eval args s none [] s = some (.int 3073) from rfl)
  have hd : xs.length.toInt32 ≤ 3073 := by
    simpa [Cond.before, Cond.holds, hv] using hle
  have hN : xs.length ≤ 3073 := (Int32.ofNat_le_ofNat hsm (by decide)).mp (show Int32.ofNat xs.length ≤ Int32.ofNat 3073 from hd)
  exact ⟨b, xs, Cond.one_arg hc (show args[0]? = some (.ref b) from hb), hx, hN, h⟩
theorem lw_comes (l : Launch) (hflags : l.flags = flags0) : Comes l x (Jvm.Cond.code x code maxLocals ret :: tables_1) room_1 (fun tb e args s => Calls_1 tb e args s ∧ rest_1 tb e args s ∧ Pre_1 tb e args s)
    (fun _ _ args s o t => lw_Q args s o t) := by
  intro p e ha hc hk s m args below hf hfit hheap happ hpre
  obtain ⟨b, xs, hP⟩ := lw_pre_spec hpre.2.2 hpre.2.1
  obtain ⟨k, o, h1, h2, h3, hQ⟩ := lw_walk l hflags b xs p e ha hc hk s m args below hf ((Spec.applies_iff_loose hf).mp happ).1 hP trivial
  exact ⟨k, o, h1, h2, h3, hQ⟩
theorem lw_frame {s t : State} {o : Outcome} {args : Array Value} (h : Framed s o t [] 601024 7293000) :
    Framed s o t (fieldLocs frame_1_writes args s ++ arrayLocs frame_1_arrays args s ++ staticLocs frame_1_statics s) 601024 7293000 := h
theorem lw_limb (L : Cond) (hL : ∀ (args : Array Value) (s t : State), L.after args s (.returned (some (.int 1))) t = true) :
    ArmFor flags0 classFile x code maxLocals ret World_1 tables_1 room_1 Calls_1 rest_1 Pre_1
      (fun tb e a s o t => postC L tb e a s o t ∧ Framed s o t (fieldLocs frame_1_writes a s ++ arrayLocs frame_1_arrays a s ++ staticLocs frame_1_statics s) 601024 7293000) := by
  intro l hflags _ _ p e ha hc hk s m args below hf hfit hheap happ hpre
  obtain ⟨k, o, h1, h2, h3, rfl, hF⟩ := lw_comes l hflags p e ha hc hk s m args below hf hfit hheap happ hpre
  exact ⟨k, _, h1, h2, h3, hL args s _, lw_frame hF⟩
theorem i_vc : Claimed_1_1 ∧ Claimed_1_2 := ⟨lw_limb limb_1_1 (fun args s t => by simp [limb_1_1, Cond.after, Cond.holds, Cond.value]), lw_limb limb_1_2 (fun args s t => Cond.after_iff.mpr (by
  first | (rw [show limb_1_2 = Cond.eq .result (.int 1) from rfl, Cond.eq_ints (x := 1) (y := 1) rfl rfl]; simp; done) | (simp [limb_1_2, Cond.value, Term.eval]; done)))⟩
