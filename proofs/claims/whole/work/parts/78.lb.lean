/-! the law: room, its script, methods with a table of their own -/
section LB0
variable {p : Program} {l : Launch} {e : Env} {R R2 : Room} {s : State} {m : MethodId} {args : Array Value} {below : List Frame} {meth : Method} {c : Code} {H : Heap} {locs : List Loc} {cells slots : Nat} {Q : State → Prop} {g : JFrame}
theorem lb_room {s : State} {pl : Platform} (h : s.hasRoom pl R = true) (hr : R2.frames ≤ R.frames ∧ R2.cells ≤ R.cells ∧ R2.slots ≤ R.slots ∧ R2.locals ≤ R.locals) : s.hasRoom pl R2 = true := by
  simp only [State.hasRoom, Bool.and_eq_true, decide_eq_true_eq] at h ⊢
  obtain ⟨r1, r2, r3, r4⟩ := hr
  obtain ⟨⟨⟨⟨a, b1, b2, b3, b4, b5⟩, c⟩, d⟩, e⟩ := h
  exact ⟨⟨⟨⟨by omega, by omega, by omega, by omega, by omega, b5⟩, by omega⟩, by omega⟩, e⟩
theorem W.lessRoom (hr : R2.frames ≤ R.frames ∧ R2.cells ≤ R.cells ∧ R2.slots ≤ R.slots ∧ R2.locals ≤ R.locals) (kk : W p l e R2 s m args below meth c H locs cells slots Q g) : W p l e R s m args below meth c H locs cells slots Q g := fun T hT X =>
  kk T hT ⟨X.admits, X.cas, X.clock, X.frames, lb_room X.room hr, X.hears, X.method, X.code, X.here, X.tail, X.warmed, X.limits, X.bytes, X.same⟩
end LB0
/-- which exceptions are not of which classes -/
def XN (U : State) : Prop := va_Nc eS eI U ∧ va_Nc eA eI U ∧ va_Nc eA eS U
theorem XN.moved {u U : State} (h : u.vm.Alike U.vm) (x : XN u) : XN U := ⟨va_Nc.moved h x.1, va_Nc.moved h x.2.1, va_Nc.moved h x.2.2⟩
/-- the contract of a method of the law that catches -/
def CW (l : Launch) (B E0 : Nat) (D : va_G) (y : MethodName) (ws : List Cond) (v mc ms : Nat) (As : List Value) (h : HM) (post : Option Value → HM → Prop) : Prop :=
  Met l y ws (rmv v mc ms) (fun a U => cP l B E0 D As h a U ∧ XN U) (cQ B D post) mc ms (fun q => B ≤ q)
theorem CW.of {l : Launch} {B E0 : Nat} {D : va_G} {y : MethodName} {ws ws' : List Cond} {cc : ByteArray} {maxL : Nat} {ret : Option FieldType} {hh : List (Nat × Nat × Nat × Nat)} {v mc ms : Nat} {As : List Value} {h : HM} {post : Option Value → HM → Prop} (hy : plainName y.cls = true) (hw : ws = Cond.codeWith y cc maxL ret hh :: ws') (hn : (lg_sl As).length ≤ maxL)
    (body : ∀ X : JC, JE X y.cls cc maxL ws ret B E0 D l v mc ms → (jx_c X).exceptionTable.toList = tableOf hh → XN (jx_s X) → J X B D maxL (jQ X B D mc ms post) h 0 0 0 (lv_args 0 As) []) : CW l B E0 D y ws v mc ms As h post := by
  unfold CW Met
  refine MetFree.of_bodyS (code := cc) (maxLocals := maxL) (ret := ret) hy ?_ ?_
  · intro args s m h hn
    obtain ⟨m9, meth, c, hn9, h1, h2, h3, h4, -, h5, h6, -⟩ := Cond.codeWith_spec (atoms_spec (ws := ws) h _ (by rw [hw]; exact List.mem_cons_self))
    cases hn.symm.trans hn9
    exact ⟨meth, c, h1, h2, h3, h4, h5, h6⟩
  · intro p e s m args below meth c s₁ Bd hml hP _
    obtain ⟨⟨rfl, hPW, hR⟩, hX⟩ := hP
    have hh0 : s₁.heap = s.heap := by rw [Bd.state]; rfl
    have hl := lv_entry As (n := maxL) hn
    have htab := vx_table (x := y) Bd (atoms_spec (ws := ws) Bd.pre _ (by rw [hw]; exact List.mem_cons_self))
    have key := body (p, l, e, rmv v mc ms, s, m, As.toArray, below, meth, c) ⟨Bd.exec, Bd.bytes, hml, findClass_of_methodNamed Bd.named, atoms_spec (ws := ws) Bd.pre, Bd.notSynchronized, Bd.returns, hPW, rfl, rfl⟩ htab hX
    have k2 := key s.heap [] _ hR va_S.rf hl
    have k3 : W p l e (headSpec ws (rmv v mc ms)).room s m As.toArray below meth c s.heap [] 0 0 (MQ below (cQ B D post) As.toArray s mc ms (fun q => B ≤ q)) (entryFrame m As.toArray maxL) := by
      rw [lg_entry_eq]
      exact k2
    obtain ⟨t, a1, o, b1, b2, b3⟩ := k3 s₁ hh0 (Stand.of_body Bd)
    exact ⟨t, o, a1, b1, b2, ⟨b3.1, b3.2⟩⟩
section LB
variable {X : JC} {own : String} {cc : ByteArray} {nL : Nat} {ws : List Cond} {ret : Option FieldType} {B E0 : Nat} {D : va_G} {l : Launch} {v mc ms : Nat} {Q : State → Prop} {h : HM} {k n pc : Nat} {L : List (Nat × Value)} {st : List Value}
/-- caught by the row r of this method's table -/
theorem j_catch (E : JE X own cc nL ws ret B E0 D l v mc ms) {hh : List (Nat × Nat × Nat × Nat)} (htab : (jx_c X).exceptionTable.toList = tableOf hh) {Ex : String} (pre suf : List (Nat × Nat × Nat × Nat)) (r : Nat × Nat × Nat × Nat) (hsp : hh = pre ++ r :: suf) (hpass : ∀ z ∈ pre, ∃ nm : String, Cond.classLink own z.2.2.2 nm ∈ ws ∧ z.2.2.2 ≠ 0 ∧ va_Nc Ex nm (jx_s X)) (hcov : covers ⟨r.1, r.2.1, r.2.2.1, r.2.2.2⟩ pc = true) (h0 : r.2.2.2 ≠ 0) (hlink : Cond.classLink own r.2.2.2 Ex ∈ ws) (hcast : Cond.castable Ex Ex ∈ jfw) (kk : ∀ q : Nat, J X B D nL Q h k n r.2.2.1 L [.ref q]) : JT X B D nL Q Ex h k n pc L st := by
  intro H locs ls q ce hR hS hl hce hcv hcl
  have hts := E.2.2.2.2.1
  have hpw := E.2.2.2.2.2.2.2.1
  refine vx_catch E.2.2.2.1 (tableOf pre) ⟨r.1, r.2.1, r.2.2.1, r.2.2.2⟩ (tableOf suf) (by rw [htab, hsp]; unfold tableOf; rw [List.map_append, List.map_cons]) (fun z hz => ?_) hcov h0 (hts _ hlink) (va_Nw.use (jfw_t _ hcast) (hpw.1.2.2.2.2.2.2.2.2.2 _ hcast)) hce hcv hcl (kk q H locs ls hR hS hl)
  obtain ⟨y, hy, rfl⟩ := List.mem_map.mp hz
  obtain ⟨nm, g1, g2, g3⟩ := hpass y hy
  exact Or.inr ⟨g2, nm, hts _ g1, g3⟩
/-- a call of a method of the law that catches -/
theorem j_callW (E : JE X own cc nL ws ret B E0 D l v mc ms) (hX : XN (jx_s X)) {index np maxL v' mc' ms' : Nat} {y : MethodName} {wsy ws' : List Cond} {cy : ByteArray} {ry : Option FieldType} {hh : List (Nat × Nat × Nat × Nat)} {As st2 st : List Value} {post : Option Value → HM → Prop}
    (hM : CW l B E0 D y wsy v' mc' ms' As h post) (hG : GoodIn ws (va_wsS own index y wsy)) (hw : wsy = Cond.codeWith y cy maxL ry hh :: ws') (hd : y.cls ≠ "java/lang/invoke/MethodHandle" ∧ y.cls ≠ "java/lang/invoke/VarHandle" ∧ (parseMethodDescriptor y.desc).map (fun d => d.parameters.length) = some np) (d : decode cc pc = .ok (.invokestatic index, 3)) (hv : v' + 1 ≤ v) (hm : maxL ≤ 45) (hn : As.length = np) (hst : st = As.reverse ++ st2) (hcat : (st2.map fun x => x.category).sum ≤ 8) (hk : k + mc' ≤ mc) (hs : n + ms' ≤ ms)
    (kk : ∀ (r : Option Value) (h1 : HM), post r h1 → J X B D nL Q h1 (k + mc') (n + ms') (pc + 3) L (r.toList ++ st2)) : J X B D nL Q h k n pc L st := by
  refine j_ofRun (a := As.toArray) E (fun H locs ls hR hS hl => ?_) kk
  have hM' : Met (jx_l X) y wsy (rmv v' mc' ms') (fun a U => cP l B E0 D As h a U ∧ XN U) (cQ B D post) mc' ms' (fun q => B ≤ q) := by rw [E.2.2.2.2.2.2.2.2.2]; exact hM
  exact vx_runSW ⟨E.1, E.2.1, E.2.2.1, E.2.2.2.1, E.2.2.2.2.1⟩ hM' (vx_cwSW np E.2.2.2.2.1 hG hw rfl rfl hd (by rw [je_R E]; exact jx_cr (index := 0) (n0 := 0) hv hm)) ⟨fun a U g mk q => ⟨cP_blind a U g mk q.1, XN.moved (u := U) (U := U.calling g mk a) (Vm.Alike.refl U.vm) q.2⟩, fun U hU hW => ⟨je_P E hR hS U hU hW, hX.moved hW.alike⟩⟩ rfl hn hl.1 hst (lv_room hcat) d (by rw [je_R E]; exact ⟨hk, hs⟩)
/-- the script's cells -/
theorem j_slen (E : JE X own cc nL ws ret B E0 D l v mc ms) {b N : Nat} {xs : Nat → Int32} (hX : va_X b N xs (jx_s X) (jx_s X).heap) (hb : b < (jx_s X).heap.size ∧ b < B) (d : decode cc pc = .ok (.arraylength, 1)) (kk : J X B D nL Q h k n (pc + 1) L (.int (nI N) :: st)) : J X B D nL Q h k n pc L (.ref b :: st) := fun H locs ls hR hS hl =>
  va_slen E.1 E.2.1 hX hb.1 (Nat.not_le.mpr hb.2) hS d (kk H locs ls hR hS hl)
theorem j_sld (E : JE X own cc nL ws ret B E0 D l v mc ms) {b N : Nat} {xs : Nat → Int32} (hX : va_X b N xs (jx_s X) (jx_s X).heap) (hb : b < (jx_s X).heap.size ∧ b < B) {x : Int32} (i : Nat) (d : decode cc pc = .ok (.iaload, 1)) (hx : x = nI i) (hi : i < N) (hN : N < 2 ^ 31) (kk : J X B D nL Q h k n (pc + 1) L (.int (xs i) :: st)) : J X B D nL Q h k n pc L (.int x :: .ref b :: st) := by
  subst hx
  intro H locs ls hR hS hl
  have k2 := kk H locs ls hR hS hl
  refine va_sld E.1 E.2.1 hX hb.1 (Nat.not_le.mpr hb.2) hS (vp_in_nI hi hN) d ?_
  rw [nI_clamp (show i < 2 ^ 31 by omega)]
  exact k2
theorem j_tsw (E : JE X own cc nL ws ret B E0 D l v mc ms) {dflt lo hi : Int} {offs : Array Int} {len : Nat} {x : Int32} {off : Int} {tgt : Nat} (d : decode cc pc = .ok (.tableswitch dflt lo hi offs, len)) (h1 : ¬ x.toInt < lo) (h2 : ¬ hi < x.toInt) (ho : offs[(x.toInt - lo).toNat]? = some off) (ht : (pc : Int) + off = (tgt : Int)) (kk : J X B D nL Q h k n tgt L st) : J X B D nL Q h k n pc L (.int x :: st) := fun H locs ls hR hS hl => lv_tableIn E.1 E.2.1 d h1 h2 ho ht (kk H locs ls hR hS hl)
theorem j_tswOut (E : JE X own cc nL ws ret B E0 D l v mc ms) {dflt lo hi : Int} {offs : Array Int} {len : Nat} {x : Int32} {tgt : Nat} (d : decode cc pc = .ok (.tableswitch dflt lo hi offs, len)) (ho : x.toInt < lo ∨ hi < x.toInt) (ht : (pc : Int) + dflt = (tgt : Int)) (kk : J X B D nL Q h k n tgt L st) : J X B D nL Q h k n pc L (.int x :: st) := fun H locs ls hR hS hl => lv_tableOut E.1 E.2.1 d ho ht (kk H locs ls hR hS hl)
end LB
/-- cell(script, 0) -/
noncomputable def cell0 (N : Nat) (xs : Nat → Int32) : Int32 := cI (0 < N) (xs 0) 0
def CC (l : Launch) (B E0 : Nat) (D : va_G) (v b N : Nat) (xs : Nat → Int32) (h : HM) (post : Option Value → HM → Prop) : Prop :=
  Met l yL_cell wsL_cell (rmv v 0 0) (fun a U => cP l B E0 D [.ref b, .int (nI 0)] h a U ∧ va_X b N xs U U.heap ∧ b < U.heap.size) (cQ B D post) 0 0 (fun q => B ≤ q)
section LC
variable {l : Launch} {B E0 : Nat} {D : va_G} {h : HM}
theorem c_cell (v : Nat) {b N : Nat} {xs : Nat → Int32} (hbB : b < B) (hN : N < 2 ^ 31) : CC l B E0 D (v + 1) b N xs h (fun r h1 => r = some (.int (cell0 N xs)) ∧ h1 = h) := by
  refine Met.ofW (cc := cL_cell) (maxL := 2) (ret := some .int) (by decide) rfl ?_
  intro p e s m args below meth c s₁ Bd hml hv
  obtain ⟨⟨rfl, hPW, hR⟩, hXs, hbs⟩ := hv
  have hl := lv_entry [.ref b, .int (nI 0)] (n := 2) (Nat.le_of_ble_eq_true rfl)
  have E : JE (p, l, e, rmv (v + 1) 0 0, s, m, #[.ref b, .int (nI 0)], below, meth, c) yL_cell.cls cL_cell 2 wsL_cell (some .int) B E0 D l (v + 1) 0 0 := ⟨Bd.exec, Bd.bytes, hml, findClass_of_methodNamed Bd.named, atoms_spec (ws := wsL_cell) Bd.pre, Bd.notSynchronized, Bd.returns, hPW, rfl, rfl⟩
  have key : J (p, l, e, rmv (v + 1) 0 0, s, m, #[.ref b, .int (nI 0)], below, meth, c) B D 2 (jQ (p, l, e, rmv (v + 1) 0 0, s, m, #[.ref b, .int (nI 0)], below, meth, c) B D 0 0 (fun r h1 => r = some (.int (cell0 N xs)) ∧ h1 = h)) h 0 0 0 [(0, .ref b), (1, .int (nI 0))] [] := by
    generalize hX : (p, l, e, rmv (v + 1) 0 0, s, m, (#[.ref b, .int (nI 0)] : Array Value), below, meth, c) = X at E
    have es : jx_s X = s := by rw [← hX]; rfl
    rw [← es] at hXs hbs
    clear hX es
    generalize hQ : jQ X B D 0 0 _ = Q
    refine j_iload_n E dL_cell_0 rfl ?_
    refine j_aload_n E dL_cell_1 rfl ?_
    refine j_slen E hXs ⟨hbs, hbB⟩ dL_cell_2 ?_
    refine j_icmp_ge E (tgt := 12) dL_cell_3 (by decide) (fun c1 => ?_) (fun c1 => ?_)
    · have n0 : ¬ 0 < N := fun z => nI_ge z hN c1
      refine j_iconst (x := nI 0) E dL_cell_12 (by decide) ?_
      refine J.topi (x' := cell0 N xs) ((cI_f n0).symm) ?_
      rw [← hQ]
      exact j_iret E dL_cell_13 rfl rfl (by omega) (by omega) ⟨rfl, rfl⟩
    · have p0 : 0 < N := Nat.pos_of_ne_zero (fun z => c1 (by rw [z]; exact Int32.le_refl _))
      refine j_aload_n E dL_cell_6 rfl ?_
      refine j_iload_n E dL_cell_7 rfl ?_
      refine j_sld E hXs ⟨hbs, hbB⟩ 0 dL_cell_8 rfl p0 hN ?_
      refine j_goto E (tgt := 13) dL_cell_9 (by decide) ?_
      refine J.topi (x' := cell0 N xs) (cI_t p0).symm ?_
      rw [← hQ]
      exact j_iret E dL_cell_13 rfl rfl (by omega) (by omega) ⟨rfl, rfl⟩
  have k2 := key s.heap [] _ hR va_S.rf hl
  rw [lg_entry_eq]
  exact k2
end LC
theorem j_cell {X : JC} {own : String} {cc : ByteArray} {nL : Nat} {ws : List Cond} {ret : Option FieldType} {B E0 : Nat} {D : va_G} {l : Launch} {v mc ms : Nat} {Q : State → Prop} {h : HM} {k n pc : Nat} {L : List (Nat × Value)} {st : List Value} (E : JE X own cc nL ws ret B E0 D l v mc ms) {b N : Nat} {xs : Nat → Int32} (hX : va_X b N xs (jx_s X) (jx_s X).heap) (hb : b < (jx_s X).heap.size ∧ b < B) (hN : N < 2 ^ 31) {index : Nat} (hG : GoodIn ws (va_wsS own index yL_cell wsL_cell)) (d : decode cc pc = .ok (.invokestatic index, 3)) (hv : 2 ≤ v) (hcat : (st.map fun x => x.category).sum ≤ 8) (hk : k ≤ mc) (hs : n ≤ ms) (kk : J X B D nL Q h k n (pc + 3) L (.int (cell0 N xs) :: st)) : J X B D nL Q h k n pc L (.int (nI 0) :: .ref b :: st) := by
  refine j_ofRun (a := #[.ref b, .int (nI 0)]) (mc' := 0) (ms' := 0) (st2 := st) (post := fun r h1 => r = some (.int (cell0 N xs)) ∧ h1 = h) E (fun H locs ls hR hS hl => ?_) (fun r h1 p => ?_)
  · have hM := c_cell (l := l) (E0 := E0) (D := D) (h := h) 0 (xs := xs) hb.2 hN
    have hM' : Met (jx_l X) yL_cell wsL_cell (rmv 1 0 0) (fun a U => cP l B E0 D [.ref b, .int (nI 0)] h a U ∧ va_X b N xs U U.heap ∧ b < U.heap.size) (cQ B D (fun r h1 => r = some (.int (cell0 N xs)) ∧ h1 = h)) 0 0 (fun q => B ≤ q) := by rw [E.2.2.2.2.2.2.2.2.2]; exact hM
    exact va_runS (As := [.ref b, .int (nI 0)]) ⟨E.1, E.2.1, E.2.2.1, E.2.2.2.1, E.2.2.2.2.1⟩ hM' (va_cwS 2 E.2.2.2.2.1 hG rfl rfl rfl ⟨by decide, by decide, by decide +kernel⟩ (by rw [je_R E]; exact jx_cr (index := 0) (n0 := 0) hv (by decide))) ⟨fun a U g mk q => ⟨cP_blind a U g mk q.1, va_X.moved (u := U) (U := U.calling g mk a) (Vm.Alike.refl U.vm) q.2.1, q.2.2⟩, fun U hU hW => ⟨je_P E hR hS U hU hW, by rw [hU]; exact (hX.kept (hS.2.1 b hb.1 (Nat.not_le.mpr hb.2))).moved hW.alike, by rw [hU]; exact Nat.lt_of_lt_of_le hb.1 hS.1⟩⟩ rfl rfl hl.1 rfl (lv_room hcat) d (by rw [je_R E]; exact ⟨hk, hs⟩)
  · obtain ⟨rfl, rfl⟩ := p
    exact kk
