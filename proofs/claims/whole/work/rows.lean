section
/-! ===== BEGIN words of one list among another's, by their places ===== -/
theorem goodIn_r {big : List Cond} (ws : List Cond) (ps : List Nat) (hp : ws = ps.filterMap (fun i => big[i]?)) (h : ws.all goodWord = true) : GoodIn big ws := by
  intro w hw
  have h1 := List.all_eq_true.mp h w hw
  rw [hp] at hw
  obtain ⟨i, -, hi⟩ := List.mem_filterMap.mp hw
  have hm : w ∈ big := by first | exact List.mem_of_getElem? hi | exact List.getElem?_mem hi
  exact ⟨hm, good_of_word h1⟩
theorem goodIn_app {big a b : List Cond} (ha : GoodIn big a) (hb : GoodIn big b) : GoodIn big (a ++ b) := fun w h => (List.mem_append.mp h).elim (ha w) (hb w)
theorem goodIn_ca {big a b : List Cond} {c : Cond} (ha : GoodIn big (c :: a)) (hb : GoodIn big b) : GoodIn big (c :: (a ++ b)) := fun w h => (List.mem_cons.mp h).elim (fun e => ha w (List.mem_cons.mpr (Or.inl e))) (fun h => (List.mem_append.mp h).elim (fun h => ha w (List.mem_cons.mpr (Or.inr h))) (hb w))
theorem goodIn_sub {big ws : List Cond} (hm : ∀ w ∈ ws, w ∈ big) (h : ws.all goodWord = true) : GoodIn big ws := fun w hw => ⟨hm w hw, good_of_word (List.all_eq_true.mp h w hw)⟩
/-! ===== END ===== -/

/-! ===== BEGIN exceptions that leave a method, and their catching by the caller (launches without stack traces) ===== -/
section VXA
/-! The laws vx_back, vx_callV, vx_callS, vx_callSW, vx_throw0, vx_throwS follow proofs of the library, with one case more: JvmDerived/Free/Laws.lean (Back.of_free), Shelf42/LK1.lean (callV, callS), Shelf/KitTraced.lean (throwNew0V, throwNewS). -/
/-- where a method has thrown q: the class by its name, the cell, what was written, the world -/
def vx_T (XC : String → State → State → Prop) (st : State) (q : Addr) (t : State) (mc ms : Nat) (free : Addr → Prop) : Prop :=
  ∃ (E : String) (ce : Cell) (L : List Loc), XC E st t ∧ t.heap[q]? = some ce ∧ ce.vm = .none ∧ st.vm.findClass E = some ce.cls ∧ st.WarmedH t.vm ∧ st.sameButNew ({ t with vm := st.vm } : State) L mc ms ∧ ∀ z ∈ L, free z.base
def vx_Q (Qc : Array Value → State → Outcome → State → Prop) (XC : String → State → State → Prop) (mc ms : Nat) (free : Addr → Prop) : Array Value → State → Outcome → State → Prop := fun a st o t =>
  (Qc a st o t ∧ ∃ L, FrameEnd st o t L mc ms ∧ ∀ q ∈ L, free q.base) ∨ ∃ q, o = .threw q ∧ vx_T XC st q t mc ms free
/-- a callee that returns or throws -/
def vx_Met (l : Launch) (y : MethodName) (ws : List Cond) (rm : Room) (Pc : Array Value → State → Prop) (Qc : Array Value → State → Outcome → State → Prop) (XC : String → State → State → Prop) (mc ms : Nat) (free : Addr → Prop) : Prop :=
  MetFree l y (headSpec ws rm) Pc (fun _ _ _ _ _ => True) (vx_Q Qc XC mc ms free)
def vx_Post (XC : String → State → State → Prop) (mc ms : Nat) (free : Addr → Prop) : Pt → Array Value → Addr → Pt → Prop := fun A a q B =>
  ∃ (g : JFrame) (mk : MethodId) (t : State) (L : List Loc) (E : String) (ce : Cell), B.U.heap = t.heap ∧ B.U.vm = t.vm ∧ XC E (A.U.calling g mk a) t ∧ t.heap[q]? = some ce ∧ ce.vm = .none ∧ A.U.vm.findClass E = some ce.cls ∧ B.locs = A.locs ++ L ∧ (∀ z ∈ L, free z.base) ∧ B.cells = A.cells + mc ∧ B.slots = A.slots + ms
def vx_Back (l : Launch) (R : Room) (p : Program) (e : Env) (below : List Frame) (s : State) (sargs : Array Value) (y : MethodName) (len W9 : Nat)
    (Pre : Pt → Array Value → Prop) (Post : Pt → Array Value → Option Value → Pt → Prop) (PostX : Pt → Array Value → Addr → Pt → Prop) : Prop :=
  ∀ (m : MethodId) (meth : Method) (c : Code) (A : Pt) (g : JFrame) (ig : Instr) (mk : MethodId) (a : Array Value),
    Stand p l e R s m sargs below meth c A.U A.locs A.cells A.slots → g.method = m → g.locals.size = c.maxLocals → decode c.code g.pc = .ok (ig, len) →
    2 * g.monitorRoom + (g.stack.map fun v => v.category).sum ≤ W9 → A.U.methodNamed? y = some mk → Pre A a →
    (∃ (v : Option Value) (B : Pt), Stand p l e R s m sargs below meth c B.U B.locs B.cells B.slots ∧ Post A a v B ∧
      Steps p.tables e below (doInvoke e (A.U.setTop g) [] mk a).1 (B.U.setTop { g with pc := g.pc + len, stack := v.toList ++ g.stack })) ∨
    (∃ (q : Addr) (B : Pt), Stand p l e R s m sargs below meth c B.U B.locs B.cells B.slots ∧ PostX A a q B ∧
      Steps p.tables e below (doInvoke e (A.U.setTop g) [] mk a).1 ((B.U.setTop g).pushFrame (.throwing q)))
section Payer
variable {l : Launch} {R : Room} {p : Program} {e : Env} {below : List Frame} {s : State} {sargs : Array Value} {y : MethodName} {len W9 : Nat}
theorem vx_back {ws : List Cond} {rm : Room} {Pc : Array Value → State → Prop} {Qc : Array Value → State → Outcome → State → Prop} {XC : String → State → State → Prop} {mc ms : Nat} {free : Addr → Prop} {bytes : ByteArray} {maxL : Nat} {ret : Option FieldType}
    (hM : vx_Met l y ws rm Pc Qc XC mc ms free) (hblind : FrameBlind Pc) (hrc : rm.cells = mc) (hrs : rm.slots = ms)
    (hframes : rm.frames + 1 ≤ R.frames) (hlocals : W9 + (maxL + 11) + rm.locals ≤ R.locals)
    (hws : ∀ w ∈ ws, ∀ a' U, s.WarmedH U.vm → w.before a' U = true) (hcode : Cond.code y bytes maxL ret ∈ ws) (hinit : ∀ a' U, s.WarmedH U.vm → (Cond.initialized y.cls).before a' U = true) :
    vx_Back l R p e below s sargs y len W9 (PreOf R mc ms Pc) (PostOf Qc mc ms free) (vx_Post XC mc ms free) := by
  intro m meth c A g ig mk a X hg hsize hdg hW hn hp
  have h1 : (headSpec ws rm).pre.before a A.U = true := atoms_intro fun w hw => hws w hw _ _ X.warmed
  have h2 : (Cond.code y bytes maxL ret).before a A.U = true := hws _ hcode _ _ X.warmed
  have h3 : (Cond.initialized y.cls).before a A.U = true := hinit _ _ X.warmed
  have h4 : A.cells + (headSpec ws rm).room.cells ≤ R.cells := by rw [show (headSpec ws rm).room.cells = mc from hrc]; exact hp.1
  have h5 : A.slots + (headSpec ws rm).room.slots ≤ R.slots := by rw [show (headSpec ws rm).room.slots = ms from hrs]; exact hp.2.1
  have hPc : Pc a (A.U.calling g mk a) := hblind _ _ _ _ hp.2.2
  obtain ⟨U, Ls, c0, s0⟩ := A
  dsimp only [Pt.U, Pt.locs, Pt.cells, Pt.slots] at h1 h2 h3 h4 h5 X hn hPc ⊢
  obtain ⟨methY, cY, hmY, hcY, -, hlY, -, -, -, -⟩ := Cond.code_spec hn h2
  obtain ⟨kY, hkY, -⟩ := className_of_methodNamed hn
  have hinitY : kY.init = .initialized := Cond.initialized_spec (findClass_of_methodNamed hn) hkY h3
  have h : At U g.method c below := by rw [hg]; exact X.here
  have hlocals9 : W9 + (maxL + 11) + (headSpec ws rm).room.locals ≤ R.locals := hlocals
  have happ : (headSpec ws rm).appliesLoose y e.platform (U.calling g mk a) = true :=
    Spec.appliesLoose_calling (g := g) h hdg hn hkY hinitY
      (X.room_calling (g := g) (R' := (headSpec ws rm).room) hsize hmY hcY hframes (by rw [hlY]; omega) h4 h5) h1
  obtain ⟨mid, hmid⟩ := h.above
  have hfr : (U.setTop g).frames = (.java g :: mid) ++ below := by rw [State.frames_setTop' g h.top, hmid]; rfl
  obtain ⟨o, s₂, hsteps, -, hend, hq⟩ := Steps.callFree hM p X.admits X.cas X.clock (acts := []) hfr happ hPc trivial
  have hq' : vx_Q Qc XC mc ms free a (U.calling g mk a) o s₂ := hq
  rw [State.frames_setTop' g h.top] at hend
  obtain ⟨g₀, hg0⟩ := Option.isSome_iff_exists.mp h.top
  obtain ⟨r, hr⟩ := State.topJava?_eq_some.mp hg0
  have hr' : (({ U with heap := s₂.heap, slotsUsed := s₂.slotsUsed } : State).setVm s₂.vm).frames = .java g₀ :: r := hr
  rcases hq' with ⟨hqc, L, hfe, hL⟩ | ⟨q, rfl, E, ce, L, hx, hce, hcv, hcl, hW₂, hsm, hL⟩
  · obtain ⟨⟨v, rfl⟩, hW₂, e2, q2, q3, q4, q5, q6⟩ := id hfe
    have e3 : s₂ = ({ (U.calling g mk a).setFrames s₂.frames with heap := s₂.heap, slotsUsed := s₂.slotsUsed } : State).setVm s₂.vm := by
      have : s₂ = ({ s₂ with vm := (U.calling g mk a).vm } : State).setVm s₂.vm := rfl
      rw [e2] at this
      exact this
    obtain ⟨c₂, i₂, len₂, hc₂, hd₂, hf₂⟩ := hend
    have hW' : U.WarmedH s₂.vm := hW₂
    have hcc : c₂ = c := by
      have h1 : s₂.code? g.method = U.code? g.method := by
        rw [State.code?_eq, State.code?_eq, hW'.alike.method?]
      exact Option.some.inj (hc₂.symm.trans (h1.trans h.code))
    subst hcc
    have hlen : len₂ = len := by rw [hdg] at hd₂; cases hd₂; rfl
    subst hlen
    have hs₂ : s₂ = (({ U with heap := s₂.heap, slotsUsed := s₂.slotsUsed } : State).setVm s₂.vm).setTop { g with pc := g.pc + len₂, stack := v.toList ++ g.stack } := by
      refine e3.trans ?_
      rw [hf₂, State.calling_eq h.top, State.setFrames_setFrames, State.setTop_of_frames _ hr', hr]
      rfl
    have hsame : U.sameButNew ({ U with heap := s₂.heap, slotsUsed := s₂.slotsUsed } : State) L mc ms := by
      refine ⟨?_, q2, q3, q4, q5, q6⟩
      obtain ⟨t, ht, -⟩ := State.frames_cons hr
      show ({ U with heap := s₂.heap, slotsUsed := s₂.slotsUsed } : State) = { U.setFrames U.frames with heap := s₂.heap, slotsUsed := s₂.slotsUsed }
      rw [State.setFrames_self ht]
    subst hg
    refine Or.inl ⟨v, ⟨(({ U with heap := s₂.heap, slotsUsed := s₂.slotsUsed } : State).setVm s₂.vm), Ls ++ L, c0 + mc, s0 + ms⟩,
      ⟨X.admits, X.cas, X.clock, X.frames, X.room, X.hears, X.method, X.code, (X.here.setHeapUsed s₂.heap s₂.slotsUsed).setVm hW'.alike, X.tail, State.WarmedH.trans X.warmed hW', X.limits, X.bytes, X.same.trans (hsame.setVm s.vm)⟩,
      ⟨g, mk, s₂, L, rfl, rfl, hqc, rfl, hL, rfl, rfl⟩, ?_⟩
    show Steps p.tables e below _ ((({ U with heap := s₂.heap, slotsUsed := s₂.slotsUsed } : State).setVm s₂.vm).setTop { g with pc := g.pc + len₂, stack := v.toList ++ g.stack })
    rw [← hs₂]
    exact hsteps
  · obtain ⟨e2, q2, q3, q4, q5, q6⟩ := id hsm
    have e3 : s₂ = ({ (U.calling g mk a).setFrames s₂.frames with heap := s₂.heap, slotsUsed := s₂.slotsUsed } : State).setVm s₂.vm := by
      have : s₂ = ({ s₂ with vm := (U.calling g mk a).vm } : State).setVm s₂.vm := rfl
      rw [e2] at this
      exact this
    have hf₂ : s₂.frames = .throwing q :: .java g :: U.frames.tail := hend
    have hW' : U.WarmedH s₂.vm := hW₂
    have hs₂ : s₂ = ((({ U with heap := s₂.heap, slotsUsed := s₂.slotsUsed } : State).setVm s₂.vm).setTop g).pushFrame (.throwing q) := by
      refine e3.trans ?_
      rw [hf₂, State.calling_eq h.top, State.setFrames_setFrames, State.pushFrame, State.frames_setTop _ hr', State.setTop_of_frames _ hr', State.setFrames_setFrames, hr]
      rfl
    have hsame : U.sameButNew ({ U with heap := s₂.heap, slotsUsed := s₂.slotsUsed } : State) L mc ms := by
      refine ⟨?_, q2, q3, q4, q5, q6⟩
      obtain ⟨t, ht, -⟩ := State.frames_cons hr
      show ({ U with heap := s₂.heap, slotsUsed := s₂.slotsUsed } : State) = { U.setFrames U.frames with heap := s₂.heap, slotsUsed := s₂.slotsUsed }
      rw [State.setFrames_self ht]
    subst hg
    refine Or.inr ⟨q, ⟨(({ U with heap := s₂.heap, slotsUsed := s₂.slotsUsed } : State).setVm s₂.vm), Ls ++ L, c0 + mc, s0 + ms⟩,
      ⟨X.admits, X.cas, X.clock, X.frames, X.room, X.hears, X.method, X.code, (X.here.setHeapUsed s₂.heap s₂.slotsUsed).setVm hW'.alike, X.tail, State.WarmedH.trans X.warmed hW', X.limits, X.bytes, X.same.trans (hsame.setVm s.vm)⟩,
      ⟨g, mk, s₂, L, E, ce, rfl, rfl, hx, hce, hcv, hcl, rfl, hL, rfl, rfl⟩, ?_⟩
    show Steps p.tables e below _ (((({ U with heap := s₂.heap, slotsUsed := s₂.slotsUsed } : State).setVm s₂.vm).setTop g).pushFrame (.throwing q))
    rw [← hs₂]
    exact hsteps
end Payer
section Calls
variable {p : Program} {l : Launch} {e : Env} {R : Room} {s : State} {m : MethodId} {args : Array Value} {below : List Frame} {meth : Method} {c : Code} {T : State} {locs : List Loc} {cells slots : Nat}
theorem vx_callV (X : Stand p l e R s m args below meth c T locs cells slots) (hexec : p.tables.exec = Jvm.exec) {own C : String} {index : Nat} {y : MethodName} {bytes : ByteArray} {maxL : Nat} {ret : Option FieldType}
    (hown : s.vm.findClass own = some m.cls) (hlink : (Cond.methodLink own index y).before args s = true) (hinst : (Cond.instanceMethod y).before args s = true) (hsel : (Cond.selects C y y).before args s = true)
    (hcode : (Cond.code y bytes maxL ret).before args s = true) (hy : y.cls ≠ "java/lang/invoke/MethodHandle" ∧ y.cls ≠ "java/lang/invoke/VarHandle")
    {W9 : Nat} {Pre : Pt → Array Value → Prop} {Post : Pt → Array Value → Option Value → Pt → Prop} {PostX : Pt → Array Value → Addr → Pt → Prop} (hK : vx_Back l R p e below s args y 3 W9 Pre Post PostX)
    {b : Addr} {cellB : Cell} (hcell : T.heap[b]? = some cellB) (hobj : cellB.vm.isStatics = false) (hcls : s.vm.findClass C = some cellB.cls)
    {g : JFrame} (hg : g.method = m) (hsize : g.locals.size = c.maxLocals) {argsL rest : List Value} (hlen : ∀ sig, parseMethodDescriptor y.desc = some sig → argsL.length = sig.parameters.length)
    (hstack : g.stack = argsL.reverse ++ .ref b :: rest) (hW : 2 * g.monitorRoom + (rest.map fun v => v.category).sum ≤ W9) (hdg : decode c.code g.pc = .ok (.invokevirtual index, 3))
    (hpre : ∀ vm₁, s.WarmedH vm₁ → Pre ⟨T.setVm vm₁, locs, cells, slots⟩ (Value.ref b :: argsL).toArray) :
    (∃ (v : Option Value) (vm₁ : Vm) (B : Pt), s.WarmedH vm₁ ∧ Stand p l e R s m args below meth c B.U B.locs B.cells B.slots ∧ Post ⟨T.setVm vm₁, locs, cells, slots⟩ (Value.ref b :: argsL).toArray v B ∧
      ∀ target, Steps p.tables e below (B.U.setTop { g with pc := g.pc + 3, stack := v.toList ++ rest }) target → Steps p.tables e below (T.setTop g) target) ∨
    (∃ (q : Addr) (vm₁ : Vm) (B : Pt), s.WarmedH vm₁ ∧ Stand p l e R s m args below meth c B.U B.locs B.cells B.slots ∧ PostX ⟨T.setVm vm₁, locs, cells, slots⟩ (Value.ref b :: argsL).toArray q B ∧
      Steps p.tables e below (T.setTop g) ((B.U.setTop { g with stack := rest }).pushFrame (.throwing q))) := by
  obtain ⟨mk, methM, hnamed, hmethM, hstM, habM⟩ := Cond.instanceMethod_spec hinst
  obtain ⟨methM', cM, hmethM', -, -, -, -, -, -, hsigM⟩ := Cond.code_spec hnamed hcode
  cases hmethM.symm.trans hmethM'
  obtain ⟨c2, r2, m2, q1, q2, q3, q4, kP, hkP, hkPi⟩ := Cond.selects_spec hsel
  cases hcls.symm.trans q1
  cases (State.methodFound?_of_named hnamed hy).symm.trans q2
  cases hnamed.symm.trans q3
  have hselP : selectMethod e.platform s.vm cellB.cls mk = .method mk := by rw [Launch.admits_selectMethod X.admits]; exact q4
  obtain ⟨vm₁, X₁, hstep₁⟩ := X.invokevirtual hexec hown hlink hnamed hmethM hstM hkP hkPi hy (a := b) (cell := cellB) hcell
    (fun z h => by rw [h] at hobj; cases hobj) hselP hmethM habM hkP hkPi (g := g) hg (argsL := argsL) (rest := rest) (hlen _ hsigM) hstack hdg
  rcases hK m meth c ⟨T.setVm vm₁, locs, cells, slots⟩ { g with stack := rest } (.invokevirtual index) mk (Value.ref b :: argsL).toArray X₁ hg hsize hdg hW (X₁.named hnamed) (hpre vm₁ X₁.warmed) with ⟨v, B, X', hpost, hsteps⟩ | ⟨q, B, X', hpost, hsteps⟩
  · exact Or.inl ⟨v, vm₁, B, X₁.warmed, X', hpost, fun target h => hstep₁ _ fun acts => by rw [doInvoke_state]; exact hsteps.trans h⟩
  · exact Or.inr ⟨q, vm₁, B, X₁.warmed, X', hpost, hstep₁ _ fun acts => by rw [doInvoke_state]; exact hsteps⟩
theorem vx_callS (X : Stand p l e R s m args below meth c T locs cells slots) (hexec : p.tables.exec = Jvm.exec) {own : String} {index : Nat} {y : MethodName} {bytes : ByteArray} {maxL : Nat} {ret : Option FieldType}
    (hown : s.vm.findClass own = some m.cls) (hlink : (Cond.methodLink own index y).before args s = true) (hstat : (Cond.static y).before args s = true) (hinit : (Cond.initialized y.cls).before args s = true)
    (hcode : (Cond.code y bytes maxL ret).before args s = true) (hy : y.cls ≠ "java/lang/invoke/MethodHandle" ∧ y.cls ≠ "java/lang/invoke/VarHandle")
    {W9 : Nat} {Pre : Pt → Array Value → Prop} {Post : Pt → Array Value → Option Value → Pt → Prop} {PostX : Pt → Array Value → Addr → Pt → Prop} (hK : vx_Back l R p e below s args y 3 W9 Pre Post PostX)
    {g : JFrame} (hg : g.method = m) (hsize : g.locals.size = c.maxLocals) {argsL rest : List Value} (hlen : ∀ sig, parseMethodDescriptor y.desc = some sig → argsL.length = sig.parameters.length)
    (hstack : g.stack = argsL.reverse ++ rest) (hW : 2 * g.monitorRoom + (rest.map fun v => v.category).sum ≤ W9) (hdg : decode c.code g.pc = .ok (.invokestatic index, 3))
    (hpre : ∀ vm₁, s.WarmedH vm₁ → Pre ⟨T.setVm vm₁, locs, cells, slots⟩ argsL.toArray) :
    (∃ (v : Option Value) (vm₁ : Vm) (B : Pt), s.WarmedH vm₁ ∧ Stand p l e R s m args below meth c B.U B.locs B.cells B.slots ∧ Post ⟨T.setVm vm₁, locs, cells, slots⟩ argsL.toArray v B ∧
      ∀ target, Steps p.tables e below (B.U.setTop { g with pc := g.pc + 3, stack := v.toList ++ rest }) target → Steps p.tables e below (T.setTop g) target) ∨
    (∃ (q : Addr) (vm₁ : Vm) (B : Pt), s.WarmedH vm₁ ∧ Stand p l e R s m args below meth c B.U B.locs B.cells B.slots ∧ PostX ⟨T.setVm vm₁, locs, cells, slots⟩ argsL.toArray q B ∧
      Steps p.tables e below (T.setTop g) ((B.U.setTop { g with stack := rest }).pushFrame (.throwing q))) := by
  obtain ⟨mk, hnamed⟩ := Cond.code_named hcode
  obtain ⟨methM, cM, hmethM, -, -, -, -, -, -, hsigM⟩ := Cond.code_spec hnamed hcode
  have hstatic : methM.isStatic = true := Cond.static_spec hnamed hmethM hstat
  obtain ⟨kP, hkP, -⟩ := className_of_methodNamed hnamed
  have hinitP : kP.init = .initialized := Cond.initialized_spec (findClass_of_methodNamed hnamed) hkP hinit
  obtain ⟨vm₁, X₁, hstep₁⟩ := X.invokestatic hexec hown hlink hnamed hmethM hstatic hkP hinitP hy (g := g) hg (argsL := argsL) (rest := rest) (hlen _ hsigM) hstack hdg
  rcases hK m meth c ⟨T.setVm vm₁, locs, cells, slots⟩ { g with stack := rest } (.invokestatic index) mk argsL.toArray X₁ hg hsize hdg hW (X₁.named hnamed) (hpre vm₁ X₁.warmed) with ⟨v, B, X', hpost, hsteps⟩ | ⟨q, B, X', hpost, hsteps⟩
  · exact Or.inl ⟨v, vm₁, B, X₁.warmed, X', hpost, fun target h => hstep₁ _ fun acts => by rw [doInvoke_state]; exact hsteps.trans h⟩
  · exact Or.inr ⟨q, vm₁, B, X₁.warmed, X', hpost, hstep₁ _ fun acts => by rw [doInvoke_state]; exact hsteps⟩
end Calls
theorem vx_cls {s : State} {T : State} {vm₁ : Vm} {E : String} {k : ClassId} (hW : s.WarmedH vm₁) (h : (T.setVm vm₁).vm.findClass E = some k) : s.vm.findClass E = some k := by
  have h1 : vm₁.findClass E = some k := h
  rw [hW.alike.findClass] at h1
  exact h1
/-- the method's frame g, with q thrown over it -/
def vx_W (p : Program) (l : Launch) (e : Env) (R : Room) (s : State) (m : MethodId) (args : Array Value) (below : List Frame) (meth : Method) (c : Code) (H : Heap) (locs : List Loc) (cells slots : Nat) (Q : State → Prop) (g : JFrame) (q : Addr) : Prop :=
  ∀ T : State, T.heap = H → Stand p l e R s m args below meth c T locs cells slots → ∃ t, Steps p.tables e below ((T.setTop g).pushFrame (.throwing q)) t ∧ Q t
def vx_Run (p : Program) (l : Launch) (e : Env) (R : Room) (s : State) (m : MethodId) (args : Array Value) (below : List Frame) (meth : Method) (c : Code) (H : Heap) (locs : List Loc) (cells slots mc ms : Nat) (g : JFrame) (rest : List Value) (Qa : State → Outcome → State → Prop) (XC : String → State → State → Prop) (free : Addr → Prop) : Prop :=
  ∀ T : State, T.heap = H → Stand p l e R s m args below meth c T locs cells slots →
    (∃ (v : Option Value) (st₀ t T' : State) (L : List Loc), st₀.heap = H ∧ Stand p l e R s m args below meth c T' (locs ++ L) (cells + mc) (slots + ms) ∧ (∀ q ∈ L, free q.base) ∧ T'.heap = t.heap ∧ T'.vm = t.vm ∧ Qa st₀ (.returned v) t ∧
      Goes p e below T g T' { g with pc := g.pc + 3, stack := v.toList ++ rest }) ∨
    (∃ (q : Addr) (st₀ t T' : State) (L : List Loc) (E : String) (ce : Cell), st₀.heap = H ∧ Stand p l e R s m args below meth c T' (locs ++ L) (cells + mc) (slots + ms) ∧ (∀ z ∈ L, free z.base) ∧ T'.heap = t.heap ∧ T'.vm = t.vm ∧ XC E st₀ t ∧ t.heap[q]? = some ce ∧ ce.vm = .none ∧ s.vm.findClass E = some ce.cls ∧
      Steps p.tables e below (T.setTop g) ((T'.setTop { g with stack := rest }).pushFrame (.throwing q)))
def vx_X {S : Type} (px : S → Prop) (B : String → S → State → Prop) (A : Nat → Prop) : String → State → State → Prop := fun E st t => ∃ u : S, px u ∧ B E u t ∧ va_F A st t
section Runs
variable {p : Program} {l : Launch} {e : Env} {R : Room} {s : State} {m : MethodId} {args : Array Value} {below : List Frame} {meth : Method} {c : Code} {H : Heap} {locs : List Loc} {cells slots : Nat}
variable {y : MethodName} {bytes cc : ByteArray} {maxL nL mc ms n index : Nat} {ret : Option FieldType} {ws : List Cond} {rm : Room} {Pc : Array Value → State → Prop} {Qc : Array Value → State → Outcome → State → Prop} {XC : String → State → State → Prop} {free : Addr → Prop} {Ts : List Cond} {own C : String} {b : Addr} {As rest : List Value} {g : JFrame}
theorem vx_callBack (cb : CallB R s args own index y bytes maxL ret ws rm mc ms n) (hM : vx_Met l y ws rm Pc Qc XC mc ms free) (hbl : FrameBlind Pc) : vx_Back l R p e below s args y 3 8 (PreOf R mc ms Pc) (PostOf Qc mc ms free) (vx_Post XC mc ms free) := by
  obtain ⟨hrc, hrs, hfr, hlo, hws, hcw, -, hini, -⟩ := cb
  exact vx_back (bytes := bytes) (maxL := maxL) (ret := ret) hM hbl hrc hrs hfr hlo hws hcw (fun a' U hW => word_at hW (Or.inl (by first | rfl | simp [Cond.onTables, Cond.keeps, Cond.steady])) hini)
theorem vx_runV (S : CallFix p m c cc nL s args Ts own) (hM : vx_Met l y ws rm Pc Qc XC mc ms free) (cw : CallW R s args own C index y bytes maxL ret ws rm mc ms n) (hp : PreV s H C b Pc As)
    (hg : g.method = m) (hn : As.length = n) (hsize : g.locals.size = nL) (hstack : g.stack = As.reverse ++ .ref b :: rest) (hW : 2 * g.monitorRoom + (rest.map fun v => v.category).sum ≤ 8) (hdg : decode cc g.pc = .ok (.invokevirtual index, 3)) (hf : cells + mc ≤ R.cells ∧ slots + ms ≤ R.slots) :
    vx_Run p l e R s m args below meth c H locs cells slots mc ms g rest (Qc (Value.ref b :: As).toArray) XC free := by
  have hK : vx_Back l R p e below s args y 3 8 (PreOf R mc ms Pc) (PostOf Qc mc ms free) (vx_Post XC mc ms free) := vx_callBack cw.1 hM hp.1
  obtain ⟨⟨-, -, -, -, -, -, hcode, -, hy, hlen, hl⟩, hin, hse⟩ := cw
  obtain ⟨hx, hb, hml, ho, -⟩ := S
  obtain ⟨-, ⟨cellB, hcB, hoB, hclB⟩, hPc⟩ := hp
  intro T hT X
  rcases vx_callV X hx (C := C) (bytes := bytes) (maxL := maxL) (ret := ret) ho hl hin hse hcode hy hK (by rw [hT]; exact hcB) hoB hclB hg (hsize.trans hml.symm) (argsL := As) (rest := rest) (fun sig h => hn.trans (hlen sig h)) hstack hW (by rw [hb]; exact hdg)
    (fun vm₁ hW₁ => ⟨hf.1, hf.2, hPc (T.setVm vm₁) hT hW₁⟩) with ⟨v, vm₁, ⟨U', l2, c2, s2⟩, hW₁, X', ⟨g', mk, t, L, e1, e2, hq, h1, hL, h2, h3⟩, st⟩ | ⟨q, vm₁, ⟨U', l2, c2, s2⟩, hW₁, X', ⟨g', mk, t, L, E, ce, e1, e2, hq, hce, hcv, hcl, h1, hL, h2, h3⟩, st⟩
  · dsimp only [Pt.U, Pt.locs, Pt.cells, Pt.slots] at X' e1 e2 h1 h2 h3 st
    subst h1; subst h2; subst h3
    exact Or.inl ⟨v, (T.setVm vm₁).calling g' mk (Value.ref b :: As).toArray, t, U', L, hT, X', hL, e1, e2, hq, st⟩
  · dsimp only [Pt.U, Pt.locs, Pt.cells, Pt.slots] at X' e1 e2 h1 h2 h3 st hcl
    subst h1; subst h2; subst h3
    exact Or.inr ⟨q, (T.setVm vm₁).calling g' mk (Value.ref b :: As).toArray, t, U', L, E, ce, hT, X', hL, e1, e2, hq, hce, hcv, vx_cls hW₁ hcl, st⟩
theorem vx_runS (S : CallFix p m c cc nL s args Ts own) (hM : vx_Met l y ws rm Pc Qc XC mc ms free) (cw : CallB R s args own index y bytes maxL ret ws rm mc ms n ∧ (Cond.static y).before args s = true) (hp : PreS s H Pc As)
    (hg : g.method = m) (hn : As.length = n) (hsize : g.locals.size = nL) (hstack : g.stack = As.reverse ++ rest) (hW : 2 * g.monitorRoom + (rest.map fun v => v.category).sum ≤ 8) (hdg : decode cc g.pc = .ok (.invokestatic index, 3)) (hf : cells + mc ≤ R.cells ∧ slots + ms ≤ R.slots) :
    vx_Run p l e R s m args below meth c H locs cells slots mc ms g rest (Qc As.toArray) XC free := by
  have hK : vx_Back l R p e below s args y 3 8 (PreOf R mc ms Pc) (PostOf Qc mc ms free) (vx_Post XC mc ms free) := vx_callBack cw.1 hM hp.1
  obtain ⟨⟨-, -, -, -, -, -, hcode, hini, hy, hlen, hl⟩, hstt⟩ := cw
  obtain ⟨hx, hb, hml, ho, -⟩ := S
  intro T hT X
  rcases vx_callS X hx (bytes := bytes) (maxL := maxL) (ret := ret) ho hl hstt hini hcode hy hK hg (hsize.trans hml.symm) (argsL := As) (rest := rest) (fun sig h => hn.trans (hlen sig h)) hstack hW (by rw [hb]; exact hdg)
    (fun vm₁ hW₁ => ⟨hf.1, hf.2, hp.2 (T.setVm vm₁) hT hW₁⟩) with ⟨v, vm₁, ⟨U', l2, c2, s2⟩, hW₁, X', ⟨g', mk, t, L, e1, e2, hq, h1, hL, h2, h3⟩, st⟩ | ⟨q, vm₁, ⟨U', l2, c2, s2⟩, hW₁, X', ⟨g', mk, t, L, E, ce, e1, e2, hq, hce, hcv, hcl, h1, hL, h2, h3⟩, st⟩
  · dsimp only [Pt.U, Pt.locs, Pt.cells, Pt.slots] at X' e1 e2 h1 h2 h3 st
    subst h1; subst h2; subst h3
    exact Or.inl ⟨v, (T.setVm vm₁).calling g' mk As.toArray, t, U', L, hT, X', hL, e1, e2, hq, st⟩
  · dsimp only [Pt.U, Pt.locs, Pt.cells, Pt.slots] at X' e1 e2 h1 h2 h3 st hcl
    subst h1; subst h2; subst h3
    exact Or.inr ⟨q, (T.setVm vm₁).calling g' mk As.toArray, t, U', L, E, ce, hT, X', hL, e1, e2, hq, hce, hcv, vx_cls hW₁ hcl, st⟩
end Runs
section Rows
variable {p : Program} {l : Launch} {e : Env} {R : Room} {s : State} {m : MethodId} {args : Array Value} {below : List Frame} {meth : Method} {c : Code} {H : Heap} {locs : List Loc} {cells slots : Nat} {Q : State → Prop}
variable {mc ms : Nat} {free : Addr → Prop} {A0 A1 : Nat → Prop} {H0 : Heap} {a : Array Value} {pc : Nat} {ls : Array Slot} {st0 rest : List Value}
theorem vx_keep {st₀ t T' : State} {L : List Loc} (h0 : st₀.heap = H) (e1 : T'.heap = t.heap) (hS : va_S A0 H0 H locs) (hA : ∀ q, q < H.size → A1 q → A0 q) (hf : ∀ q, free q → A0 q) (hL : ∀ q ∈ L, free q.base) (hF : va_F A1 st₀ t) :
    H.size ≤ T'.heap.size ∧ (∀ q : Nat, q < H.size → ¬ A1 q → T'.heap[q]? = H[q]?) ∧ va_S A0 H0 T'.heap (locs ++ L) := by
  obtain ⟨hz, hk⟩ := hF
  rw [h0] at hz hk
  exact ⟨by rw [e1]; exact hz, fun q h1 h2 => by rw [e1]; exact hk q h1 h2,
    ⟨Nat.le_trans hS.1 (by rw [e1]; exact hz), fun q h1 h2 => by rw [e1, hk q (Nat.lt_of_lt_of_le h1 hS.1) (fun z => h2 (hA q (Nat.lt_of_lt_of_le h1 hS.1) z))]; exact hS.2.1 q h1 h2, fun q hq => by
      rcases List.mem_append.mp hq with h | h
      · exact hS.2.2 q h
      · exact hf _ (hL q h)⟩⟩
theorem vx_calli {S SX : Type} {post : Int32 → S → Prop} {px : SX → Prop} {B : S → State → Prop} {BX : String → SX → State → Prop} {AX : Nat → Prop} (hr : vx_Run p l e R s m args below meth c H locs cells slots mc ms (F0 m pc ls st0) rest (va_Qi post B A1 a) (vx_X px BX AX) free) (hS : va_S A0 H0 H locs) (hA : ∀ q, q < H.size → A1 q → A0 q) (hf : ∀ q, free q → A0 q) (hAX : ∀ q, q < H.size → AX q → A0 q)
    (kx : ∀ (E : String) (ce : Cell) (q9 : Addr) (u : SX) (t : State) (H1 : Heap) (locs1 : List Loc), t.heap = H1 → s.vm.Alike t.vm → px u → BX E u t → H.size ≤ H1.size → (∀ q : Nat, q < H.size → ¬ AX q → H1[q]? = H[q]?) → va_S A0 H0 H1 locs1 → H1[q9]? = some ce → ce.vm = .none → s.vm.findClass E = some ce.cls → vx_W p l e R s m args below meth c H1 locs1 (cells + mc) (slots + ms) Q (F0 m pc ls rest) q9)
    (kk : ∀ (r : Int32) (u : S) (t : State) (H1 : Heap) (locs1 : List Loc), t.heap = H1 → s.vm.Alike t.vm → post r u → B u t → H.size ≤ H1.size → (∀ q : Nat, q < H.size → ¬ A1 q → H1[q]? = H[q]?) → va_S A0 H0 H1 locs1 → W p l e R s m args below meth c H1 locs1 (cells + mc) (slots + ms) Q (F0 m (pc + 3) ls (.int r :: rest))) : W p l e R s m args below meth c H locs cells slots Q (F0 m pc ls st0) := by
  intro T hT X
  rcases hr T hT X with ⟨v, st₀, t, T', L, h0, X', hL, e1, e2, ⟨⟨r, u, hv, hp, hb⟩, hF⟩, st⟩ | ⟨q, st₀, t, T', L, E, ce, h0, X', hL, e1, e2, ⟨u, hp, hb, hF⟩, hce, hcv, hcl, st⟩
  · cases hv
    obtain ⟨k1, k2, k3⟩ := vx_keep h0 e1 hS hA hf hL hF
    obtain ⟨t2, a1, b1⟩ := kk r u t T'.heap (locs ++ L) e1.symm (by rw [← e2]; exact X'.warmed.alike) hp hb k1 k2 k3 T' rfl X'
    exact ⟨t2, st t2 a1, b1⟩
  · obtain ⟨k1, k2, k3⟩ := vx_keep h0 e1 hS hAX hf hL hF
    obtain ⟨t2, a1, b1⟩ := kx E ce q u t T'.heap (locs ++ L) e1.symm (by rw [← e2]; exact X'.warmed.alike) hp hb k1 k2 k3 (by rw [e1]; exact hce) hcv hcl T' rfl X'
    exact ⟨t2, st.trans a1, b1⟩
theorem vx_calll {S SX : Type} {post : Int64 → S → Prop} {px : SX → Prop} {B : S → State → Prop} {BX : String → SX → State → Prop} {AX : Nat → Prop} (hr : vx_Run p l e R s m args below meth c H locs cells slots mc ms (F0 m pc ls st0) rest (va_Ql post B A1 a) (vx_X px BX AX) free) (hS : va_S A0 H0 H locs) (hA : ∀ q, q < H.size → A1 q → A0 q) (hf : ∀ q, free q → A0 q) (hAX : ∀ q, q < H.size → AX q → A0 q)
    (kx : ∀ (E : String) (ce : Cell) (q9 : Addr) (u : SX) (t : State) (H1 : Heap) (locs1 : List Loc), t.heap = H1 → s.vm.Alike t.vm → px u → BX E u t → H.size ≤ H1.size → (∀ q : Nat, q < H.size → ¬ AX q → H1[q]? = H[q]?) → va_S A0 H0 H1 locs1 → H1[q9]? = some ce → ce.vm = .none → s.vm.findClass E = some ce.cls → vx_W p l e R s m args below meth c H1 locs1 (cells + mc) (slots + ms) Q (F0 m pc ls rest) q9)
    (kk : ∀ (r : Int64) (u : S) (t : State) (H1 : Heap) (locs1 : List Loc), t.heap = H1 → s.vm.Alike t.vm → post r u → B u t → H.size ≤ H1.size → (∀ q : Nat, q < H.size → ¬ A1 q → H1[q]? = H[q]?) → va_S A0 H0 H1 locs1 → W p l e R s m args below meth c H1 locs1 (cells + mc) (slots + ms) Q (F0 m (pc + 3) ls (.long r :: rest))) : W p l e R s m args below meth c H locs cells slots Q (F0 m pc ls st0) := by
  intro T hT X
  rcases hr T hT X with ⟨v, st₀, t, T', L, h0, X', hL, e1, e2, ⟨⟨r, u, hv, hp, hb⟩, hF⟩, st⟩ | ⟨q, st₀, t, T', L, E, ce, h0, X', hL, e1, e2, ⟨u, hp, hb, hF⟩, hce, hcv, hcl, st⟩
  · cases hv
    obtain ⟨k1, k2, k3⟩ := vx_keep h0 e1 hS hA hf hL hF
    obtain ⟨t2, a1, b1⟩ := kk r u t T'.heap (locs ++ L) e1.symm (by rw [← e2]; exact X'.warmed.alike) hp hb k1 k2 k3 T' rfl X'
    exact ⟨t2, st t2 a1, b1⟩
  · obtain ⟨k1, k2, k3⟩ := vx_keep h0 e1 hS hAX hf hL hF
    obtain ⟨t2, a1, b1⟩ := kx E ce q u t T'.heap (locs ++ L) e1.symm (by rw [← e2]; exact X'.warmed.alike) hp hb k1 k2 k3 (by rw [e1]; exact hce) hcv hcl T' rfl X'
    exact ⟨t2, st.trans a1, b1⟩
theorem vx_callf {S SX : Type} {post : UInt32 → S → Prop} {px : SX → Prop} {B : S → State → Prop} {BX : String → SX → State → Prop} {AX : Nat → Prop} (hr : vx_Run p l e R s m args below meth c H locs cells slots mc ms (F0 m pc ls st0) rest (va_Qf post B A1 a) (vx_X px BX AX) free) (hS : va_S A0 H0 H locs) (hA : ∀ q, q < H.size → A1 q → A0 q) (hf : ∀ q, free q → A0 q) (hAX : ∀ q, q < H.size → AX q → A0 q)
    (kx : ∀ (E : String) (ce : Cell) (q9 : Addr) (u : SX) (t : State) (H1 : Heap) (locs1 : List Loc), t.heap = H1 → s.vm.Alike t.vm → px u → BX E u t → H.size ≤ H1.size → (∀ q : Nat, q < H.size → ¬ AX q → H1[q]? = H[q]?) → va_S A0 H0 H1 locs1 → H1[q9]? = some ce → ce.vm = .none → s.vm.findClass E = some ce.cls → vx_W p l e R s m args below meth c H1 locs1 (cells + mc) (slots + ms) Q (F0 m pc ls rest) q9)
    (kk : ∀ (r : UInt32) (u : S) (t : State) (H1 : Heap) (locs1 : List Loc), t.heap = H1 → s.vm.Alike t.vm → post r u → B u t → H.size ≤ H1.size → (∀ q : Nat, q < H.size → ¬ A1 q → H1[q]? = H[q]?) → va_S A0 H0 H1 locs1 → W p l e R s m args below meth c H1 locs1 (cells + mc) (slots + ms) Q (F0 m (pc + 3) ls (.float r :: rest))) : W p l e R s m args below meth c H locs cells slots Q (F0 m pc ls st0) := by
  intro T hT X
  rcases hr T hT X with ⟨v, st₀, t, T', L, h0, X', hL, e1, e2, ⟨⟨r, u, hv, hp, hb⟩, hF⟩, st⟩ | ⟨q, st₀, t, T', L, E, ce, h0, X', hL, e1, e2, ⟨u, hp, hb, hF⟩, hce, hcv, hcl, st⟩
  · cases hv
    obtain ⟨k1, k2, k3⟩ := vx_keep h0 e1 hS hA hf hL hF
    obtain ⟨t2, a1, b1⟩ := kk r u t T'.heap (locs ++ L) e1.symm (by rw [← e2]; exact X'.warmed.alike) hp hb k1 k2 k3 T' rfl X'
    exact ⟨t2, st t2 a1, b1⟩
  · obtain ⟨k1, k2, k3⟩ := vx_keep h0 e1 hS hAX hf hL hF
    obtain ⟨t2, a1, b1⟩ := kx E ce q u t T'.heap (locs ++ L) e1.symm (by rw [← e2]; exact X'.warmed.alike) hp hb k1 k2 k3 (by rw [e1]; exact hce) hcv hcl T' rfl X'
    exact ⟨t2, st.trans a1, b1⟩
theorem vx_calld {S SX : Type} {post : UInt64 → S → Prop} {px : SX → Prop} {B : S → State → Prop} {BX : String → SX → State → Prop} {AX : Nat → Prop} (hr : vx_Run p l e R s m args below meth c H locs cells slots mc ms (F0 m pc ls st0) rest (va_Qd post B A1 a) (vx_X px BX AX) free) (hS : va_S A0 H0 H locs) (hA : ∀ q, q < H.size → A1 q → A0 q) (hf : ∀ q, free q → A0 q) (hAX : ∀ q, q < H.size → AX q → A0 q)
    (kx : ∀ (E : String) (ce : Cell) (q9 : Addr) (u : SX) (t : State) (H1 : Heap) (locs1 : List Loc), t.heap = H1 → s.vm.Alike t.vm → px u → BX E u t → H.size ≤ H1.size → (∀ q : Nat, q < H.size → ¬ AX q → H1[q]? = H[q]?) → va_S A0 H0 H1 locs1 → H1[q9]? = some ce → ce.vm = .none → s.vm.findClass E = some ce.cls → vx_W p l e R s m args below meth c H1 locs1 (cells + mc) (slots + ms) Q (F0 m pc ls rest) q9)
    (kk : ∀ (r : UInt64) (u : S) (t : State) (H1 : Heap) (locs1 : List Loc), t.heap = H1 → s.vm.Alike t.vm → post r u → B u t → H.size ≤ H1.size → (∀ q : Nat, q < H.size → ¬ A1 q → H1[q]? = H[q]?) → va_S A0 H0 H1 locs1 → W p l e R s m args below meth c H1 locs1 (cells + mc) (slots + ms) Q (F0 m (pc + 3) ls (.double r :: rest))) : W p l e R s m args below meth c H locs cells slots Q (F0 m pc ls st0) := by
  intro T hT X
  rcases hr T hT X with ⟨v, st₀, t, T', L, h0, X', hL, e1, e2, ⟨⟨r, u, hv, hp, hb⟩, hF⟩, st⟩ | ⟨q, st₀, t, T', L, E, ce, h0, X', hL, e1, e2, ⟨u, hp, hb, hF⟩, hce, hcv, hcl, st⟩
  · cases hv
    obtain ⟨k1, k2, k3⟩ := vx_keep h0 e1 hS hA hf hL hF
    obtain ⟨t2, a1, b1⟩ := kk r u t T'.heap (locs ++ L) e1.symm (by rw [← e2]; exact X'.warmed.alike) hp hb k1 k2 k3 T' rfl X'
    exact ⟨t2, st t2 a1, b1⟩
  · obtain ⟨k1, k2, k3⟩ := vx_keep h0 e1 hS hAX hf hL hF
    obtain ⟨t2, a1, b1⟩ := kx E ce q u t T'.heap (locs ++ L) e1.symm (by rw [← e2]; exact X'.warmed.alike) hp hb k1 k2 k3 (by rw [e1]; exact hce) hcv hcl T' rfl X'
    exact ⟨t2, st.trans a1, b1⟩
theorem vx_callv {S SX : Type} {post : S → Prop} {px : SX → Prop} {B : S → State → Prop} {BX : String → SX → State → Prop} {AX : Nat → Prop} (hr : vx_Run p l e R s m args below meth c H locs cells slots mc ms (F0 m pc ls st0) rest (va_Qv post B A1 a) (vx_X px BX AX) free) (hS : va_S A0 H0 H locs) (hA : ∀ q, q < H.size → A1 q → A0 q) (hf : ∀ q, free q → A0 q) (hAX : ∀ q, q < H.size → AX q → A0 q)
    (kx : ∀ (E : String) (ce : Cell) (q9 : Addr) (u : SX) (t : State) (H1 : Heap) (locs1 : List Loc), t.heap = H1 → s.vm.Alike t.vm → px u → BX E u t → H.size ≤ H1.size → (∀ q : Nat, q < H.size → ¬ AX q → H1[q]? = H[q]?) → va_S A0 H0 H1 locs1 → H1[q9]? = some ce → ce.vm = .none → s.vm.findClass E = some ce.cls → vx_W p l e R s m args below meth c H1 locs1 (cells + mc) (slots + ms) Q (F0 m pc ls rest) q9)
    (kk : ∀ (u : S) (t : State) (H1 : Heap) (locs1 : List Loc), t.heap = H1 → s.vm.Alike t.vm → post u → B u t → H.size ≤ H1.size → (∀ q : Nat, q < H.size → ¬ A1 q → H1[q]? = H[q]?) → va_S A0 H0 H1 locs1 → W p l e R s m args below meth c H1 locs1 (cells + mc) (slots + ms) Q (F0 m (pc + 3) ls (rest))) : W p l e R s m args below meth c H locs cells slots Q (F0 m pc ls st0) := by
  intro T hT X
  rcases hr T hT X with ⟨v, st₀, t, T', L, h0, X', hL, e1, e2, ⟨⟨u, hv, hp, hb⟩, hF⟩, st⟩ | ⟨q, st₀, t, T', L, E, ce, h0, X', hL, e1, e2, ⟨u, hp, hb, hF⟩, hce, hcv, hcl, st⟩
  · cases hv
    obtain ⟨k1, k2, k3⟩ := vx_keep h0 e1 hS hA hf hL hF
    obtain ⟨t2, a1, b1⟩ := kk u t T'.heap (locs ++ L) e1.symm (by rw [← e2]; exact X'.warmed.alike) hp hb k1 k2 k3 T' rfl X'
    exact ⟨t2, st t2 a1, b1⟩
  · obtain ⟨k1, k2, k3⟩ := vx_keep h0 e1 hS hAX hf hL hF
    obtain ⟨t2, a1, b1⟩ := kx E ce q u t T'.heap (locs ++ L) e1.symm (by rw [← e2]; exact X'.warmed.alike) hp hb k1 k2 k3 (by rw [e1]; exact hce) hcv hcl T' rfl X'
    exact ⟨t2, st.trans a1, b1⟩
/-- caught by the row x of this method's table; the rows ahead don't take it -/
theorem vx_catch {own name : String} {E : String} {ce : Cell} {q : Addr} (hown : s.vm.findClass own = some m.cls) (pre : List ExceptionTableEntry) (x : ExceptionTableEntry) (suf : List ExceptionTableEntry) (hsplit : c.exceptionTable.toList = pre ++ x :: suf)
    (hpass : ∀ z ∈ pre, covers z pc = false ∨ (z.catchType ≠ 0 ∧ ∃ nm : String, (Cond.classLink own z.catchType nm).before args s = true ∧ va_Nc E nm s)) (hx : covers x pc = true) (h0 : x.catchType ≠ 0)
    (hlink : (Cond.classLink own x.catchType name).before args s = true) (hcast : (Cond.castable E name).before args s = true) (hcell : H[q]? = some ce) (hv : ce.vm = .none) (hcl : s.vm.findClass E = some ce.cls)
    (kk : W p l e R s m args below meth c H locs cells slots Q (F0 m x.handlerPc ls [.ref q])) : vx_W p l e R s m args below meth c H locs cells slots Q (F0 m pc ls rest) q := by
  intro T hT X
  have hpl : e.platform.magicAccessors = ({} : Platform).magicAccessors := by rw [X.admits.platform]
  obtain ⟨c3, c4, hc3, hc4, hasg⟩ := Cond.castable_spec hcast
  cases Option.some.inj (hc3.symm.trans hcl)
  obtain ⟨c5, hc5, hcl5⟩ := Cond.classLink_spec hown hlink e.platform hpl
  cases Option.some.inj (hc4.symm.trans hc5)
  obtain ⟨vm', X', st⟩ := X.thenCaughtThrough q (g := F0 m pc ls rest) rfl (Steps.refl _) (by rw [hT]; exact hcell) (by rw [hv]; rfl) (by obtain ⟨k9, h9, -⟩ := Vm.findClass_spec hcl; exact ⟨k9, h9⟩) pre x suf hsplit
    (fun z hz => by
      rcases hpass z hz with h | ⟨hz0, nm, hl1, hn1⟩
      · exact Or.inl h
      · obtain ⟨c6, hc6, hcl6⟩ := Cond.classLink_spec hown hl1 e.platform hpl
        obtain ⟨a8, b8, h1, h2, h3⟩ := hn1
        cases Option.some.inj (h1.symm.trans hcl)
        cases Option.some.inj (h2.symm.trans hc6)
        exact Or.inr ⟨hz0, _, hcl6, h3⟩) hx (Or.inr ⟨h0, c4, hcl5, hasg⟩)
  obtain ⟨t, a1, b1⟩ := kk (T.setVm vm') hT X'
  exact ⟨t, st.trans a1, b1⟩
end Rows
section Ends
variable {p : Program} {l : Launch} {e : Env} {R : Room} {s : State} {m : MethodId} {args : Array Value} {below : List Frame} {meth : Method} {c : Code} {H : Heap} {locs : List Loc} {cells slots : Nat} {Q : State → Prop}
variable {mc ms : Nat} {free : Addr → Prop} {A0 A1 : Nat → Prop} {H0 : Heap} {a : Array Value} {ls : Array Slot} {st0 rest : List Value}
variable {Qc : Array Value → State → Outcome → State → Prop} {XC : String → State → State → Prop}
/-- what a body that may throw owes at its end -/
def vx_MQ (below : List Frame) (Qc : Array Value → State → Outcome → State → Prop) (XC : String → State → State → Prop) (a : Array Value) (s : State) (mc ms : Nat) (free : Addr → Prop) : State → Prop := fun t =>
  ∃ o, t.status = .running ∧ Ended t below o ∧ vx_Q Qc XC mc ms free a s o t
theorem vx_ret {g : JFrame} {mc ms : Nat} (k : W p l e R s m args below meth c H locs cells slots (MQ below Qc args s mc ms free) g) : W p l e R s m args below meth c H locs cells slots (vx_MQ below Qc XC args s mc ms free) g := by
  intro T hT X
  obtain ⟨t, a1, o, b1, b2, b3, b4⟩ := k T hT X
  exact ⟨t, a1, o, b1, b2, Or.inl ⟨b3, b4⟩⟩
/-- not caught here: it goes on to the caller -/
theorem vx_widen {g : JFrame} {q : Addr} {k n : Nat} (h1 : cells ≤ k) (h2 : slots ≤ n) (kk : vx_W p l e R s m args below meth c H locs k n Q g q) : vx_W p l e R s m args below meth c H locs cells slots Q g q := fun T hT X => kk T hT (stand_widen X h1 h2)
theorem vx_out {pc : Nat} {E : String} {ce : Cell} {q : Addr} {mc ms : Nat} (hout : ∀ x ∈ c.exceptionTable.toList, covers x pc = false) (hlocks : meth.locks = false) (hcell : H[q]? = some ce) (hv : ce.vm = .none) (hcl : s.vm.findClass E = some ce.cls)
    (hx : ∀ t : State, t.heap = H → s.vm.Alike t.vm → XC E s t) (hf : ∀ z ∈ locs, free z.base) (hc : cells ≤ mc) (hs : slots ≤ ms) :
    vx_W p l e R s m args below meth c H locs cells slots (vx_MQ below Qc XC args s mc ms free) (F0 m pc ls rest) q := by
  intro T hT X
  obtain ⟨st1, hrun, hend, hW, hsm⟩ := X.leaveThrown q (g := F0 m pc ls rest) rfl rfl rfl hout hlocks
  have hcell9 : (T.setFrames (.throwing q :: below)).heap[q]? = some ce := by
    show T.heap[q]? = some ce
    rw [hT]; exact hcell
  exact ⟨_, st1, .threw q, hrun, hend, Or.inr ⟨q, rfl, E, ce, locs, hx _ hT hW.alike, hcell9, hv, hcl, hW, hsm.mono hc hs, hf⟩⟩
theorem vx_frame {U : State} {k n : Nat} (h : s.sameButNew ({ U with vm := s.vm } : State) locs k n) : s.heap.size ≤ U.heap.size ∧ ∀ q : Nat, q < s.heap.size → (∀ z ∈ locs, z.base ≠ q) → U.heap[q]? = s.heap[q]? := by
  obtain ⟨-, h2, -, -, -, h6⟩ := h
  refine ⟨h2, fun q hq hz => ?_⟩
  obtain ⟨c9, e1, e2, e3, e4⟩ := h6 q _ (Array.getElem?_eq_getElem hq)
  have hs : c9.slots = (s.heap[q]).slots := Array.ext_getElem? fun i => e4 i fun hm => hz _ hm rfl
  have h9 : c9 = s.heap[q] := by
    rw [hs] at e2
    exact e2
  have e5 : U.heap[q]? = some c9 := e1
  rw [e5, h9, Array.getElem?_eq_getElem hq]
/-- the words of a throw but the four that speak of the heap -/
def vx_no (w : Cond) : Bool := decide (w ≠ .isRef (.static Bundle.tN "UNASSIGNED_STACK" Bundle.steD)) && decide (w ≠ .isRef (.static Bundle.tN "SUPPRESSED_SENTINEL" Bundle.listD)) && decide (w ≠ .laysStatic Bundle.tN "UNASSIGNED_STACK" Bundle.steD) && decide (w ≠ .laysStatic Bundle.tN "SUPPRESSED_SENTINEL" Bundle.listD)
def vx_at0 (own : String) (ic : Nat) (X : String) (names : List String) : List Cond := (Bundle.ownAtoms0 own ic X names).filter vx_no
def vx_atS (own : String) (ic : Nat) (X : String) (names : List String) : List Cond := (Bundle.ownAtoms own ic X names).filter vx_no
/-- a word that the tables alone decide, or a good one -/
def vx_ot (w : Cond) : Bool := w.onTables || goodWord w
theorem vx_ot_at {args a' : Array Value} {s U : State} {w : Cond} (hW : s.WarmedH U.vm) (hvm : s.vm = U.vm) (hg : vx_ot w = true) (h : w.before args s = true) : w.before a' U = true := by
  simp only [vx_ot, Bool.or_eq_true] at hg
  rcases hg with hg | hg
  · exact va_tabs hg hvm h
  · exact word_at hW (good_of_word hg) h
/-- a list's words: the good ones out of the method's own list, the others by premises of their own -/
theorem vx_hat {args : Array Value} {s : State} {L B : List Cond} (h1 : ∀ w ∈ L.filter goodWord, w.before args s = true) (h2 : ∀ w ∈ L.filter (fun w => !goodWord w), w ∈ B) (h3 : ∀ w ∈ B, w.before args s = true) : ∀ w ∈ L, w.before args s = true := by
  intro w hw
  by_cases g : goodWord w = true
  · exact h1 w (List.mem_filter.mpr ⟨hw, g⟩)
  · refine h3 w (h2 w (List.mem_filter.mpr ⟨hw, ?_⟩))
    show (!goodWord w) = true
    cases hgw : goodWord w
    · rfl
    · exact absurd hgw g
theorem vx_c {args : Array Value} {s : State} {w : Cond} {B : List Cond} (h : w.before args s = true) (t : ∀ w ∈ B, w.before args s = true) : ∀ w' ∈ w :: B, w'.before args s = true := fun w' h' => (List.mem_cons.mp h').elim (fun e => by rw [e]; exact h) (t w')
theorem vx_n {args : Array Value} {s : State} : ∀ w ∈ ([] : List Cond), w.before args s = true := fun _ h => nomatch h
theorem vx_own {args : Array Value} {s : State} {L : List Cond} (h1 : ∀ w ∈ L.filter vx_no, w.before args s = true)
    (hU : (Cond.isRef (.static Bundle.tN "UNASSIGNED_STACK" Bundle.steD)).before args s = true) (hN : (Cond.isRef (.static Bundle.tN "SUPPRESSED_SENTINEL" Bundle.listD)).before args s = true)
    (lU : (Cond.laysStatic Bundle.tN "UNASSIGNED_STACK" Bundle.steD).before args s = true) (lN : (Cond.laysStatic Bundle.tN "SUPPRESSED_SENTINEL" Bundle.listD).before args s = true) : ∀ w ∈ L, w.before args s = true := by
  intro w hw
  by_cases e1 : w = .isRef (.static Bundle.tN "UNASSIGNED_STACK" Bundle.steD)
  · rw [e1]; exact hU
  · by_cases e2 : w = .isRef (.static Bundle.tN "SUPPRESSED_SENTINEL" Bundle.listD)
    · rw [e2]; exact hN
    · by_cases e3 : w = .laysStatic Bundle.tN "UNASSIGNED_STACK" Bundle.steD
      · rw [e3]; exact lU
      · by_cases e4 : w = .laysStatic Bundle.tN "SUPPRESSED_SENTINEL" Bundle.listD
        · rw [e4]; exact lN
        · exact h1 w (List.mem_filter.mpr ⟨hw, by unfold vx_no; rw [decide_eq_true e1, decide_eq_true e2, decide_eq_true e3, decide_eq_true e4]; rfl⟩)
/-- where a static field lies, its class's statics cell in H -/
def vx_L (C n d : String) (A : Nat → Prop) (U : State) (H : Heap) : Prop := ∃ (c : ClassId) (k : Class) (i : Nat) (f : Field) (a : Nat) (cell : Cell), U.vm.findClass C = some c ∧ U.fieldFound? C n d = some (c, k, i, f) ∧ f.isStatic = true ∧ k.statics = some a ∧ H[a]? = some cell ∧ cell.vm.isStatics = true ∧ cell.cls = c ∧ f.slot < cell.slots.size ∧ k.staticTypes[f.slot]? = some f.type ∧ ¬ A a
theorem vx_L.moved {C n d : String} {A : Nat → Prop} {u U : State} {H : Heap} (hvm : u.vm.Alike U.vm) (h : vx_L C n d A u H) : vx_L C n d A U H := by
  obtain ⟨c, k, i, f, a, cell, h1, h2, h3, h4, h5, h6, h7, h8, h9, h10⟩ := h
  obtain ⟨k', hi', he⟩ := State.fieldFound?_setVm hvm h2
  exact ⟨c, k', i, f, a, cell, by rw [hvm.findClass]; exact h1, hi', h3, by rw [he]; exact h4, h5, h6, h7, h8, by rw [he]; exact h9, h10⟩
theorem vx_L.kept {C n d : String} {A : Nat → Prop} {U : State} {H H1 : Heap} (h : vx_L C n d A U H) (hq : ∀ a : Nat, a < H.size → ¬ A a → H1[a]? = H[a]?) : vx_L C n d A U H1 := by
  obtain ⟨c, k, i, f, a, cell, h1, h2, h3, h4, h5, h6, h7, h8, h9, h10⟩ := h
  exact ⟨c, k, i, f, a, cell, h1, h2, h3, h4, by rw [hq a (Array.getElem?_eq_some_iff.mp h5).1 h10]; exact h5, h6, h7, h8, h9, h10⟩
theorem vx_L.narrow {C n d : String} {A B : Nat → Prop} {U : State} {H : Heap} (h : vx_L C n d A U H) (hAB : ∀ q, B q → A q) : vx_L C n d B U H := by
  obtain ⟨c, k, i, f, a, cell, h1, h2, h3, h4, h5, h6, h7, h8, h9, h10⟩ := h
  exact ⟨c, k, i, f, a, cell, h1, h2, h3, h4, h5, h6, h7, h8, h9, fun z => h10 (hAB _ z)⟩
theorem vx_L.word {C n d : String} {A : Nat → Prop} {s : State} {args : Array Value} (h : vx_L C n d A s s.heap) : (Cond.laysStatic C n d).before args s = true := by
  obtain ⟨c, k, i, f, a, cell, h1, h2, h3, h4, h5, h6, h7, h8, h9, -⟩ := h
  show (Cond.laysStatic C n d).holds args s none s [] = true
  exact Cond.laysStatic_of h1 h2 h3 h4 h5 h6 h7 h8 h9
/-- .. and what it holds: null or some reference -/
def vx_Zq (C n d : String) (A : Nat → Prop) (U : State) (H : Heap) : Prop := va_Zq C n d A U H ∧ vx_L C n d A U H
theorem vx_Zq.moved {C n d : String} {A : Nat → Prop} {u U : State} {H : Heap} (hvm : u.vm.Alike U.vm) (h : vx_Zq C n d A u H) : vx_Zq C n d A U H := ⟨va_Zq.moved hvm h.1, vx_L.moved hvm h.2⟩
theorem vx_Zq.kept {C n d : String} {A : Nat → Prop} {U : State} {H H1 : Heap} (h : vx_Zq C n d A U H) (hq : ∀ a : Nat, a < H.size → ¬ A a → H1[a]? = H[a]?) : vx_Zq C n d A U H1 := ⟨va_Zq.kept h.1 hq, vx_L.kept h.2 hq⟩
theorem vx_Zq.narrow {C n d : String} {A B : Nat → Prop} {U : State} {H : Heap} (h : vx_Zq C n d A U H) (hAB : ∀ q, B q → A q) : vx_Zq C n d B U H := ⟨va_Zq.narrow h.1 hAB, vx_L.narrow h.2 hAB⟩
theorem vx_Zqof {args : Array Value} {s : State} {C n d : String} {A : Nat → Prop} (hl : (Cond.laysStatic C n d).before args s = true) (hini : (Cond.initialized C).before args s = true) (h : (Cond.isRef (.static C n d)).before args s = true) (hA : ∀ a : Nat, a < s.heap.size → ¬ A a) : vx_Zq C n d A s s.heap := by
  refine ⟨va_Zqof hl hini h hA, ?_⟩
  obtain ⟨c, k, i, f, a, cell, h1, h2, h3, h4, h5, h6, h7, h8, h9⟩ := Cond.laysStatic_spec hl
  exact ⟨c, k, i, f, a, cell, h1, h2, h3, h4, h5, h6, h7, h8, h9, hA a (Array.getElem?_eq_some_iff.mp h5).1⟩
theorem vx_isRef {C n d : String} {v : Value} {A : Nat → Prop} {s : State} {args : Array Value} (h : va_Z C n d v A s s.heap) (hv : v.isRef = true) : (Cond.isRef (.static C n d)).before args s = true := by
  obtain ⟨cf, kf, fi, f, a, cell, h1, h2, h3, h4, h5, h6, h7, -⟩ := h
  have he : (Term.static C n d).eval args s none [] s = some v := by
    simp [Term.eval, State.fieldNamed?, h1, h2, h4, h5, h6, h7]
  simp only [Cond.before, Cond.holds, Cond.value, he]
  cases v <;> simp_all [Value.isRef]
theorem vx_isRefq {C n d : String} {A : Nat → Prop} {s : State} {args : Array Value} (h : va_Zq C n d A s s.heap) : (Cond.isRef (.static C n d)).before args s = true := by
  rcases h with h | ⟨t, h⟩
  · exact vx_isRef h rfl
  · exact vx_isRef h rfl
/-- the same frame, seen from here: as if the method were called anew in this heap -/
theorem vx_rebase {T : State} (X : Stand p l e R s m args below meth c T locs cells slots) {R' : Room} (hf : R'.frames ≤ R.frames) (hl : R'.locals ≤ R.locals) (hc : cells + R'.cells ≤ R.cells) (hs : slots + R'.slots ≤ R.slots) :
    Stand p l e R' ((T.setVm s.vm).setFrames (.invoking m args :: below)) m args below meth c T [] 0 0 := by
  have htop : (T.setVm s.vm).topJava?.isSome := X.here.top
  have hF : ((T.setVm s.vm).setFrames (.invoking m args :: below)).frames = .invoking m args :: below := State.frames_setFrames _ (State.cur_lt_of_top htop)
  obtain ⟨g₀, hg0⟩ := Option.isSome_iff_exists.mp htop
  obtain ⟨r, hr⟩ := State.topJava?_eq_some.mp hg0
  have hl9 : e.platform.stackLimits (T.setVm s.vm).me = e.platform.stackLimits s.me := X.limits
  have hb9 : (T.setVm s.vm).me.stackBytes = s.me.stackBytes := X.bytes
  refine ⟨X.admits, X.cas, X.clock, hF, ?_, X.hears, X.method, X.code, X.here, X.tail, X.warmed, ?_, ?_, ?_⟩
  · have h := X.room
    have hU : ((T.setVm s.vm).setFrames (.invoking m args :: below)).localsInUse = s.localsInUse := by
      rw [State.localsInUse_invoking hF (meth := meth) (c := c) X.method X.code, State.localsInUse_invoking X.frames X.method X.code]
    simp only [State.hasRoom, Bool.and_eq_true, decide_eq_true_eq] at h ⊢
    obtain ⟨⟨⟨⟨h1, h2, h3, h4, h5, h6⟩, h7⟩, h8⟩, h9⟩ := h
    rw [X.frames, List.length_cons] at h2 h3
    have q1 := X.heapSize
    have q2 := X.used
    simp only [hF, hU, List.length_cons, State.stackLimits_setFrames, State.stackBytes_setFrames, hl9, hb9]
    refine ⟨⟨⟨⟨by omega, by omega, by omega, by omega, by omega, h6⟩, ?_⟩, ?_⟩, X.book⟩
    · show T.heap.size + R'.cells ≤ e.platform.maxCells
      omega
    · show T.slotsUsed + R'.slots ≤ e.platform.maxSlots
      omega
  · rw [State.stackLimits_setFrames]; rfl
  · rw [State.stackBytes_setFrames]; rfl
  · refine ⟨?_, Nat.le_refl _, Nat.le_refl _, ?_, ?_, fun a c9 h9 => ⟨c9, h9, rfl, rfl, fun _ _ => rfl⟩⟩
    · obtain ⟨t, ht, -⟩ := State.frames_cons hr
      show T.setVm s.vm = { ((T.setVm s.vm).setFrames (.invoking m args :: below)).setFrames (T.setVm s.vm).frames with heap := T.heap, slotsUsed := T.slotsUsed }
      rw [State.setFrames_setFrames, State.setFrames_self ht]
      rfl
    · show T.slotsUsed = T.slotsUsed + ((T.heap.toList.drop T.heap.size).map (·.slots.size)).sum
      rw [List.drop_eq_nil_of_le (Nat.le_of_eq Array.length_toList)]
      rfl
    · show ((T.heap.toList.drop T.heap.size).map (·.slots.size)).sum ≤ 0
      rw [List.drop_eq_nil_of_le (Nat.le_of_eq Array.length_toList)]
      exact Nat.le_refl _
/-- 'throw new E()': new; dup; invokespecial; athrow -/
theorem vx_throw0 {cc : ByteArray} {pc : Nat} (hexec : p.tables.exec = Jvm.exec) (hb : c.code = cc) (hl : l.stackTraces = false) {own cls : String} {names : List String} {ik ic mc ms : Nat} {A : Nat → Prop}
    (hown : s.vm.findClass own = some m.cls) (hcls : Bundle.fit cls = true) (hnames : ∀ n ∈ names, Bundle.fit n = true)
    (hk : (Cond.classLink own ik cls).before args s = true) (hini : (Cond.initialized cls).before args s = true) (hat : ∀ w ∈ vx_at0 own ic cls names, w.before args s = true)
    (hgood : ∀ w ∈ Cond.classLink own ik cls :: Cond.initialized cls :: vx_at0 own ic cls names, vx_ot w = true)
    (hU : vx_Zq Bundle.tN "UNASSIGNED_STACK" Bundle.steD A s s.heap) (hN : vx_Zq Bundle.tN "SUPPRESSED_SENTINEL" Bundle.listD A s s.heap) (hS : va_S A s.heap H locs) (hsize : ls.size = c.maxLocals)
    (d0 : decode cc pc = .ok (.new ik, 3)) (d3 : decode cc (pc + 3) = .ok (.dup, 1)) (d4 : decode cc (pc + 4) = .ok (.invokespecial ic, 3)) (d7 : decode cc (pc + 7) = .ok (.athrow, 1))
    (hout : ∀ x ∈ c.exceptionTable.toList, covers x (pc + 7) = false)
    (hRframes : names.length + 3 < R.frames) (hRlocals : (rest.map fun v => v.category).sum + (13 * (names.length + 1) + 42) ≤ R.locals) (hRcells : cells + 1 ≤ R.cells) (hRslots : slots + 6 ≤ R.slots) (hlocks : meth.locks = false)
    (hx : ∀ t : State, s.vm.Alike t.vm → H.size ≤ t.heap.size → (∀ q : Nat, q < H.size → t.heap[q]? = H[q]?) → XC cls s t)
    (hf : ∀ z ∈ locs, free z.base) (hc : cells + 1 ≤ mc) (hs : slots + 6 ≤ ms) :
    W p l e R s m args below meth c H locs cells slots (vx_MQ below Qc XC args s mc ms free) (F0 m pc ls rest) := by
  intro T hT X
  have htr : e.platform.stackTraces = false := (show e.platform.stackTraces = l.stackTraces by rw [X.admits.platform]).trans hl
  have Y := vx_rebase X (R' := { frames := R.frames, locals := R.locals, cells := 1, slots := 6 }) (Nat.le_refl _) (Nat.le_refl _) hRcells hRslots
  obtain ⟨s', hA⟩ : ∃ z, z = (T.setVm s.vm).setFrames (.invoking m args :: below) := ⟨_, rfl⟩
  rw [← hA] at Y
  have hvm : s'.vm = s.vm := by rw [hA]; rfl
  have hhp : s'.heap = H := by rw [hA]; exact hT
  have hW0 : s.WarmedH s'.vm := by rw [hvm]; exact State.WarmedH.refl s
  have hat' : ∀ w ∈ vx_at0 own ic cls names, w.before args s' = true := fun w hw => vx_ot_at hW0 hvm.symm (hgood w (List.mem_cons_of_mem _ (List.mem_cons_of_mem _ hw))) (hat w hw)
  have hk' : (Cond.classLink own ik cls).before args s' = true := vx_ot_at hW0 hvm.symm (hgood _ List.mem_cons_self) hk
  have hini' : (Cond.initialized cls).before args s' = true := vx_ot_at hW0 hvm.symm (hgood _ (List.mem_cons_of_mem _ List.mem_cons_self)) hini
  have hU' : vx_Zq Bundle.tN "UNASSIGNED_STACK" Bundle.steD A s' s'.heap := by rw [hhp]; exact vx_Zq.moved hW0.alike (hU.kept hS.2.1)
  have hN' : vx_Zq Bundle.tN "SUPPRESSED_SENTINEL" Bundle.listD A s' s'.heap := by rw [hhp]; exact vx_Zq.moved hW0.alike (hN.kept hS.2.1)
  have h : ∀ w ∈ Bundle.ownAtoms0 own ic cls names, w.before args s' = true := vx_own hat' (vx_isRefq hU'.1) (vx_isRefq hN'.1) hU'.2.word hN'.2.word
  have hown' : s'.vm.findClass own = some m.cls := by rw [hvm]; exact hown
  have hins : (Cond.instantiable cls 6).before args s' = true := h _ (by simp [Bundle.ownAtoms0])
  obtain ⟨vm₁, cX, kX, hfX, hkX, -, -, X₁, st1⟩ := Y.newCold hexec (own := own) (C := cls) (index := ik) (n := 6) hown' hk' hins hini'
    (g := F0 m pc ls rest) rfl (by rw [hb]; exact d0) (Nat.le_refl _) (Nat.le_refl _)
  generalize hT1 : (T.setVm vm₁).pushCell { cls := cX, slots := kX.instanceTypes.map defaultValue, vm := .none } = T1 at X₁ st1
  have hcat : (Value.ref T.heap.size).category = 1 := rfl
  have hcellA : T1.heap[T.heap.size]? = some (freshCell cX kX) := by rw [← hT1]; exact State.heap_pushCell_size _ _
  have d3' : decode c.code (pc + 3) = .ok (.dup, 1) := by rw [hb]; exact d3
  obtain ⟨U, hsteps, hrun, hend, hW, hsame, ce, hce, hO⟩ := X₁.ctorThrow0 hexec htr (own := own) (cls := cls) (names := names) (ic := ic) hown' hcls hnames h (fun x hx => nomatch hx) hfX hkX hcellA (by rw [hhp, hT]; exact Nat.le_refl _)
    (g := { method := m, pc := pc + 4, locals := ls, stack := .ref T.heap.size :: .ref T.heap.size :: rest, locked := none }) rfl hsize rfl rfl (rest := rest) rfl
    (by rw [hb]; exact d4) (by rw [hb]; exact d7) hout hRframes (by simp only [List.map_cons, List.sum_cons, hcat]; omega) hlocks
  obtain ⟨f1, f2⟩ := vx_frame hsame
  rw [hhp] at f1 f2
  have hWs : s.WarmedH U.vm := State.WarmedH.trans hW0 hW
  have hcl : s.vm.findClass cls = some ce.cls := by
    have h9 := hO.cls
    rw [hvm] at h9
    exact h9
  have hall : s.sameButNew ({ U with vm := s.vm } : State) locs mc ms := by
    subst hA
    obtain ⟨e1, e2⟩ := hsame
    rw [State.setFrames_setFrames] at e1
    have h2 : (T.setVm s.vm).sameButNew ({ U with vm := s.vm } : State) [] (0 + 1) (0 + 6) := ⟨e1, e2⟩
    have h3 := X.same.trans h2
    rw [List.append_nil] at h3
    exact h3.mono hc hs
  refine ⟨U, ?_, .threw T.heap.size, hrun, hend, Or.inr ⟨T.heap.size, rfl, cls, ce, locs, hx U hWs.alike f1 (fun q hq => f2 q hq (fun z hz => nomatch hz)), hce, hO.vm, hcl, hWs, hall, hf⟩⟩
  refine st1 _ ?_
  show Steps p.tables e below (T1.setTop { method := m, pc := pc + 3, locals := ls, stack := .ref T.heap.size :: rest, locked := none }) _
  jvm_step X₁.here [X₁.here.top, hexec, d3', Value.category]
  exact hsteps
/-- 'throw new E("text")': new; dup; ldc; invokespecial; athrow -/
theorem vx_throwS {cc : ByteArray} {pc : Nat} (hexec : p.tables.exec = Jvm.exec) (hb : c.code = cc) (hl : l.stackTraces = false) {own cls text : String} {names : List String} {ik is ic mc ms sa : Nat} {A : Nat → Prop}
    (hown : s.vm.findClass own = some m.cls) (hcls : Bundle.fit cls = true) (hnames : ∀ n ∈ names, Bundle.fit n = true)
    (hk : (Cond.classLink own ik cls).before args s = true) (hini : (Cond.initialized cls).before args s = true) (hstr : vk_R own is text sa s) (hat : ∀ w ∈ vx_atS own ic cls names, w.before args s = true)
    (hgood : ∀ w ∈ Cond.classLink own ik cls :: Cond.initialized cls :: vx_atS own ic cls names, vx_ot w = true)
    (hU : vx_Zq Bundle.tN "UNASSIGNED_STACK" Bundle.steD A s s.heap) (hN : vx_Zq Bundle.tN "SUPPRESSED_SENTINEL" Bundle.listD A s s.heap) (hS : va_S A s.heap H locs) (hsize : ls.size = c.maxLocals)
    (d0 : decode cc pc = .ok (.new ik, 3)) (d3 : decode cc (pc + 3) = .ok (.dup, 1)) (d4 : decode cc (pc + 4) = .ok (.ldc is, 2)) (d6 : decode cc (pc + 6) = .ok (.invokespecial ic, 3)) (d9 : decode cc (pc + 9) = .ok (.athrow, 1))
    (hout : ∀ x ∈ c.exceptionTable.toList, covers x (pc + 9) = false)
    (hRframes : names.length + 3 < R.frames) (hRlocals : (rest.map fun v => v.category).sum + (13 * (names.length + 1) + 43) ≤ R.locals) (hRcells : cells + 1 ≤ R.cells) (hRslots : slots + 6 ≤ R.slots) (hlocks : meth.locks = false)
    (hx : ∀ t : State, s.vm.Alike t.vm → H.size ≤ t.heap.size → (∀ q : Nat, q < H.size → t.heap[q]? = H[q]?) → XC cls s t)
    (hf : ∀ z ∈ locs, free z.base) (hc : cells + 1 ≤ mc) (hs : slots + 6 ≤ ms) :
    W p l e R s m args below meth c H locs cells slots (vx_MQ below Qc XC args s mc ms free) (F0 m pc ls rest) := by
  intro T hT X
  have htr : e.platform.stackTraces = false := (show e.platform.stackTraces = l.stackTraces by rw [X.admits.platform]).trans hl
  have Y := vx_rebase X (R' := { frames := R.frames, locals := R.locals, cells := 1, slots := 6 }) (Nat.le_refl _) (Nat.le_refl _) hRcells hRslots
  obtain ⟨s', hA⟩ : ∃ z, z = (T.setVm s.vm).setFrames (.invoking m args :: below) := ⟨_, rfl⟩
  rw [← hA] at Y
  have hvm : s'.vm = s.vm := by rw [hA]; rfl
  have hhp : s'.heap = H := by rw [hA]; exact hT
  have hW0 : s.WarmedH s'.vm := by rw [hvm]; exact State.WarmedH.refl s
  have hat' : ∀ w ∈ vx_atS own ic cls names, w.before args s' = true := fun w hw => vx_ot_at hW0 hvm.symm (hgood w (List.mem_cons_of_mem _ (List.mem_cons_of_mem _ hw))) (hat w hw)
  have hk' : (Cond.classLink own ik cls).before args s' = true := vx_ot_at hW0 hvm.symm (hgood _ List.mem_cons_self) hk
  have hini' : (Cond.initialized cls).before args s' = true := vx_ot_at hW0 hvm.symm (hgood _ (List.mem_cons_of_mem _ List.mem_cons_self)) hini
  have hU' : vx_Zq Bundle.tN "UNASSIGNED_STACK" Bundle.steD A s' s'.heap := by rw [hhp]; exact vx_Zq.moved hW0.alike (hU.kept hS.2.1)
  have hN' : vx_Zq Bundle.tN "SUPPRESSED_SENTINEL" Bundle.listD A s' s'.heap := by rw [hhp]; exact vx_Zq.moved hW0.alike (hN.kept hS.2.1)
  have h : ∀ w ∈ Bundle.ownAtoms own ic cls names, w.before args s' = true := vx_own hat' (vx_isRefq hU'.1) (vx_isRefq hN'.1) hU'.2.word hN'.2.word
  have hown' : s'.vm.findClass own = some m.cls := by rw [hvm]; exact hown
  have hins : (Cond.instantiable cls 6).before args s' = true := h _ (by simp [Bundle.ownAtoms])
  obtain ⟨vm₁, cX, kX, hfX, hkX, -, -, X₁, st1⟩ := Y.newCold hexec (own := own) (C := cls) (index := ik) (n := 6) hown' hk' hins hini'
    (g := F0 m pc ls rest) rfl (by rw [hb]; exact d0) (Nat.le_refl _) (Nat.le_refl _)
  generalize hT1 : (T.setVm vm₁).pushCell { cls := cX, slots := kX.instanceTypes.map defaultValue, vm := .none } = T1 at X₁ st1
  have hcat : (Value.ref T.heap.size).category = 1 := rfl
  have hcellA : T1.heap[T.heap.size]? = some (freshCell cX kX) := by rw [← hT1]; exact State.heap_pushCell_size _ _
  have d3' : decode c.code (pc + 3) = .ok (.dup, 1) := by rw [hb]; exact d3
  have d4' : decode c.code (pc + 4) = .ok (.ldc is, 2) := by rw [hb]; exact d4
  have hstr' : vk_R own is text sa s' := vk_R.warm hW0 hstr
  obtain ⟨U, hsteps, hrun, hend, hW, hsame, ce, hce, hO⟩ := X₁.ctorThrowS hexec htr (own := own) (cls := cls) (names := names) (ic := ic) hown' hcls hnames h (fun x hx => nomatch hx) hfX hkX hcellA (by rw [hhp, hT]; exact Nat.le_refl _) (msg := .ref sa) rfl
    (g := { method := m, pc := pc + 6, locals := ls, stack := .ref sa :: .ref T.heap.size :: .ref T.heap.size :: rest, locked := none }) rfl hsize rfl rfl (rest := rest) rfl
    (by rw [hb]; exact d6) (by rw [hb]; exact d9) hout hRframes (by simp only [List.map_cons, List.sum_cons, hcat]; omega) hlocks
  obtain ⟨f1, f2⟩ := vx_frame hsame
  rw [hhp] at f1 f2
  have hWs : s.WarmedH U.vm := State.WarmedH.trans hW0 hW
  have hcl : s.vm.findClass cls = some ce.cls := by
    have h9 := hO.cls
    rw [hvm] at h9
    exact h9
  have hall : s.sameButNew ({ U with vm := s.vm } : State) locs mc ms := by
    subst hA
    obtain ⟨e1, e2⟩ := hsame
    rw [State.setFrames_setFrames] at e1
    have h2 : (T.setVm s.vm).sameButNew ({ U with vm := s.vm } : State) [] (0 + 1) (0 + 6) := ⟨e1, e2⟩
    have h3 := X.same.trans h2
    rw [List.append_nil] at h3
    exact h3.mono hc hs
  refine ⟨U, ?_, .threw T.heap.size, hrun, hend, Or.inr ⟨T.heap.size, rfl, cls, ce, locs, hx U hWs.alike f1 (fun q hq => f2 q hq (fun z hz => nomatch hz)), hce, hO.vm, hcl, hWs, hall, hf⟩⟩
  refine st1 _ ?_
  show Steps p.tables e below (T1.setTop { method := m, pc := pc + 3, locals := ls, stack := .ref T.heap.size :: rest, locked := none }) _
  jvm_step X₁.here [X₁.here.top, hexec, d3', Value.category]
  exact X₁.ldcString hexec (own := own) (text := text) (index := is) (a := sa) hown' hstr'.1 hstr'.2
    (g := { method := m, pc := pc + 4, locals := ls, stack := .ref T.heap.size :: .ref T.heap.size :: rest, locked := none }) rfl d4' _ hsteps
/-- 'throw new E("text")', the text by a wide index -/
theorem vx_throwSW {cc : ByteArray} {pc : Nat} (hexec : p.tables.exec = Jvm.exec) (hb : c.code = cc) (hl : l.stackTraces = false) {own cls text : String} {names : List String} {ik is ic mc ms sa : Nat} {A : Nat → Prop}
    (hown : s.vm.findClass own = some m.cls) (hcls : Bundle.fit cls = true) (hnames : ∀ n ∈ names, Bundle.fit n = true)
    (hk : (Cond.classLink own ik cls).before args s = true) (hini : (Cond.initialized cls).before args s = true) (hstr : vk_R own is text sa s) (hat : ∀ w ∈ vx_atS own ic cls names, w.before args s = true)
    (hgood : ∀ w ∈ Cond.classLink own ik cls :: Cond.initialized cls :: vx_atS own ic cls names, vx_ot w = true)
    (hU : vx_Zq Bundle.tN "UNASSIGNED_STACK" Bundle.steD A s s.heap) (hN : vx_Zq Bundle.tN "SUPPRESSED_SENTINEL" Bundle.listD A s s.heap) (hS : va_S A s.heap H locs) (hsize : ls.size = c.maxLocals)
    (d0 : decode cc pc = .ok (.new ik, 3)) (d3 : decode cc (pc + 3) = .ok (.dup, 1)) (d4 : decode cc (pc + 4) = .ok (.ldc_w is, 3)) (d7 : decode cc (pc + 7) = .ok (.invokespecial ic, 3)) (d10 : decode cc (pc + 10) = .ok (.athrow, 1))
    (hout : ∀ x ∈ c.exceptionTable.toList, covers x (pc + 10) = false)
    (hRframes : names.length + 3 < R.frames) (hRlocals : (rest.map fun v => v.category).sum + (13 * (names.length + 1) + 43) ≤ R.locals) (hRcells : cells + 1 ≤ R.cells) (hRslots : slots + 6 ≤ R.slots) (hlocks : meth.locks = false)
    (hx : ∀ t : State, s.vm.Alike t.vm → H.size ≤ t.heap.size → (∀ q : Nat, q < H.size → t.heap[q]? = H[q]?) → XC cls s t)
    (hf : ∀ z ∈ locs, free z.base) (hc : cells + 1 ≤ mc) (hs : slots + 6 ≤ ms) :
    W p l e R s m args below meth c H locs cells slots (vx_MQ below Qc XC args s mc ms free) (F0 m pc ls rest) := by
  intro T hT X
  have htr : e.platform.stackTraces = false := (show e.platform.stackTraces = l.stackTraces by rw [X.admits.platform]).trans hl
  have Y := vx_rebase X (R' := { frames := R.frames, locals := R.locals, cells := 1, slots := 6 }) (Nat.le_refl _) (Nat.le_refl _) hRcells hRslots
  obtain ⟨s', hA⟩ : ∃ z, z = (T.setVm s.vm).setFrames (.invoking m args :: below) := ⟨_, rfl⟩
  rw [← hA] at Y
  have hvm : s'.vm = s.vm := by rw [hA]; rfl
  have hhp : s'.heap = H := by rw [hA]; exact hT
  have hW0 : s.WarmedH s'.vm := by rw [hvm]; exact State.WarmedH.refl s
  have hat' : ∀ w ∈ vx_atS own ic cls names, w.before args s' = true := fun w hw => vx_ot_at hW0 hvm.symm (hgood w (List.mem_cons_of_mem _ (List.mem_cons_of_mem _ hw))) (hat w hw)
  have hk' : (Cond.classLink own ik cls).before args s' = true := vx_ot_at hW0 hvm.symm (hgood _ List.mem_cons_self) hk
  have hini' : (Cond.initialized cls).before args s' = true := vx_ot_at hW0 hvm.symm (hgood _ (List.mem_cons_of_mem _ List.mem_cons_self)) hini
  have hU' : vx_Zq Bundle.tN "UNASSIGNED_STACK" Bundle.steD A s' s'.heap := by rw [hhp]; exact vx_Zq.moved hW0.alike (hU.kept hS.2.1)
  have hN' : vx_Zq Bundle.tN "SUPPRESSED_SENTINEL" Bundle.listD A s' s'.heap := by rw [hhp]; exact vx_Zq.moved hW0.alike (hN.kept hS.2.1)
  have h : ∀ w ∈ Bundle.ownAtoms own ic cls names, w.before args s' = true := vx_own hat' (vx_isRefq hU'.1) (vx_isRefq hN'.1) hU'.2.word hN'.2.word
  have hown' : s'.vm.findClass own = some m.cls := by rw [hvm]; exact hown
  have hins : (Cond.instantiable cls 6).before args s' = true := h _ (by simp [Bundle.ownAtoms])
  obtain ⟨vm₁, cX, kX, hfX, hkX, -, -, X₁, st1⟩ := Y.newCold hexec (own := own) (C := cls) (index := ik) (n := 6) hown' hk' hins hini'
    (g := F0 m pc ls rest) rfl (by rw [hb]; exact d0) (Nat.le_refl _) (Nat.le_refl _)
  generalize hT1 : (T.setVm vm₁).pushCell { cls := cX, slots := kX.instanceTypes.map defaultValue, vm := .none } = T1 at X₁ st1
  have hcat : (Value.ref T.heap.size).category = 1 := rfl
  have hcellA : T1.heap[T.heap.size]? = some (freshCell cX kX) := by rw [← hT1]; exact State.heap_pushCell_size _ _
  have d3' : decode c.code (pc + 3) = .ok (.dup, 1) := by rw [hb]; exact d3
  have d4' : decode c.code (pc + 4) = .ok (.ldc_w is, 3) := by rw [hb]; exact d4
  have hstr' : vk_R own is text sa s' := vk_R.warm hW0 hstr
  obtain ⟨U, hsteps, hrun, hend, hW, hsame, ce, hce, hO⟩ := X₁.ctorThrowS hexec htr (own := own) (cls := cls) (names := names) (ic := ic) hown' hcls hnames h (fun x hx => nomatch hx) hfX hkX hcellA (by rw [hhp, hT]; exact Nat.le_refl _) (msg := .ref sa) rfl
    (g := { method := m, pc := pc + 7, locals := ls, stack := .ref sa :: .ref T.heap.size :: .ref T.heap.size :: rest, locked := none }) rfl hsize rfl rfl (rest := rest) rfl
    (by rw [hb]; exact d7) (by rw [hb]; exact d10) hout hRframes (by simp only [List.map_cons, List.sum_cons, hcat]; omega) hlocks
  obtain ⟨f1, f2⟩ := vx_frame hsame
  rw [hhp] at f1 f2
  have hWs : s.WarmedH U.vm := State.WarmedH.trans hW0 hW
  have hcl : s.vm.findClass cls = some ce.cls := by
    have h9 := hO.cls
    rw [hvm] at h9
    exact h9
  have hall : s.sameButNew ({ U with vm := s.vm } : State) locs mc ms := by
    subst hA
    obtain ⟨e1, e2⟩ := hsame
    rw [State.setFrames_setFrames] at e1
    have h2 : (T.setVm s.vm).sameButNew ({ U with vm := s.vm } : State) [] (0 + 1) (0 + 6) := ⟨e1, e2⟩
    have h3 := X.same.trans h2
    rw [List.append_nil] at h3
    exact h3.mono hc hs
  refine ⟨U, ?_, .threw T.heap.size, hrun, hend, Or.inr ⟨T.heap.size, rfl, cls, ce, locs, hx U hWs.alike f1 (fun q hq => f2 q hq (fun z hz => nomatch hz)), hce, hO.vm, hcl, hWs, hall, hf⟩⟩
  refine st1 _ ?_
  show Steps p.tables e below (T1.setTop { method := m, pc := pc + 3, locals := ls, stack := .ref T.heap.size :: rest, locked := none }) _
  jvm_step X₁.here [X₁.here.top, hexec, d3', Value.category]
  exact X₁.ldcStringW hexec (own := own) (text := text) (index := is) (a := sa) hown' hstr'.1 hstr'.2
    (g := { method := m, pc := pc + 4, locals := ls, stack := .ref T.heap.size :: .ref T.heap.size :: rest, locked := none }) rfl d4' _ hsteps
end Ends
section Bodies
variable {l : Launch}
theorem vx_ofW {y : MethodName} {ws ws' : List Cond} {rm : Room} {Pc : Array Value → State → Prop} {Qc : Array Value → State → Outcome → State → Prop} {XC : String → State → State → Prop} {mc ms : Nat} {free : Addr → Prop} {cc : ByteArray} {maxL : Nat} {ret : Option FieldType}
    (hy : plainName y.cls = true) (hw : ws = Cond.code y cc maxL ret :: ws')
    (body : ∀ p e s m args below meth c s₁, BodyLoose p l y (headSpec ws rm) cc maxL ret e s m args below meth c s₁ → c.maxLocals = maxL → (∀ x ∈ c.exceptionTable.toList, False) → Pc args s →
      W p l e (headSpec ws rm).room s m args below meth c s.heap [] 0 0 (vx_MQ below Qc XC args s mc ms free) (entryFrame m args maxL)) : vx_Met l y ws rm Pc Qc XC mc ms free := by
  refine MetFree.of_bodyS (code := cc) (maxLocals := maxL) (ret := ret) hy ?_ ?_
  · intro args s m h hn
    obtain ⟨meth, c, h1, h2, h3, h4, h5, h6, -, -⟩ := Cond.code_spec hn (atoms_spec (ws := ws) h _ (by rw [hw]; exact List.mem_cons_self))
    exact ⟨meth, c, h1, h2, h3, h4, h5, h6⟩
  · intro p e s m args below meth c s₁ B hml hP _
    have hh0 : s₁.heap = s.heap := by rw [B.state]; rfl
    have ht : ∀ x ∈ c.exceptionTable.toList, False := by
      obtain ⟨meth9, c9, h1, h2, -, -, -, -, h7, -⟩ := Cond.code_spec B.named (atoms_spec (ws := ws) B.pre _ (by rw [hw]; exact List.mem_cons_self))
      cases Option.some.inj (h1.symm.trans B.method)
      cases Option.some.inj (h2.symm.trans (Stand.of_body B).code)
      intro x hx
      rw [Array.isEmpty_iff.mp h7] at hx
      cases hx
    obtain ⟨t, a1, o, b1, b2, b3⟩ := body p e s m args below meth c s₁ B hml ht hP s₁ hh0 (Stand.of_body B)
    exact ⟨t, o, a1, b1, b2, b3⟩
/-- the table of a body with handlers -/
theorem vx_table {p : Program} {x y : MethodName} {S : Spec} {cc bytes : ByteArray} {maxL maxL' : Nat} {ret ret' : Option FieldType} {e : Env} {s s₁ : State} {m : MethodId} {args : Array Value} {below : List Frame} {meth : Method} {c : Code} {hh : List (Nat × Nat × Nat × Nat)}
    (B : BodyLoose p l y S cc maxL ret e s m args below meth c s₁) (h : (Cond.codeWith y bytes maxL' ret' hh).before args s = true) : c.exceptionTable.toList = tableOf hh := by
  obtain ⟨m9, meth9, c9, hn9, h1, h2, -, -, h6, -⟩ := Cond.codeWith_spec h
  cases Option.some.inj (hn9.symm.trans B.named)
  cases Option.some.inj (h1.symm.trans B.method)
  cases Option.some.inj (h2.symm.trans (Stand.of_body B).code)
  rw [← h6, table_eq]
end Bodies
end VXA
/-! ===== END ===== -/
/-! ===== BEGIN a static call of a method with an exception table ===== -/
section VXS
variable {p : Program} {l : Launch} {e : Env} {R : Room} {s : State} {m : MethodId} {args : Array Value} {below : List Frame} {meth : Method} {c : Code} {T : State} {H : Heap} {locs : List Loc} {cells slots : Nat}
abbrev vx_CSW (R : Room) (s : State) (args : Array Value) (own : String) (index : Nat) (y : MethodName) (bytes : ByteArray) (maxL : Nat) (ret : Option FieldType) (hh : List (Nat × Nat × Nat × Nat)) (ws : List Cond) (rm : Room) (mc ms n : Nat) : Prop :=
  (rm.cells = mc ∧ rm.slots = ms ∧ rm.frames + 1 ≤ R.frames ∧ 8 + (maxL + 11) + rm.locals ≤ R.locals ∧ (∀ w ∈ ws, ∀ (a' : Array Value) (U : State), s.WarmedH U.vm → w.before a' U = true) ∧ Cond.codeWith y bytes maxL ret hh ∈ ws) ∧
  (Cond.codeWith y bytes maxL ret hh).before args s = true ∧ (Cond.initialized y.cls).before args s = true ∧ (y.cls ≠ "java/lang/invoke/MethodHandle" ∧ y.cls ≠ "java/lang/invoke/VarHandle") ∧
  (∀ sig, parseMethodDescriptor y.desc = some sig → n = sig.parameters.length) ∧ (Cond.methodLink own index y).before args s = true ∧ (Cond.static y).before args s = true
theorem vx_cwSW {own : String} {index maxL mc ms : Nat} {y : MethodName} {bytes : ByteArray} {ret : Option FieldType} {hh : List (Nat × Nat × Nat × Nat)} {Ts ws ws' : List Cond} {rm : Room} (n : Nat) (ht : ∀ w ∈ Ts, w.before args s = true) (hT : GoodIn Ts (va_wsS own index y ws)) (hw : ws = Cond.codeWith y bytes maxL ret hh :: ws') (hrc : rm.cells = mc) (hrs : rm.slots = ms)
    (hd : y.cls ≠ "java/lang/invoke/MethodHandle" ∧ y.cls ≠ "java/lang/invoke/VarHandle" ∧ (parseMethodDescriptor y.desc).map (fun d => d.parameters.length) = some n) (hR : rm.frames + 1 ≤ R.frames ∧ 8 + (maxL + 11) + rm.locals ≤ R.locals) :
    vx_CSW R s args own index y bytes maxL ret hh ws rm mc ms n := by
  have ok : ∀ w ∈ va_wsS own index y ws, w.before args s = true := fun w h => ht w (hT w h).1
  have hG : GoodIn Ts ws := fun w h => hT w (by unfold va_wsS; exact List.mem_append_right _ h)
  have hc : Cond.codeWith y bytes maxL ret hh ∈ ws := by rw [hw]; exact List.mem_cons_self
  refine ⟨⟨hrc, hrs, hR.1, hR.2, pay_in ht hG, hc⟩, ht _ (hG _ hc).1, ok _ (by simp [va_wsS]), ⟨hd.1, hd.2.1⟩, fun sig h => ?_, ok _ (by simp [va_wsS]), ok _ (by simp [va_wsS])⟩
  have h2 := hd.2.2
  rw [h] at h2
  exact (Option.some.inj h2).symm
theorem vx_callSW (X : Stand p l e R s m args below meth c T locs cells slots) (hexec : p.tables.exec = Jvm.exec) {own : String} {index : Nat} {y : MethodName} {bytes : ByteArray} {maxL : Nat} {ret : Option FieldType} {hh : List (Nat × Nat × Nat × Nat)}
    (hown : s.vm.findClass own = some m.cls) (hlink : (Cond.methodLink own index y).before args s = true) (hstat : (Cond.static y).before args s = true) (hinit : (Cond.initialized y.cls).before args s = true)
    (hcode : (Cond.codeWith y bytes maxL ret hh).before args s = true) (hy : y.cls ≠ "java/lang/invoke/MethodHandle" ∧ y.cls ≠ "java/lang/invoke/VarHandle")
    {W9 : Nat} {Pre : Pt → Array Value → Prop} {Post : Pt → Array Value → Option Value → Pt → Prop} (hK : Back l R p e below s args y 3 W9 Pre Post)
    {g : JFrame} (hg : g.method = m) (hsize : g.locals.size = c.maxLocals) {argsL rest : List Value} (hlen : ∀ sig, parseMethodDescriptor y.desc = some sig → argsL.length = sig.parameters.length)
    (hstack : g.stack = argsL.reverse ++ rest) (hW : 2 * g.monitorRoom + (rest.map fun v => v.category).sum ≤ W9) (hdg : decode c.code g.pc = .ok (.invokestatic index, 3))
    (hpre : ∀ vm₁, s.WarmedH vm₁ → Pre ⟨T.setVm vm₁, locs, cells, slots⟩ argsL.toArray) :
    ∃ (v : Option Value) (vm₁ : Vm) (B : Pt), s.WarmedH vm₁ ∧ Stand p l e R s m args below meth c B.U B.locs B.cells B.slots ∧ Post ⟨T.setVm vm₁, locs, cells, slots⟩ argsL.toArray v B ∧
      ∀ target, Steps p.tables e below (B.U.setTop { g with pc := g.pc + 3, stack := v.toList ++ rest }) target → Steps p.tables e below (T.setTop g) target := by
  obtain ⟨mk, methM, cM, hnamed, hmethM, -, -, -, -, -, -, hsigM⟩ := Cond.codeWith_spec hcode
  have hstatic : methM.isStatic = true := Cond.static_spec hnamed hmethM hstat
  obtain ⟨kP, hkP, -⟩ := className_of_methodNamed hnamed
  have hinitP : kP.init = .initialized := Cond.initialized_spec (findClass_of_methodNamed hnamed) hkP hinit
  obtain ⟨vm₁, X₁, hstep₁⟩ := X.invokestatic hexec hown hlink hnamed hmethM hstatic hkP hinitP hy (g := g) hg (argsL := argsL) (rest := rest) (hlen _ hsigM) hstack hdg
  obtain ⟨v, B, X', hpost, hsteps⟩ := hK m meth c ⟨T.setVm vm₁, locs, cells, slots⟩ { g with stack := rest } (.invokestatic index) mk argsL.toArray X₁ hg hsize hdg hW (X₁.named hnamed) (hpre vm₁ X₁.warmed)
  exact ⟨v, vm₁, B, X₁.warmed, X', hpost, fun target h => hstep₁ _ fun acts => by rw [doInvoke_state]; exact hsteps.trans h⟩
theorem vx_runSW {y : MethodName} {bytes cc : ByteArray} {maxL nL mc ms n index : Nat} {ret : Option FieldType} {hh : List (Nat × Nat × Nat × Nat)} {ws : List Cond} {rm : Room} {Pc : Array Value → State → Prop} {Qc : Array Value → State → Outcome → State → Prop} {free : Addr → Prop} {Ts : List Cond} {own : String} {As rest : List Value} {g : JFrame}
    (S : CallFix p m c cc nL s args Ts own) (hM : Met l y ws rm Pc Qc mc ms free) (cw : vx_CSW R s args own index y bytes maxL ret hh ws rm mc ms n) (hp : PreS s H Pc As)
    (hg : g.method = m) (hn : As.length = n) (hsize : g.locals.size = nL) (hstack : g.stack = As.reverse ++ rest) (hW : 2 * g.monitorRoom + (rest.map fun v => v.category).sum ≤ 8) (hdg : decode cc g.pc = .ok (.invokestatic index, 3)) (hf : cells + mc ≤ R.cells ∧ slots + ms ≤ R.slots) :
    va_Run p l e R s m args below meth c H locs cells slots mc ms g rest (Qc As.toArray) (free) := by
  obtain ⟨⟨hrc, hrs, hfr, hlo, hws, hcw⟩, hcode, hini, hy, hlen, hl, hstt⟩ := cw
  have hK : Back l R p e below s args y 3 8 (PreOf R mc ms Pc) (PostOf Qc mc ms free) := va_backW (hh := hh) (bytes := bytes) (maxL := maxL) (ret := ret) hM hp.1 hrc hrs hfr hlo hws hcw (fun a' U hW => word_at hW (Or.inl (by first | rfl | simp [Cond.onTables, Cond.keeps, Cond.steady])) hini)
  obtain ⟨hx, hb, hml, ho, -⟩ := S
  intro T hT X
  obtain ⟨v, vm₁, ⟨U', l2, c2, s2⟩, hW₁, X', ⟨g', mk, t, L, e1, e2, hq, h1, hL, h2, h3⟩, st⟩ := vx_callSW X hx (hh := hh) (bytes := bytes) (maxL := maxL) (ret := ret) ho hl hstt hini hcode hy hK hg (hsize.trans hml.symm) (argsL := As) (rest := rest) (fun sig h => hn.trans (hlen sig h)) hstack hW (by rw [hb]; exact hdg)
    (fun vm₁ hW₁ => ⟨hf.1, hf.2, hp.2 (T.setVm vm₁) hT hW₁⟩)
  dsimp only [Pt.U, Pt.locs, Pt.cells, Pt.slots] at X' e1 e2 h1 h2 h3 st
  subst h1; subst h2; subst h3
  exact ⟨v, (T.setVm vm₁).calling g' mk As.toArray, t, U', L, hT, X', hL, e1, e2, hq, st⟩
/-- not caught here, past rows that name other classes: it goes on to the caller -/
theorem vx_outP {p : Program} {l : Launch} {e : Env} {R : Room} {s : State} {m : MethodId} {args : Array Value} {below : List Frame} {meth : Method} {c : Code} {H : Heap} {locs : List Loc} {cells slots : Nat} {free : Addr → Prop} {ls : Array Slot} {rest : List Value} {Qc : Array Value → State → Outcome → State → Prop} {XC : String → State → State → Prop}
    {pc : Nat} {own E : String} {ce : Cell} {q : Addr} {mc ms : Nat} (hown : s.vm.findClass own = some m.cls) (hlocks : meth.locks = false)
    (hpass : ∀ z ∈ c.exceptionTable.toList, covers z pc = false ∨ (z.catchType ≠ 0 ∧ ∃ nm : String, (Cond.classLink own z.catchType nm).before args s = true ∧ va_Nc E nm s)) (hcell : H[q]? = some ce) (hv : ce.vm = .none) (hcl : s.vm.findClass E = some ce.cls)
    (hx : ∀ t : State, t.heap = H → s.vm.Alike t.vm → XC E s t) (hf : ∀ z ∈ locs, free z.base) (hc : cells ≤ mc) (hs : slots ≤ ms) :
    vx_W p l e R s m args below meth c H locs cells slots (vx_MQ below Qc XC args s mc ms free) (F0 m pc ls rest) q := by
  intro T hT X
  have hpl : e.platform.magicAccessors = ({} : Platform).magicAccessors := by rw [X.admits.platform]
  obtain ⟨vm', hW', X', st⟩ := X.outThrough hlocks q (g := F0 m pc ls rest) rfl rfl rfl (cell := ce) (by rw [hT]; exact hcell) (by rw [hv]; rfl)
    (by obtain ⟨k9, h9, -⟩ := Vm.findClass_spec hcl; exact ⟨k9, h9⟩) (fun z hz => by
      rcases hpass z hz with h | ⟨hz0, nm, hl1, hn1⟩
      · exact Or.inl h
      · obtain ⟨c6, hc6, hcl6⟩ := Cond.classLink_spec hown hl1 e.platform hpl
        obtain ⟨a8, b8, h1, h2, h3⟩ := hn1
        cases Option.some.inj (h1.symm.trans hcl)
        cases Option.some.inj (h2.symm.trans hc6)
        exact Or.inr ⟨hz0, _, hcl6, h3⟩)
  obtain ⟨g₀, hfr⟩ := X'.frames_eq
  have hcell9 : ((T.setVm vm').setFrames (.throwing q :: below)).heap[q]? = some ce := by
    show T.heap[q]? = some ce
    rw [hT]; exact hcell
  have hend : Ended ((T.setVm vm').setFrames (.throwing q :: below)) below (.threw q) := State.frames_setFrames _ (State.cur_lt_of_frames hfr)
  refine ⟨(T.setVm vm').setFrames (.throwing q :: below), ?_, .threw q, X'.here.running, hend, Or.inr ⟨q, rfl, E, ce, locs, hx _ hT (X'.ends _).1.alike, hcell9, hv, hcl, (X'.ends _).1, (X'.ends _).2.mono hc hs, hf⟩⟩
  rw [X.pushThrowing_eq]
  exact st
/-- a thing of a world lies in the heap -/
theorem vx_lt {D : va_G} {cl : List vw_C} {ws : va_W} {H1 : Heap} (h : va_P D cl ws H1) {k : Nat} {q : Nat × va_E} (hk : ws[k]? = some q) : q.1 < H1.size := (h k q hk).lt
end VXS
/-! ===== END ===== -/
/-! ===== BEGIN methods with a table of their own: called by a name, returning or throwing ===== -/
section VXH
/-! vx_backW, vx_callVX, vx_callSX, vx_callVW, vx_runVW, vx_runVX, vx_runSX, vx_ofWH follow the same proofs as their sisters above (Free/Laws.lean, Shelf42/LK1.lean); vx_outP calls Shelf42/NT130.lean (outThrough). -/
section
variable {l : Launch} {R : Room} {p : Program} {e : Env} {below : List Frame} {s : State} {sargs : Array Value} {y : MethodName} {len W9 : Nat}
theorem vx_backW {ws : List Cond} {rm : Room} {Pc : Array Value → State → Prop} {Qc : Array Value → State → Outcome → State → Prop} {XC : String → State → State → Prop} {mc ms : Nat} {free : Addr → Prop} {bytes : ByteArray} {maxL : Nat} {ret : Option FieldType} {hh : List (Nat × Nat × Nat × Nat)}
    (hM : vx_Met l y ws rm Pc Qc XC mc ms free) (hblind : FrameBlind Pc) (hrc : rm.cells = mc) (hrs : rm.slots = ms)
    (hframes : rm.frames + 1 ≤ R.frames) (hlocals : W9 + (maxL + 11) + rm.locals ≤ R.locals)
    (hws : ∀ w ∈ ws, ∀ a' U, s.WarmedH U.vm → w.before a' U = true) (hcode : Cond.codeWith y bytes maxL ret hh ∈ ws) (hinit : ∀ a' U, s.WarmedH U.vm → (Cond.initialized y.cls).before a' U = true) :
    vx_Back l R p e below s sargs y len W9 (PreOf R mc ms Pc) (PostOf Qc mc ms free) (vx_Post XC mc ms free) := by
  intro m meth c A g ig mk a X hg hsize hdg hW hn hp
  have h1 : (headSpec ws rm).pre.before a A.U = true := atoms_intro fun w hw => hws w hw _ _ X.warmed
  have h2 : (Cond.codeWith y bytes maxL ret hh).before a A.U = true := hws _ hcode _ _ X.warmed
  have h3 : (Cond.initialized y.cls).before a A.U = true := hinit _ _ X.warmed
  have h4 : A.cells + (headSpec ws rm).room.cells ≤ R.cells := by rw [show (headSpec ws rm).room.cells = mc from hrc]; exact hp.1
  have h5 : A.slots + (headSpec ws rm).room.slots ≤ R.slots := by rw [show (headSpec ws rm).room.slots = ms from hrs]; exact hp.2.1
  have hPc : Pc a (A.U.calling g mk a) := hblind _ _ _ _ hp.2.2
  obtain ⟨U, Ls, c0, s0⟩ := A
  dsimp only [Pt.U, Pt.locs, Pt.cells, Pt.slots] at h1 h2 h3 h4 h5 X hn hPc ⊢
  obtain ⟨m9, methY, cY, hn9, hmY, hcY, -, hlY, -⟩ := Cond.codeWith_spec h2
  cases Option.some.inj (hn9.symm.trans hn)
  obtain ⟨kY, hkY, -⟩ := className_of_methodNamed hn
  have hinitY : kY.init = .initialized := Cond.initialized_spec (findClass_of_methodNamed hn) hkY h3
  have h : At U g.method c below := by rw [hg]; exact X.here
  have hlocals9 : W9 + (maxL + 11) + (headSpec ws rm).room.locals ≤ R.locals := hlocals
  have happ : (headSpec ws rm).appliesLoose y e.platform (U.calling g mk a) = true :=
    Spec.appliesLoose_calling (g := g) h hdg hn hkY hinitY
      (X.room_calling (g := g) (R' := (headSpec ws rm).room) hsize hmY hcY hframes (by rw [hlY]; omega) h4 h5) h1
  obtain ⟨mid, hmid⟩ := h.above
  have hfr : (U.setTop g).frames = (.java g :: mid) ++ below := by rw [State.frames_setTop' g h.top, hmid]; rfl
  obtain ⟨o, s₂, hsteps, -, hend, hq⟩ := Steps.callFree hM p X.admits X.cas X.clock (acts := []) hfr happ hPc trivial
  have hq' : vx_Q Qc XC mc ms free a (U.calling g mk a) o s₂ := hq
  rw [State.frames_setTop' g h.top] at hend
  obtain ⟨g₀, hg0⟩ := Option.isSome_iff_exists.mp h.top
  obtain ⟨r, hr⟩ := State.topJava?_eq_some.mp hg0
  have hr' : (({ U with heap := s₂.heap, slotsUsed := s₂.slotsUsed } : State).setVm s₂.vm).frames = .java g₀ :: r := hr
  rcases hq' with ⟨hqc, L, hfe, hL⟩ | ⟨q, rfl, E, ce, L, hx, hce, hcv, hcl, hW₂, hsm, hL⟩
  · obtain ⟨⟨v, rfl⟩, hW₂, e2, q2, q3, q4, q5, q6⟩ := id hfe
    have e3 : s₂ = ({ (U.calling g mk a).setFrames s₂.frames with heap := s₂.heap, slotsUsed := s₂.slotsUsed } : State).setVm s₂.vm := by
      have : s₂ = ({ s₂ with vm := (U.calling g mk a).vm } : State).setVm s₂.vm := rfl
      rw [e2] at this
      exact this
    obtain ⟨c₂, i₂, len₂, hc₂, hd₂, hf₂⟩ := hend
    have hW' : U.WarmedH s₂.vm := hW₂
    have hcc : c₂ = c := by
      have h1 : s₂.code? g.method = U.code? g.method := by
        rw [State.code?_eq, State.code?_eq, hW'.alike.method?]
      exact Option.some.inj (hc₂.symm.trans (h1.trans h.code))
    subst hcc
    have hlen : len₂ = len := by rw [hdg] at hd₂; cases hd₂; rfl
    subst hlen
    have hs₂ : s₂ = (({ U with heap := s₂.heap, slotsUsed := s₂.slotsUsed } : State).setVm s₂.vm).setTop { g with pc := g.pc + len₂, stack := v.toList ++ g.stack } := by
      refine e3.trans ?_
      rw [hf₂, State.calling_eq h.top, State.setFrames_setFrames, State.setTop_of_frames _ hr', hr]
      rfl
    have hsame : U.sameButNew ({ U with heap := s₂.heap, slotsUsed := s₂.slotsUsed } : State) L mc ms := by
      refine ⟨?_, q2, q3, q4, q5, q6⟩
      obtain ⟨t, ht, -⟩ := State.frames_cons hr
      show ({ U with heap := s₂.heap, slotsUsed := s₂.slotsUsed } : State) = { U.setFrames U.frames with heap := s₂.heap, slotsUsed := s₂.slotsUsed }
      rw [State.setFrames_self ht]
    subst hg
    refine Or.inl ⟨v, ⟨(({ U with heap := s₂.heap, slotsUsed := s₂.slotsUsed } : State).setVm s₂.vm), Ls ++ L, c0 + mc, s0 + ms⟩,
      ⟨X.admits, X.cas, X.clock, X.frames, X.room, X.hears, X.method, X.code, (X.here.setHeapUsed s₂.heap s₂.slotsUsed).setVm hW'.alike, X.tail, State.WarmedH.trans X.warmed hW', X.limits, X.bytes, X.same.trans (hsame.setVm s.vm)⟩,
      ⟨g, mk, s₂, L, rfl, rfl, hqc, rfl, hL, rfl, rfl⟩, ?_⟩
    show Steps p.tables e below _ ((({ U with heap := s₂.heap, slotsUsed := s₂.slotsUsed } : State).setVm s₂.vm).setTop { g with pc := g.pc + len₂, stack := v.toList ++ g.stack })
    rw [← hs₂]
    exact hsteps
  · obtain ⟨e2, q2, q3, q4, q5, q6⟩ := id hsm
    have e3 : s₂ = ({ (U.calling g mk a).setFrames s₂.frames with heap := s₂.heap, slotsUsed := s₂.slotsUsed } : State).setVm s₂.vm := by
      have : s₂ = ({ s₂ with vm := (U.calling g mk a).vm } : State).setVm s₂.vm := rfl
      rw [e2] at this
      exact this
    have hf₂ : s₂.frames = .throwing q :: .java g :: U.frames.tail := hend
    have hW' : U.WarmedH s₂.vm := hW₂
    have hs₂ : s₂ = ((({ U with heap := s₂.heap, slotsUsed := s₂.slotsUsed } : State).setVm s₂.vm).setTop g).pushFrame (.throwing q) := by
      refine e3.trans ?_
      rw [hf₂, State.calling_eq h.top, State.setFrames_setFrames, State.pushFrame, State.frames_setTop _ hr', State.setTop_of_frames _ hr', State.setFrames_setFrames, hr]
      rfl
    have hsame : U.sameButNew ({ U with heap := s₂.heap, slotsUsed := s₂.slotsUsed } : State) L mc ms := by
      refine ⟨?_, q2, q3, q4, q5, q6⟩
      obtain ⟨t, ht, -⟩ := State.frames_cons hr
      show ({ U with heap := s₂.heap, slotsUsed := s₂.slotsUsed } : State) = { U.setFrames U.frames with heap := s₂.heap, slotsUsed := s₂.slotsUsed }
      rw [State.setFrames_self ht]
    subst hg
    refine Or.inr ⟨q, ⟨(({ U with heap := s₂.heap, slotsUsed := s₂.slotsUsed } : State).setVm s₂.vm), Ls ++ L, c0 + mc, s0 + ms⟩,
      ⟨X.admits, X.cas, X.clock, X.frames, X.room, X.hears, X.method, X.code, (X.here.setHeapUsed s₂.heap s₂.slotsUsed).setVm hW'.alike, X.tail, State.WarmedH.trans X.warmed hW', X.limits, X.bytes, X.same.trans (hsame.setVm s.vm)⟩,
      ⟨g, mk, s₂, L, E, ce, rfl, rfl, hx, hce, hcv, hcl, rfl, hL, rfl, rfl⟩, ?_⟩
    show Steps p.tables e below _ (((({ U with heap := s₂.heap, slotsUsed := s₂.slotsUsed } : State).setVm s₂.vm).setTop g).pushFrame (.throwing q))
    rw [← hs₂]
    exact hsteps
end
variable {p : Program} {l : Launch} {e : Env} {R : Room} {s : State} {m : MethodId} {args : Array Value} {below : List Frame} {meth : Method} {c : Code} {T : State} {H : Heap} {locs : List Loc} {cells slots : Nat}
theorem vx_callVX (X : Stand p l e R s m args below meth c T locs cells slots) (hexec : p.tables.exec = Jvm.exec) {own C : String} {index : Nat} {y : MethodName} {bytes : ByteArray} {maxL : Nat} {ret : Option FieldType} {hh : List (Nat × Nat × Nat × Nat)}
    (hown : s.vm.findClass own = some m.cls) (hlink : (Cond.methodLink own index y).before args s = true) (hinst : (Cond.instanceMethod y).before args s = true) (hsel : (Cond.selects C y y).before args s = true)
    (hcode : (Cond.codeWith y bytes maxL ret hh).before args s = true) (hy : y.cls ≠ "java/lang/invoke/MethodHandle" ∧ y.cls ≠ "java/lang/invoke/VarHandle")
    {W9 : Nat} {Pre : Pt → Array Value → Prop} {Post : Pt → Array Value → Option Value → Pt → Prop} {PostX : Pt → Array Value → Addr → Pt → Prop} (hK : vx_Back l R p e below s args y 3 W9 Pre Post PostX)
    {b : Addr} {cellB : Cell} (hcell : T.heap[b]? = some cellB) (hobj : cellB.vm.isStatics = false) (hcls : s.vm.findClass C = some cellB.cls)
    {g : JFrame} (hg : g.method = m) (hsize : g.locals.size = c.maxLocals) {argsL rest : List Value} (hlen : ∀ sig, parseMethodDescriptor y.desc = some sig → argsL.length = sig.parameters.length)
    (hstack : g.stack = argsL.reverse ++ .ref b :: rest) (hW : 2 * g.monitorRoom + (rest.map fun v => v.category).sum ≤ W9) (hdg : decode c.code g.pc = .ok (.invokevirtual index, 3))
    (hpre : ∀ vm₁, s.WarmedH vm₁ → Pre ⟨T.setVm vm₁, locs, cells, slots⟩ (Value.ref b :: argsL).toArray) :
    (∃ (v : Option Value) (vm₁ : Vm) (B : Pt), s.WarmedH vm₁ ∧ Stand p l e R s m args below meth c B.U B.locs B.cells B.slots ∧ Post ⟨T.setVm vm₁, locs, cells, slots⟩ (Value.ref b :: argsL).toArray v B ∧
      ∀ target, Steps p.tables e below (B.U.setTop { g with pc := g.pc + 3, stack := v.toList ++ rest }) target → Steps p.tables e below (T.setTop g) target) ∨
    (∃ (q : Addr) (vm₁ : Vm) (B : Pt), s.WarmedH vm₁ ∧ Stand p l e R s m args below meth c B.U B.locs B.cells B.slots ∧ PostX ⟨T.setVm vm₁, locs, cells, slots⟩ (Value.ref b :: argsL).toArray q B ∧
      Steps p.tables e below (T.setTop g) ((B.U.setTop { g with stack := rest }).pushFrame (.throwing q))) := by
  obtain ⟨mk, methM, hnamed, hmethM, hstM, habM⟩ := Cond.instanceMethod_spec hinst
  obtain ⟨m8, methM', cM, hn8, hmethM', -, -, -, -, -, -, hsigM⟩ := Cond.codeWith_spec hcode
  cases Option.some.inj (hn8.symm.trans hnamed)
  cases hmethM.symm.trans hmethM'
  obtain ⟨c2, r2, m2, q1, q2, q3, q4, kP, hkP, hkPi⟩ := Cond.selects_spec hsel
  cases hcls.symm.trans q1
  cases (State.methodFound?_of_named hnamed hy).symm.trans q2
  cases hnamed.symm.trans q3
  have hselP : selectMethod e.platform s.vm cellB.cls mk = .method mk := by rw [Launch.admits_selectMethod X.admits]; exact q4
  obtain ⟨vm₁, X₁, hstep₁⟩ := X.invokevirtual hexec hown hlink hnamed hmethM hstM hkP hkPi hy (a := b) (cell := cellB) hcell
    (fun z h => by rw [h] at hobj; cases hobj) hselP hmethM habM hkP hkPi (g := g) hg (argsL := argsL) (rest := rest) (hlen _ hsigM) hstack hdg
  rcases hK m meth c ⟨T.setVm vm₁, locs, cells, slots⟩ { g with stack := rest } (.invokevirtual index) mk (Value.ref b :: argsL).toArray X₁ hg hsize hdg hW (X₁.named hnamed) (hpre vm₁ X₁.warmed) with ⟨v, B, X', hpost, hsteps⟩ | ⟨q, B, X', hpost, hsteps⟩
  · exact Or.inl ⟨v, vm₁, B, X₁.warmed, X', hpost, fun target h => hstep₁ _ fun acts => by rw [doInvoke_state]; exact hsteps.trans h⟩
  · exact Or.inr ⟨q, vm₁, B, X₁.warmed, X', hpost, hstep₁ _ fun acts => by rw [doInvoke_state]; exact hsteps⟩
theorem vx_callSX (X : Stand p l e R s m args below meth c T locs cells slots) (hexec : p.tables.exec = Jvm.exec) {own : String} {index : Nat} {y : MethodName} {bytes : ByteArray} {maxL : Nat} {ret : Option FieldType} {hh : List (Nat × Nat × Nat × Nat)}
    (hown : s.vm.findClass own = some m.cls) (hlink : (Cond.methodLink own index y).before args s = true) (hstat : (Cond.static y).before args s = true) (hinit : (Cond.initialized y.cls).before args s = true)
    (hcode : (Cond.codeWith y bytes maxL ret hh).before args s = true) (hy : y.cls ≠ "java/lang/invoke/MethodHandle" ∧ y.cls ≠ "java/lang/invoke/VarHandle")
    {W9 : Nat} {Pre : Pt → Array Value → Prop} {Post : Pt → Array Value → Option Value → Pt → Prop} {PostX : Pt → Array Value → Addr → Pt → Prop} (hK : vx_Back l R p e below s args y 3 W9 Pre Post PostX)
    {g : JFrame} (hg : g.method = m) (hsize : g.locals.size = c.maxLocals) {argsL rest : List Value} (hlen : ∀ sig, parseMethodDescriptor y.desc = some sig → argsL.length = sig.parameters.length)
    (hstack : g.stack = argsL.reverse ++ rest) (hW : 2 * g.monitorRoom + (rest.map fun v => v.category).sum ≤ W9) (hdg : decode c.code g.pc = .ok (.invokestatic index, 3))
    (hpre : ∀ vm₁, s.WarmedH vm₁ → Pre ⟨T.setVm vm₁, locs, cells, slots⟩ argsL.toArray) :
    (∃ (v : Option Value) (vm₁ : Vm) (B : Pt), s.WarmedH vm₁ ∧ Stand p l e R s m args below meth c B.U B.locs B.cells B.slots ∧ Post ⟨T.setVm vm₁, locs, cells, slots⟩ argsL.toArray v B ∧
      ∀ target, Steps p.tables e below (B.U.setTop { g with pc := g.pc + 3, stack := v.toList ++ rest }) target → Steps p.tables e below (T.setTop g) target) ∨
    (∃ (q : Addr) (vm₁ : Vm) (B : Pt), s.WarmedH vm₁ ∧ Stand p l e R s m args below meth c B.U B.locs B.cells B.slots ∧ PostX ⟨T.setVm vm₁, locs, cells, slots⟩ argsL.toArray q B ∧
      Steps p.tables e below (T.setTop g) ((B.U.setTop { g with stack := rest }).pushFrame (.throwing q))) := by
  obtain ⟨mk, methM, cM, hnamed, hmethM, -, -, -, -, -, -, hsigM⟩ := Cond.codeWith_spec hcode
  have hstatic : methM.isStatic = true := Cond.static_spec hnamed hmethM hstat
  obtain ⟨kP, hkP, -⟩ := className_of_methodNamed hnamed
  have hinitP : kP.init = .initialized := Cond.initialized_spec (findClass_of_methodNamed hnamed) hkP hinit
  obtain ⟨vm₁, X₁, hstep₁⟩ := X.invokestatic hexec hown hlink hnamed hmethM hstatic hkP hinitP hy (g := g) hg (argsL := argsL) (rest := rest) (hlen _ hsigM) hstack hdg
  rcases hK m meth c ⟨T.setVm vm₁, locs, cells, slots⟩ { g with stack := rest } (.invokestatic index) mk argsL.toArray X₁ hg hsize hdg hW (X₁.named hnamed) (hpre vm₁ X₁.warmed) with ⟨v, B, X', hpost, hsteps⟩ | ⟨q, B, X', hpost, hsteps⟩
  · exact Or.inl ⟨v, vm₁, B, X₁.warmed, X', hpost, fun target h => hstep₁ _ fun acts => by rw [doInvoke_state]; exact hsteps.trans h⟩
  · exact Or.inr ⟨q, vm₁, B, X₁.warmed, X', hpost, hstep₁ _ fun acts => by rw [doInvoke_state]; exact hsteps⟩
theorem vx_callVW (X : Stand p l e R s m args below meth c T locs cells slots) (hexec : p.tables.exec = Jvm.exec) {own C : String} {index : Nat} {y : MethodName} {bytes : ByteArray} {maxL : Nat} {ret : Option FieldType} {hh : List (Nat × Nat × Nat × Nat)}
    (hown : s.vm.findClass own = some m.cls) (hlink : (Cond.methodLink own index y).before args s = true) (hinst : (Cond.instanceMethod y).before args s = true) (hsel : (Cond.selects C y y).before args s = true)
    (hcode : (Cond.codeWith y bytes maxL ret hh).before args s = true) (hy : y.cls ≠ "java/lang/invoke/MethodHandle" ∧ y.cls ≠ "java/lang/invoke/VarHandle")
    {W9 : Nat} {Pre : Pt → Array Value → Prop} {Post : Pt → Array Value → Option Value → Pt → Prop} (hK : Back l R p e below s args y 3 W9 Pre Post)
    {b : Addr} {cellB : Cell} (hcell : T.heap[b]? = some cellB) (hobj : cellB.vm.isStatics = false) (hcls : s.vm.findClass C = some cellB.cls)
    {g : JFrame} (hg : g.method = m) (hsize : g.locals.size = c.maxLocals) {argsL rest : List Value} (hlen : ∀ sig, parseMethodDescriptor y.desc = some sig → argsL.length = sig.parameters.length)
    (hstack : g.stack = argsL.reverse ++ .ref b :: rest) (hW : 2 * g.monitorRoom + (rest.map fun v => v.category).sum ≤ W9) (hdg : decode c.code g.pc = .ok (.invokevirtual index, 3))
    (hpre : ∀ vm₁, s.WarmedH vm₁ → Pre ⟨T.setVm vm₁, locs, cells, slots⟩ (Value.ref b :: argsL).toArray) :
    ∃ (v : Option Value) (vm₁ : Vm) (B : Pt), s.WarmedH vm₁ ∧ Stand p l e R s m args below meth c B.U B.locs B.cells B.slots ∧ Post ⟨T.setVm vm₁, locs, cells, slots⟩ (Value.ref b :: argsL).toArray v B ∧
      ∀ target, Steps p.tables e below (B.U.setTop { g with pc := g.pc + 3, stack := v.toList ++ rest }) target → Steps p.tables e below (T.setTop g) target := by
  obtain ⟨mk, methM, hnamed, hmethM, hstM, habM⟩ := Cond.instanceMethod_spec hinst
  obtain ⟨m8, methM', cM, hn8, hmethM', -, -, -, -, -, -, hsigM⟩ := Cond.codeWith_spec hcode
  cases Option.some.inj (hn8.symm.trans hnamed)
  cases hmethM.symm.trans hmethM'
  obtain ⟨c2, r2, m2, q1, q2, q3, q4, kP, hkP, hkPi⟩ := Cond.selects_spec hsel
  cases hcls.symm.trans q1
  cases (State.methodFound?_of_named hnamed hy).symm.trans q2
  cases hnamed.symm.trans q3
  have hselP : selectMethod e.platform s.vm cellB.cls mk = .method mk := by rw [Launch.admits_selectMethod X.admits]; exact q4
  obtain ⟨vm₁, X₁, hstep₁⟩ := X.invokevirtual hexec hown hlink hnamed hmethM hstM hkP hkPi hy (a := b) (cell := cellB) hcell
    (fun z h => by rw [h] at hobj; cases hobj) hselP hmethM habM hkP hkPi (g := g) hg (argsL := argsL) (rest := rest) (hlen _ hsigM) hstack hdg
  obtain ⟨v, B, X', hpost, hsteps⟩ := hK m meth c ⟨T.setVm vm₁, locs, cells, slots⟩ { g with stack := rest } (.invokevirtual index) mk (Value.ref b :: argsL).toArray X₁ hg hsize hdg hW (X₁.named hnamed) (hpre vm₁ X₁.warmed)
  exact ⟨v, vm₁, B, X₁.warmed, X', hpost, fun target h => hstep₁ _ fun acts => by rw [doInvoke_state]; exact hsteps.trans h⟩
abbrev vx_CVW (R : Room) (s : State) (args : Array Value) (own C : String) (index : Nat) (y : MethodName) (bytes : ByteArray) (maxL : Nat) (ret : Option FieldType) (hh : List (Nat × Nat × Nat × Nat)) (ws : List Cond) (rm : Room) (mc ms n : Nat) : Prop :=
  (rm.cells = mc ∧ rm.slots = ms ∧ rm.frames + 1 ≤ R.frames ∧ 8 + (maxL + 11) + rm.locals ≤ R.locals ∧ (∀ w ∈ ws, ∀ (a' : Array Value) (U : State), s.WarmedH U.vm → w.before a' U = true) ∧ Cond.codeWith y bytes maxL ret hh ∈ ws) ∧
  (Cond.codeWith y bytes maxL ret hh).before args s = true ∧ (Cond.initialized y.cls).before args s = true ∧ (y.cls ≠ "java/lang/invoke/MethodHandle" ∧ y.cls ≠ "java/lang/invoke/VarHandle") ∧
  (∀ sig, parseMethodDescriptor y.desc = some sig → n = sig.parameters.length) ∧ (Cond.methodLink own index y).before args s = true ∧ (Cond.instanceMethod y).before args s = true ∧ (Cond.selects C y y).before args s = true
theorem vx_cwVW {own C : String} {index maxL mc ms : Nat} {y : MethodName} {bytes : ByteArray} {ret : Option FieldType} {hh : List (Nat × Nat × Nat × Nat)} {Ts ws ws' : List Cond} {rm : Room} (n : Nat) (ht : ∀ w ∈ Ts, w.before args s = true) (hT : GoodIn Ts (wsV own index C y ws)) (hw : ws = Cond.codeWith y bytes maxL ret hh :: ws') (hrc : rm.cells = mc) (hrs : rm.slots = ms)
    (hd : y.cls = C ∧ y.cls ≠ "java/lang/invoke/MethodHandle" ∧ y.cls ≠ "java/lang/invoke/VarHandle" ∧ (parseMethodDescriptor y.desc).map (fun d => d.parameters.length) = some n) (hR : rm.frames + 1 ≤ R.frames ∧ 8 + (maxL + 11) + rm.locals ≤ R.locals) :
    vx_CVW R s args own C index y bytes maxL ret hh ws rm mc ms n := by
  obtain ⟨hC, hd⟩ := hd
  subst hC
  have ok : ∀ w ∈ wsV own index y.cls y ws, w.before args s = true := fun w h => ht w (hT w h).1
  have hG : GoodIn Ts ws := fun w h => hT w (by unfold wsV; exact List.mem_append_right _ h)
  have hc : Cond.codeWith y bytes maxL ret hh ∈ ws := by rw [hw]; exact List.mem_cons_self
  refine ⟨⟨hrc, hrs, hR.1, hR.2, pay_in ht hG, hc⟩, ht _ (hG _ hc).1, ok _ (by simp [wsV]), ⟨hd.1, hd.2.1⟩, fun sig h => ?_, ok _ (by simp [wsV]), ok _ (by simp [wsV]), ok _ (by simp [wsV])⟩
  have h2 := hd.2.2
  rw [h] at h2
  exact (Option.some.inj h2).symm
theorem vx_runVW {y : MethodName} {bytes cc : ByteArray} {maxL nL mc ms n index : Nat} {ret : Option FieldType} {hh : List (Nat × Nat × Nat × Nat)} {ws : List Cond} {rm : Room} {Pc : Array Value → State → Prop} {Qc : Array Value → State → Outcome → State → Prop} {free : Addr → Prop} {Ts : List Cond} {own C : String} {b : Addr} {As rest : List Value} {g : JFrame}
    (S : CallFix p m c cc nL s args Ts own) (hM : Met l y ws rm Pc Qc mc ms free) (cw : vx_CVW R s args own C index y bytes maxL ret hh ws rm mc ms n) (hp : PreV s H C b Pc As)
    (hg : g.method = m) (hn : As.length = n) (hsize : g.locals.size = nL) (hstack : g.stack = As.reverse ++ .ref b :: rest) (hW : 2 * g.monitorRoom + (rest.map fun v => v.category).sum ≤ 8) (hdg : decode cc g.pc = .ok (.invokevirtual index, 3)) (hf : cells + mc ≤ R.cells ∧ slots + ms ≤ R.slots) :
    va_Run p l e R s m args below meth c H locs cells slots mc ms g rest (Qc (Value.ref b :: As).toArray) free := by
  obtain ⟨⟨hrc, hrs, hfr, hlo, hws, hcw⟩, hcode, hini, hy, hlen, hl, hin, hse⟩ := cw
  have hK : Back l R p e below s args y 3 8 (PreOf R mc ms Pc) (PostOf Qc mc ms free) := va_backW (hh := hh) (bytes := bytes) (maxL := maxL) (ret := ret) hM hp.1 hrc hrs hfr hlo hws hcw (fun a' U hW => word_at hW (Or.inl (by first | rfl | simp [Cond.onTables, Cond.keeps, Cond.steady])) hini)
  obtain ⟨hx, hb, hml, ho, -⟩ := S
  obtain ⟨-, ⟨cellB, hcB, hoB, hclB⟩, hPc⟩ := hp
  intro T hT X
  obtain ⟨v, vm₁, ⟨U', l2, c2, s2⟩, hW₁, X', ⟨g', mk, t, L, e1, e2, hq, h1, hL, h2, h3⟩, st⟩ := vx_callVW X hx (C := C) (hh := hh) (bytes := bytes) (maxL := maxL) (ret := ret) ho hl hin hse hcode hy hK (by rw [hT]; exact hcB) hoB hclB hg (hsize.trans hml.symm) (argsL := As) (rest := rest) (fun sig h => hn.trans (hlen sig h)) hstack hW (by rw [hb]; exact hdg)
    (fun vm₁ hW₁ => ⟨hf.1, hf.2, hPc (T.setVm vm₁) hT hW₁⟩)
  dsimp only [Pt.U, Pt.locs, Pt.cells, Pt.slots] at X' e1 e2 h1 h2 h3 st
  subst h1; subst h2; subst h3
  exact ⟨v, (T.setVm vm₁).calling g' mk (Value.ref b :: As).toArray, t, U', L, hT, X', hL, e1, e2, hq, st⟩
section
variable {y : MethodName} {bytes cc : ByteArray} {maxL nL mc ms n index : Nat} {ret : Option FieldType} {ws : List Cond} {rm : Room} {Pc : Array Value → State → Prop} {Qc : Array Value → State → Outcome → State → Prop} {XC : String → State → State → Prop} {free : Addr → Prop} {Ts : List Cond} {own C : String} {b : Addr} {As rest : List Value} {g : JFrame}
theorem vx_runVX {hh : List (Nat × Nat × Nat × Nat)} (S : CallFix p m c cc nL s args Ts own) (hM : vx_Met l y ws rm Pc Qc XC mc ms free) (cw : vx_CVW R s args own C index y bytes maxL ret hh ws rm mc ms n) (hp : PreV s H C b Pc As)
    (hg : g.method = m) (hn : As.length = n) (hsize : g.locals.size = nL) (hstack : g.stack = As.reverse ++ .ref b :: rest) (hW : 2 * g.monitorRoom + (rest.map fun v => v.category).sum ≤ 8) (hdg : decode cc g.pc = .ok (.invokevirtual index, 3)) (hf : cells + mc ≤ R.cells ∧ slots + ms ≤ R.slots) :
    vx_Run p l e R s m args below meth c H locs cells slots mc ms g rest (Qc (Value.ref b :: As).toArray) XC free := by
  obtain ⟨⟨hrc, hrs, hfr, hlo, hws, hcw⟩, hcode, hini, hy, hlen, hl, hin, hse⟩ := cw
  have hK : vx_Back l R p e below s args y 3 8 (PreOf R mc ms Pc) (PostOf Qc mc ms free) (vx_Post XC mc ms free) := vx_backW (hh := hh) (bytes := bytes) (maxL := maxL) (ret := ret) hM hp.1 hrc hrs hfr hlo hws hcw (fun a' U hW => word_at hW (Or.inl (by first | rfl | simp [Cond.onTables, Cond.keeps, Cond.steady])) hini)
  obtain ⟨hx, hb, hml, ho, -⟩ := S
  obtain ⟨-, ⟨cellB, hcB, hoB, hclB⟩, hPc⟩ := hp
  intro T hT X
  rcases vx_callVX X hx (C := C) (hh := hh) (bytes := bytes) (maxL := maxL) (ret := ret) ho hl hin hse hcode hy hK (by rw [hT]; exact hcB) hoB hclB hg (hsize.trans hml.symm) (argsL := As) (rest := rest) (fun sig h => hn.trans (hlen sig h)) hstack hW (by rw [hb]; exact hdg)
    (fun vm₁ hW₁ => ⟨hf.1, hf.2, hPc (T.setVm vm₁) hT hW₁⟩) with ⟨v, vm₁, ⟨U', l2, c2, s2⟩, hW₁, X', ⟨g', mk, t, L, e1, e2, hq, h1, hL, h2, h3⟩, st⟩ | ⟨q, vm₁, ⟨U', l2, c2, s2⟩, hW₁, X', ⟨g', mk, t, L, E, ce, e1, e2, hq, hce, hcv, hcl, h1, hL, h2, h3⟩, st⟩
  · dsimp only [Pt.U, Pt.locs, Pt.cells, Pt.slots] at X' e1 e2 h1 h2 h3 st
    subst h1; subst h2; subst h3
    exact Or.inl ⟨v, (T.setVm vm₁).calling g' mk (Value.ref b :: As).toArray, t, U', L, hT, X', hL, e1, e2, hq, st⟩
  · dsimp only [Pt.U, Pt.locs, Pt.cells, Pt.slots] at X' e1 e2 h1 h2 h3 st hcl
    subst h1; subst h2; subst h3
    exact Or.inr ⟨q, (T.setVm vm₁).calling g' mk (Value.ref b :: As).toArray, t, U', L, E, ce, hT, X', hL, e1, e2, hq, hce, hcv, vx_cls hW₁ hcl, st⟩
theorem vx_runSX {hh : List (Nat × Nat × Nat × Nat)} (S : CallFix p m c cc nL s args Ts own) (hM : vx_Met l y ws rm Pc Qc XC mc ms free) (cw : vx_CSW R s args own index y bytes maxL ret hh ws rm mc ms n) (hp : PreS s H Pc As)
    (hg : g.method = m) (hn : As.length = n) (hsize : g.locals.size = nL) (hstack : g.stack = As.reverse ++ rest) (hW : 2 * g.monitorRoom + (rest.map fun v => v.category).sum ≤ 8) (hdg : decode cc g.pc = .ok (.invokestatic index, 3)) (hf : cells + mc ≤ R.cells ∧ slots + ms ≤ R.slots) :
    vx_Run p l e R s m args below meth c H locs cells slots mc ms g rest (Qc As.toArray) XC free := by
  obtain ⟨⟨hrc, hrs, hfr, hlo, hws, hcw⟩, hcode, hini, hy, hlen, hl, hstt⟩ := cw
  have hK : vx_Back l R p e below s args y 3 8 (PreOf R mc ms Pc) (PostOf Qc mc ms free) (vx_Post XC mc ms free) := vx_backW (hh := hh) (bytes := bytes) (maxL := maxL) (ret := ret) hM hp.1 hrc hrs hfr hlo hws hcw (fun a' U hW => word_at hW (Or.inl (by first | rfl | simp [Cond.onTables, Cond.keeps, Cond.steady])) hini)
  obtain ⟨hx, hb, hml, ho, -⟩ := S
  intro T hT X
  rcases vx_callSX X hx (hh := hh) (bytes := bytes) (maxL := maxL) (ret := ret) ho hl hstt hini hcode hy hK hg (hsize.trans hml.symm) (argsL := As) (rest := rest) (fun sig h => hn.trans (hlen sig h)) hstack hW (by rw [hb]; exact hdg)
    (fun vm₁ hW₁ => ⟨hf.1, hf.2, hp.2 (T.setVm vm₁) hT hW₁⟩) with ⟨v, vm₁, ⟨U', l2, c2, s2⟩, hW₁, X', ⟨g', mk, t, L, e1, e2, hq, h1, hL, h2, h3⟩, st⟩ | ⟨q, vm₁, ⟨U', l2, c2, s2⟩, hW₁, X', ⟨g', mk, t, L, E, ce, e1, e2, hq, hce, hcv, hcl, h1, hL, h2, h3⟩, st⟩
  · dsimp only [Pt.U, Pt.locs, Pt.cells, Pt.slots] at X' e1 e2 h1 h2 h3 st
    subst h1; subst h2; subst h3
    exact Or.inl ⟨v, (T.setVm vm₁).calling g' mk As.toArray, t, U', L, hT, X', hL, e1, e2, hq, st⟩
  · dsimp only [Pt.U, Pt.locs, Pt.cells, Pt.slots] at X' e1 e2 h1 h2 h3 st hcl
    subst h1; subst h2; subst h3
    exact Or.inr ⟨q, (T.setVm vm₁).calling g' mk As.toArray, t, U', L, E, ce, hT, X', hL, e1, e2, hq, hce, hcv, vx_cls hW₁ hcl, st⟩
end
end VXH
theorem vx_ofWH {l : Launch} {y : MethodName} {ws ws' : List Cond} {rm : Room} {Pc : Array Value → State → Prop} {Qc : Array Value → State → Outcome → State → Prop} {XC : String → State → State → Prop} {mc ms : Nat} {free : Addr → Prop} {cc : ByteArray} {maxL : Nat} {ret : Option FieldType} {hh : List (Nat × Nat × Nat × Nat)}
    (hy : plainName y.cls = true) (hw : ws = Cond.codeWith y cc maxL ret hh :: ws')
    (body : ∀ p e s m args below meth c s₁, BodyLoose p l y (headSpec ws rm) cc maxL ret e s m args below meth c s₁ → c.maxLocals = maxL → Pc args s →
      W p l e (headSpec ws rm).room s m args below meth c s.heap [] 0 0 (vx_MQ below Qc XC args s mc ms free) (entryFrame m args maxL)) : vx_Met l y ws rm Pc Qc XC mc ms free := by
  refine MetFree.of_bodyS (code := cc) (maxLocals := maxL) (ret := ret) hy ?_ ?_
  · intro args s m h hn
    obtain ⟨m9, meth, c, hn9, h1, h2, h3, h4, -, h5, h6, -⟩ := Cond.codeWith_spec (atoms_spec (ws := ws) h _ (by rw [hw]; exact List.mem_cons_self))
    cases hn.symm.trans hn9
    exact ⟨meth, c, h1, h2, h3, h4, h5, h6⟩
  · intro p e s m args below meth c s₁ B hml hP _
    have hh0 : s₁.heap = s.heap := by rw [B.state]; rfl
    obtain ⟨t, a1, o, b1, b2, b3⟩ := body p e s m args below meth c s₁ B hml hP s₁ hh0 (Stand.of_body B)
    exact ⟨t, o, a1, b1, b2, b3⟩
/-! ===== END ===== -/
end
section
section PA
-- ===== PART A: goes FIRST, ahead of the names: the tables' words, and 'selects' of the private methods out of them =====
/-- a private method of a class that the tables say can be made, by its rows of tables_1 -/
def lw_okq (q : MethodName × Nat) : Prop := (q.1.cls ≠ "java/lang/invoke/MethodHandle" ∧ q.1.cls ≠ "java/lang/invoke/VarHandle") ∧ Cond.instantiable q.1.cls q.2 ∈ tables_1 ∧ Cond.privateMethod q.1 ∈ tables_1 ∧ Cond.instanceMethod q.1 ∈ tables_1
theorem lw_p0 : lw_okq (⟨"ColourParts", "countPieces", "()I"⟩, 6) := ⟨⟨by decide +kernel, by decide +kernel⟩, List.mem_of_getElem? (i := 26) (by decide +kernel), List.mem_of_getElem? (i := 122) (by decide +kernel), List.mem_of_getElem? (i := 123) (by decide +kernel)⟩
theorem lw_p1 : lw_okq (⟨"java/lang/Throwable", "fillInStackTrace", "(I)Ljava/lang/Throwable;"⟩, 6) := ⟨⟨by decide +kernel, by decide +kernel⟩, List.mem_of_getElem? (i := 179) (by decide +kernel), List.mem_of_getElem? (i := 177) (by decide +kernel), List.mem_of_getElem? (i := 178) (by decide +kernel)⟩
theorem lw_p2 : lw_okq (⟨"java/util/ArrayList", "add", "(Ljava/lang/Object;[Ljava/lang/Object;I)V"⟩, 3) := ⟨⟨by decide +kernel, by decide +kernel⟩, List.mem_of_getElem? (i := 34) (by decide +kernel), List.mem_of_getElem? (i := 254) (by decide +kernel), List.mem_of_getElem? (i := 255) (by decide +kernel)⟩
theorem lw_p3 : lw_okq (⟨"java/util/ArrayList", "grow", "()[Ljava/lang/Object;"⟩, 3) := ⟨⟨by decide +kernel, by decide +kernel⟩, List.mem_of_getElem? (i := 34) (by decide +kernel), List.mem_of_getElem? (i := 258) (by decide +kernel), List.mem_of_getElem? (i := 259) (by decide +kernel)⟩
theorem lw_p4 : lw_okq (⟨"java/util/ArrayList", "grow", "(I)[Ljava/lang/Object;"⟩, 3) := ⟨⟨by decide +kernel, by decide +kernel⟩, List.mem_of_getElem? (i := 34) (by decide +kernel), List.mem_of_getElem? (i := 262) (by decide +kernel), List.mem_of_getElem? (i := 263) (by decide +kernel)⟩
theorem lw_p5 : lw_okq (⟨"ColourParts", "needShape", "(I)V"⟩, 6) := ⟨⟨by decide +kernel, by decide +kernel⟩, List.mem_of_getElem? (i := 26) (by decide +kernel), List.mem_of_getElem? (i := 318) (by decide +kernel), List.mem_of_getElem? (i := 319) (by decide +kernel)⟩
theorem lw_p6 : lw_okq (⟨"ColourParts", "findNearOnes", "(I)V"⟩, 6) := ⟨⟨by decide +kernel, by decide +kernel⟩, List.mem_of_getElem? (i := 26) (by decide +kernel), List.mem_of_getElem? (i := 390) (by decide +kernel), List.mem_of_getElem? (i := 391) (by decide +kernel)⟩
theorem lw_p7 : lw_okq (⟨"ColourParts$Box", "isNearBox", "(LColourParts$Box;J)Z"⟩, 4) := ⟨⟨by decide +kernel, by decide +kernel⟩, List.mem_of_getElem? (i := 364) (by decide +kernel), List.mem_of_getElem? (i := 406) (by decide +kernel), List.mem_of_getElem? (i := 407) (by decide +kernel)⟩
theorem lw_p8 : lw_okq (⟨"ColourParts", "needNoneOpen", "()V"⟩, 6) := ⟨⟨by decide +kernel, by decide +kernel⟩, List.mem_of_getElem? (i := 26) (by decide +kernel), List.mem_of_getElem? (i := 421) (by decide +kernel), List.mem_of_getElem? (i := 422) (by decide +kernel)⟩
theorem lw_p9 : lw_okq (⟨"ColourParts", "cutShapes", "()LColourParts$Pieces;"⟩, 6) := ⟨⟨by decide +kernel, by decide +kernel⟩, List.mem_of_getElem? (i := 26) (by decide +kernel), List.mem_of_getElem? (i := 445) (by decide +kernel), List.mem_of_getElem? (i := 446) (by decide +kernel)⟩
theorem lw_p10 : lw_okq (⟨"ColourParts$Shape", "cutBox", "(LColourParts$Box;I)LColourParts$Box;"⟩, 9) := ⟨⟨by decide +kernel, by decide +kernel⟩, List.mem_of_getElem? (i := 208) (by decide +kernel), List.mem_of_getElem? (i := 466) (by decide +kernel), List.mem_of_getElem? (i := 467) (by decide +kernel)⟩
theorem lw_p11 : lw_okq (⟨"ColourParts$Search", "goOn", "(III)V"⟩, 9) := ⟨⟨by decide +kernel, by decide +kernel⟩, List.mem_of_getElem? (i := 511) (by decide +kernel), List.mem_of_getElem? (i := 574) (by decide +kernel), List.mem_of_getElem? (i := 575) (by decide +kernel)⟩
theorem lw_p12 : lw_okq (⟨"ColourParts$Search", "isDeadEnd", "(I)Z"⟩, 9) := ⟨⟨by decide +kernel, by decide +kernel⟩, List.mem_of_getElem? (i := 511) (by decide +kernel), List.mem_of_getElem? (i := 578) (by decide +kernel), List.mem_of_getElem? (i := 579) (by decide +kernel)⟩
theorem lw_p13 : lw_okq (⟨"ColourParts$Search", "canHave", "(II)Z"⟩, 9) := ⟨⟨by decide +kernel, by decide +kernel⟩, List.mem_of_getElem? (i := 511) (by decide +kernel), List.mem_of_getElem? (i := 582) (by decide +kernel), List.mem_of_getElem? (i := 583) (by decide +kernel)⟩
theorem lw_p14 : lw_okq (⟨"ColourParts$Search", "tryColour", "(IIII)V"⟩, 9) := ⟨⟨by decide +kernel, by decide +kernel⟩, List.mem_of_getElem? (i := 511) (by decide +kernel), List.mem_of_getElem? (i := 587) (by decide +kernel), List.mem_of_getElem? (i := 588) (by decide +kernel)⟩
theorem lw_p15 : lw_okq (⟨"ColourParts$Colouring", "weigh", "(IJ)V"⟩, 6) := ⟨⟨by decide +kernel, by decide +kernel⟩, List.mem_of_getElem? (i := 595) (by decide +kernel), List.mem_of_getElem? (i := 614) (by decide +kernel), List.mem_of_getElem? (i := 615) (by decide +kernel)⟩
def lw_privs_1 : List (MethodName × Nat) := [(⟨"ColourParts", "countPieces", "()I"⟩, 6), (⟨"java/lang/Throwable", "fillInStackTrace", "(I)Ljava/lang/Throwable;"⟩, 6), (⟨"java/util/ArrayList", "add", "(Ljava/lang/Object;[Ljava/lang/Object;I)V"⟩, 3), (⟨"java/util/ArrayList", "grow", "()[Ljava/lang/Object;"⟩, 3), (⟨"java/util/ArrayList", "grow", "(I)[Ljava/lang/Object;"⟩, 3), (⟨"ColourParts", "needShape", "(I)V"⟩, 6), (⟨"ColourParts", "findNearOnes", "(I)V"⟩, 6), (⟨"ColourParts$Box", "isNearBox", "(LColourParts$Box;J)Z"⟩, 4), (⟨"ColourParts", "needNoneOpen", "()V"⟩, 6), (⟨"ColourParts", "cutShapes", "()LColourParts$Pieces;"⟩, 6), (⟨"ColourParts$Shape", "cutBox", "(LColourParts$Box;I)LColourParts$Box;"⟩, 9), (⟨"ColourParts$Search", "goOn", "(III)V"⟩, 9), (⟨"ColourParts$Search", "isDeadEnd", "(I)Z"⟩, 9), (⟨"ColourParts$Search", "canHave", "(II)Z"⟩, 9), (⟨"ColourParts$Search", "tryColour", "(IIII)V"⟩, 9), (⟨"ColourParts$Colouring", "weigh", "(IJ)V"⟩, 6)]
theorem lw_r1 : ∀ q ∈ lw_privs_1, lw_okq q := List.forall_mem_cons.mpr ⟨lw_p0, List.forall_mem_cons.mpr ⟨lw_p1, List.forall_mem_cons.mpr ⟨lw_p2, List.forall_mem_cons.mpr ⟨lw_p3, List.forall_mem_cons.mpr ⟨lw_p4, List.forall_mem_cons.mpr ⟨lw_p5, List.forall_mem_cons.mpr ⟨lw_p6, List.forall_mem_cons.mpr ⟨lw_p7, List.forall_mem_cons.mpr ⟨lw_p8, List.forall_mem_cons.mpr ⟨lw_p9, List.forall_mem_cons.mpr ⟨lw_p10, List.forall_mem_cons.mpr ⟨lw_p11, List.forall_mem_cons.mpr ⟨lw_p12, List.forall_mem_cons.mpr ⟨lw_p13, List.forall_mem_cons.mpr ⟨lw_p14, List.forall_mem_cons.mpr ⟨lw_p15, fun _ h => absurd h List.not_mem_nil⟩⟩⟩⟩⟩⟩⟩⟩⟩⟩⟩⟩⟩⟩⟩⟩
theorem lw_p16 : lw_okq (⟨"ColourParts$Colouring", "noteStitch", "(IZ)V"⟩, 6) := ⟨⟨by decide +kernel, by decide +kernel⟩, List.mem_of_getElem? (i := 595) (by decide +kernel), List.mem_of_getElem? (i := 620) (by decide +kernel), List.mem_of_getElem? (i := 621) (by decide +kernel)⟩
theorem lw_p17 : lw_okq (⟨"ColourParts$Colouring", "noteFirst", "(II)V"⟩, 6) := ⟨⟨by decide +kernel, by decide +kernel⟩, List.mem_of_getElem? (i := 595) (by decide +kernel), List.mem_of_getElem? (i := 624) (by decide +kernel), List.mem_of_getElem? (i := 625) (by decide +kernel)⟩
theorem lw_p18 : lw_okq (⟨"ColourParts$Pieces", "fillWalks", "(II[I)V"⟩, 1) := ⟨⟨by decide +kernel, by decide +kernel⟩, List.mem_of_getElem? (i := 449) (by decide +kernel), List.mem_of_getElem? (i := 657) (by decide +kernel), List.mem_of_getElem? (i := 658) (by decide +kernel)⟩
theorem lw_p19 : lw_okq (⟨"ColourParts$Pieces", "nearAnyOf", "(I)I"⟩, 1) := ⟨⟨by decide +kernel, by decide +kernel⟩, List.mem_of_getElem? (i := 449) (by decide +kernel), List.mem_of_getElem? (i := 661) (by decide +kernel), List.mem_of_getElem? (i := 662) (by decide +kernel)⟩
theorem lw_p20 : lw_okq (⟨"ColourParts$Pieces", "writeLeastRing", "(II[I[I)V"⟩, 1) := ⟨⟨by decide +kernel, by decide +kernel⟩, List.mem_of_getElem? (i := 449) (by decide +kernel), List.mem_of_getElem? (i := 666) (by decide +kernel), List.mem_of_getElem? (i := 667) (by decide +kernel)⟩
theorem lw_p21 : lw_okq (⟨"ColourPartsModel", "allPieces", "()I"⟩, 27) := ⟨⟨by decide +kernel, by decide +kernel⟩, List.mem_of_getElem? (i := 751) (by decide +kernel), List.mem_of_getElem? (i := 848) (by decide +kernel), List.mem_of_getElem? (i := 849) (by decide +kernel)⟩
theorem lw_p22 : lw_okq (⟨"ColourPartsModel", "isShape", "(I)Z"⟩, 27) := ⟨⟨by decide +kernel, by decide +kernel⟩, List.mem_of_getElem? (i := 751) (by decide +kernel), List.mem_of_getElem? (i := 856) (by decide +kernel), List.mem_of_getElem? (i := 857) (by decide +kernel)⟩
theorem lw_p23 : lw_okq (⟨"ColourPartsModel", "isOpen", "()Z"⟩, 27) := ⟨⟨by decide +kernel, by decide +kernel⟩, List.mem_of_getElem? (i := 751) (by decide +kernel), List.mem_of_getElem? (i := 870) (by decide +kernel), List.mem_of_getElem? (i := 871) (by decide +kernel)⟩
theorem lw_p24 : lw_okq (⟨"ColourPartsModel", "isNear", "(II)Z"⟩, 27) := ⟨⟨by decide +kernel, by decide +kernel⟩, List.mem_of_getElem? (i := 751) (by decide +kernel), List.mem_of_getElem? (i := 874) (by decide +kernel), List.mem_of_getElem? (i := 875) (by decide +kernel)⟩
theorem lw_p25 : lw_okq (⟨"ColourPartsModel", "isNearPiece", "(IIII)Z"⟩, 27) := ⟨⟨by decide +kernel, by decide +kernel⟩, List.mem_of_getElem? (i := 751) (by decide +kernel), List.mem_of_getElem? (i := 878) (by decide +kernel), List.mem_of_getElem? (i := 879) (by decide +kernel)⟩
theorem lw_p26 : lw_okq (⟨"ColourPartsModel", "boxes", "(I)I"⟩, 27) := ⟨⟨by decide +kernel, by decide +kernel⟩, List.mem_of_getElem? (i := 751) (by decide +kernel), List.mem_of_getElem? (i := 882) (by decide +kernel), List.mem_of_getElem? (i := 883) (by decide +kernel)⟩
theorem lw_p27 : lw_okq (⟨"ColourPartsModel", "load", "(IIIZ)V"⟩, 27) := ⟨⟨by decide +kernel, by decide +kernel⟩, List.mem_of_getElem? (i := 751) (by decide +kernel), List.mem_of_getElem? (i := 886) (by decide +kernel), List.mem_of_getElem? (i := 887) (by decide +kernel)⟩
theorem lw_p28 : lw_okq (⟨"ColourPartsModel", "isNearBox", "()Z"⟩, 27) := ⟨⟨by decide +kernel, by decide +kernel⟩, List.mem_of_getElem? (i := 751) (by decide +kernel), List.mem_of_getElem? (i := 896) (by decide +kernel), List.mem_of_getElem? (i := 897) (by decide +kernel)⟩
theorem lw_p29 : lw_okq (⟨"ColourPartsModel", "hasCut", "(IJZ)Z"⟩, 27) := ⟨⟨by decide +kernel, by decide +kernel⟩, List.mem_of_getElem? (i := 751) (by decide +kernel), List.mem_of_getElem? (i := 912) (by decide +kernel), List.mem_of_getElem? (i := 913) (by decide +kernel)⟩
theorem lw_p30 : lw_okq (⟨"ColourPartsModel", "isWithin", "(IJZ)Z"⟩, 27) := ⟨⟨by decide +kernel, by decide +kernel⟩, List.mem_of_getElem? (i := 751) (by decide +kernel), List.mem_of_getElem? (i := 916) (by decide +kernel), List.mem_of_getElem? (i := 917) (by decide +kernel)⟩
theorem lw_p31 : lw_okq (⟨"ColourPartsModel", "part", "()V"⟩, 27) := ⟨⟨by decide +kernel, by decide +kernel⟩, List.mem_of_getElem? (i := 751) (by decide +kernel), List.mem_of_getElem? (i := 924) (by decide +kernel), List.mem_of_getElem? (i := 925) (by decide +kernel)⟩
def lw_privs_2 : List (MethodName × Nat) := [(⟨"ColourParts$Colouring", "noteStitch", "(IZ)V"⟩, 6), (⟨"ColourParts$Colouring", "noteFirst", "(II)V"⟩, 6), (⟨"ColourParts$Pieces", "fillWalks", "(II[I)V"⟩, 1), (⟨"ColourParts$Pieces", "nearAnyOf", "(I)I"⟩, 1), (⟨"ColourParts$Pieces", "writeLeastRing", "(II[I[I)V"⟩, 1), (⟨"ColourPartsModel", "allPieces", "()I"⟩, 27), (⟨"ColourPartsModel", "isShape", "(I)Z"⟩, 27), (⟨"ColourPartsModel", "isOpen", "()Z"⟩, 27), (⟨"ColourPartsModel", "isNear", "(II)Z"⟩, 27), (⟨"ColourPartsModel", "isNearPiece", "(IIII)Z"⟩, 27), (⟨"ColourPartsModel", "boxes", "(I)I"⟩, 27), (⟨"ColourPartsModel", "load", "(IIIZ)V"⟩, 27), (⟨"ColourPartsModel", "isNearBox", "()Z"⟩, 27), (⟨"ColourPartsModel", "hasCut", "(IJZ)Z"⟩, 27), (⟨"ColourPartsModel", "isWithin", "(IJZ)Z"⟩, 27), (⟨"ColourPartsModel", "part", "()V"⟩, 27)]
theorem lw_r2 : ∀ q ∈ lw_privs_2, lw_okq q := List.forall_mem_cons.mpr ⟨lw_p16, List.forall_mem_cons.mpr ⟨lw_p17, List.forall_mem_cons.mpr ⟨lw_p18, List.forall_mem_cons.mpr ⟨lw_p19, List.forall_mem_cons.mpr ⟨lw_p20, List.forall_mem_cons.mpr ⟨lw_p21, List.forall_mem_cons.mpr ⟨lw_p22, List.forall_mem_cons.mpr ⟨lw_p23, List.forall_mem_cons.mpr ⟨lw_p24, List.forall_mem_cons.mpr ⟨lw_p25, List.forall_mem_cons.mpr ⟨lw_p26, List.forall_mem_cons.mpr ⟨lw_p27, List.forall_mem_cons.mpr ⟨lw_p28, List.forall_mem_cons.mpr ⟨lw_p29, List.forall_mem_cons.mpr ⟨lw_p30, List.forall_mem_cons.mpr ⟨lw_p31, fun _ h => absurd h List.not_mem_nil⟩⟩⟩⟩⟩⟩⟩⟩⟩⟩⟩⟩⟩⟩⟩⟩
theorem lw_p32 : lw_okq (⟨"ColourPartsModel", "isFound", "(II)Z"⟩, 27) := ⟨⟨by decide +kernel, by decide +kernel⟩, List.mem_of_getElem? (i := 751) (by decide +kernel), List.mem_of_getElem? (i := 928) (by decide +kernel), List.mem_of_getElem? (i := 929) (by decide +kernel)⟩
theorem lw_p33 : lw_okq (⟨"ColourPartsModel", "fits", "(II)Z"⟩, 27) := ⟨⟨by decide +kernel, by decide +kernel⟩, List.mem_of_getElem? (i := 751) (by decide +kernel), List.mem_of_getElem? (i := 932) (by decide +kernel), List.mem_of_getElem? (i := 933) (by decide +kernel)⟩
theorem lw_p34 : lw_okq (⟨"ColourPartsModel", "usedUpTo", "(I)I"⟩, 27) := ⟨⟨by decide +kernel, by decide +kernel⟩, List.mem_of_getElem? (i := 751) (by decide +kernel), List.mem_of_getElem? (i := 936) (by decide +kernel), List.mem_of_getElem? (i := 937) (by decide +kernel)⟩
theorem lw_p35 : lw_okq (⟨"ColourPartsModel", "keep", "()V"⟩, 27) := ⟨⟨by decide +kernel, by decide +kernel⟩, List.mem_of_getElem? (i := 751) (by decide +kernel), List.mem_of_getElem? (i := 940) (by decide +kernel), List.mem_of_getElem? (i := 941) (by decide +kernel)⟩
theorem lw_p36 : lw_okq (⟨"ColourPartsModel", "areaOf", "(I)J"⟩, 27) := ⟨⟨by decide +kernel, by decide +kernel⟩, List.mem_of_getElem? (i := 751) (by decide +kernel), List.mem_of_getElem? (i := 944) (by decide +kernel), List.mem_of_getElem? (i := 945) (by decide +kernel)⟩
theorem lw_p37 : lw_okq (⟨"ColourPartsModel", "findRing", "()V"⟩, 27) := ⟨⟨by decide +kernel, by decide +kernel⟩, List.mem_of_getElem? (i := 751) (by decide +kernel), List.mem_of_getElem? (i := 948) (by decide +kernel), List.mem_of_getElem? (i := 949) (by decide +kernel)⟩
theorem lw_p38 : lw_okq (⟨"ColourPartsModel", "isRing", "(I)Z"⟩, 27) := ⟨⟨by decide +kernel, by decide +kernel⟩, List.mem_of_getElem? (i := 751) (by decide +kernel), List.mem_of_getElem? (i := 952) (by decide +kernel), List.mem_of_getElem? (i := 953) (by decide +kernel)⟩
theorem lw_p39 : lw_okq (⟨"ColourPartsModel", "isStep", "(II)Z"⟩, 27) := ⟨⟨by decide +kernel, by decide +kernel⟩, List.mem_of_getElem? (i := 751) (by decide +kernel), List.mem_of_getElem? (i := 956) (by decide +kernel), List.mem_of_getElem? (i := 957) (by decide +kernel)⟩
theorem lw_p40 : lw_okq (⟨"ColourPartsModel", "firstOf", "(I)I"⟩, 27) := ⟨⟨by decide +kernel, by decide +kernel⟩, List.mem_of_getElem? (i := 751) (by decide +kernel), List.mem_of_getElem? (i := 964) (by decide +kernel), List.mem_of_getElem? (i := 965) (by decide +kernel)⟩
def lw_privs_3 : List (MethodName × Nat) := [(⟨"ColourPartsModel", "isFound", "(II)Z"⟩, 27), (⟨"ColourPartsModel", "fits", "(II)Z"⟩, 27), (⟨"ColourPartsModel", "usedUpTo", "(I)I"⟩, 27), (⟨"ColourPartsModel", "keep", "()V"⟩, 27), (⟨"ColourPartsModel", "areaOf", "(I)J"⟩, 27), (⟨"ColourPartsModel", "findRing", "()V"⟩, 27), (⟨"ColourPartsModel", "isRing", "(I)Z"⟩, 27), (⟨"ColourPartsModel", "isStep", "(II)Z"⟩, 27), (⟨"ColourPartsModel", "firstOf", "(I)I"⟩, 27)]
theorem lw_r3 : ∀ q ∈ lw_privs_3, lw_okq q := List.forall_mem_cons.mpr ⟨lw_p32, List.forall_mem_cons.mpr ⟨lw_p33, List.forall_mem_cons.mpr ⟨lw_p34, List.forall_mem_cons.mpr ⟨lw_p35, List.forall_mem_cons.mpr ⟨lw_p36, List.forall_mem_cons.mpr ⟨lw_p37, List.forall_mem_cons.mpr ⟨lw_p38, List.forall_mem_cons.mpr ⟨lw_p39, List.forall_mem_cons.mpr ⟨lw_p40, fun _ h => absurd h List.not_mem_nil⟩⟩⟩⟩⟩⟩⟩⟩⟩
def lw_privs : List (MethodName × Nat) := lw_privs_1 ++ (lw_privs_2 ++ (lw_privs_3))
def lw_tbl : List Cond := k2_sels lw_privs ++ tables_1
theorem lw_privs_ok : ∀ q ∈ lw_privs, lw_okq q := by
  show ∀ q ∈ lw_privs_1 ++ (lw_privs_2 ++ (lw_privs_3)), lw_okq q
  exact List.forall_mem_append.mpr ⟨lw_r1, List.forall_mem_append.mpr ⟨lw_r2, lw_r3⟩⟩

end PA
end
section
/-! ===== BEGIN printed: names, fields, word lists, decode rows ===== -/
def RX0 : String := "ColourParts$Box"
def TX0 : u_T := fun k => match k with
  | 0 => ("ColourParts$Box", "left", "J", true)
  | 1 => ("ColourParts$Box", "low", "J", true)
  | 2 => ("ColourParts$Box", "right", "J", true)
  | _ => ("ColourParts$Box", "high", "J", true)
def tyX0 : Nat → FieldType := fun k => match k with
  | 0 => .long
  | 1 => .long
  | 2 => .long
  | _ => .long
abbrev wsX00 : List Cond := u_ws RX0 TX0 4
theorem nmX0 : ∀ a, a < 4 → ∀ b, b < 4 → a ≠ b → (TX0 a).2.1 ≠ (TX0 b).2.1 := by decide +kernel
theorem tyX0_ok : ∀ k, k < 4 → parseFieldDescriptor (TX0 k).2.2.1 = some (tyX0 k) := by decide +kernel
abbrev cX0_init : ByteArray := prog_2_method_1_code
def yX0_init : MethodName := ⟨RX0, "<init>", "(JJJJ)V"⟩
abbrev cX0_area : ByteArray := prog_2_method_2_code
def yX0_area : MethodName := ⟨RX0, "area", "()J"⟩
abbrev cX0_isWithin : ByteArray := prog_2_method_3_code
def yX0_isWithin : MethodName := ⟨RX0, "isWithin", "(JZ)Z"⟩
abbrev cX0_isNearAny : ByteArray := prog_2_method_4_code
def yX0_isNearAny : MethodName := ⟨RX0, "isNearAny", "(Ljava/util/ArrayList;J)Z"⟩
abbrev cX0_isNearBox : ByteArray := prog_2_method_5_code
def yX0_isNearBox : MethodName := ⟨RX0, "isNearBox", "(LColourParts$Box;J)Z"⟩
abbrev cX0_gap : ByteArray := prog_2_method_6_code
def yX0_gap : MethodName := ⟨RX0, "gap", "(JJJJ)J"⟩
def RX1 : String := "ColourParts$Colouring"
def TX1 : u_T := fun k => match k with
  | 0 => ("ColourParts$Colouring", "firstColours", "[I", true)
  | 1 => ("ColourParts$Colouring", "stitchCounts", "[I", true)
  | 2 => ("ColourParts$Colouring", "usedStitches", "[I", true)
  | 3 => ("ColourParts$Colouring", "pieceCounts", "[I", true)
  | 4 => ("ColourParts$Colouring", "areas", "[J", true)
  | _ => ("ColourParts$Colouring", "usedInAll", "I", true)
def tyX1 : Nat → FieldType := fun k => match k with
  | 0 => .array .int
  | 1 => .array .int
  | 2 => .array .int
  | 3 => .array .int
  | 4 => .array .long
  | _ => .int
abbrev wsX10 : List Cond := u_ws RX1 TX1 6
theorem nmX1 : ∀ a, a < 6 → ∀ b, b < 6 → a ≠ b → (TX1 a).2.1 ≠ (TX1 b).2.1 := by decide +kernel
theorem tyX1_ok : ∀ k, k < 6 → parseFieldDescriptor (TX1 k).2.2.1 = some (tyX1 k) := by decide +kernel
abbrev cX1_init : ByteArray := prog_3_method_1_code
def yX1_init : MethodName := ⟨RX1, "<init>", "(LColourParts$Pieces;[II)V"⟩
abbrev cX1_weigh : ByteArray := prog_3_method_2_code
def yX1_weigh : MethodName := ⟨RX1, "weigh", "(IJ)V"⟩
abbrev cX1_noteFirst : ByteArray := prog_3_method_3_code
def yX1_noteFirst : MethodName := ⟨RX1, "noteFirst", "(II)V"⟩
abbrev cX1_noteStitch : ByteArray := prog_3_method_4_code
def yX1_noteStitch : MethodName := ⟨RX1, "noteStitch", "(IZ)V"⟩
def RX2 : String := "ColourParts$Piece"
def TX2 : u_T := fun k => match k with
  | 0 => ("ColourParts$Piece", "owner", "I", true)
  | 1 => ("ColourParts$Piece", "told", "I", true)
  | 2 => ("ColourParts$Piece", "boxes", "Ljava/util/ArrayList;", true)
  | _ => ("ColourParts$Piece", "nearPieces", "I", false)
def tyX2 : Nat → FieldType := fun k => match k with
  | 0 => .int
  | 1 => .int
  | 2 => .object "java/util/ArrayList"
  | _ => .int
abbrev wsX20 : List Cond := u_ws RX2 TX2 4
theorem nmX2 : ∀ a, a < 4 → ∀ b, b < 4 → a ≠ b → (TX2 a).2.1 ≠ (TX2 b).2.1 := by decide +kernel
theorem tyX2_ok : ∀ k, k < 4 → parseFieldDescriptor (TX2 k).2.2.1 = some (tyX2 k) := by decide +kernel
abbrev cX2_init : ByteArray := prog_4_method_1_code
def yX2_init : MethodName := ⟨RX2, "<init>", "(IILjava/util/ArrayList;)V"⟩
abbrev cX2_areas : ByteArray := prog_4_method_2_code
def yX2_areas : MethodName := ⟨RX2, "areas", "()J"⟩
abbrev cX2_isNearPiece : ByteArray := prog_4_method_3_code
def yX2_isNearPiece : MethodName := ⟨RX2, "isNearPiece", "(LColourParts$Piece;J)Z"⟩
def RX3 : String := "ColourParts$Pieces"
def TX3 : u_T := fun k => match k with
  | _ => ("ColourParts$Pieces", "row", "Ljava/util/ArrayList;", true)
def tyX3 : Nat → FieldType := fun k => match k with
  | _ => .object "java/util/ArrayList"
abbrev wsX30 : List Cond := u_ws RX3 TX3 1
theorem nmX3 : ∀ a, a < 1 → ∀ b, b < 1 → a ≠ b → (TX3 a).2.1 ≠ (TX3 b).2.1 := by decide +kernel
theorem tyX3_ok : ∀ k, k < 1 → parseFieldDescriptor (TX3 k).2.2.1 = some (tyX3 k) := by decide +kernel
abbrev cX3_init : ByteArray := prog_5_method_1_code
def yX3_init : MethodName := ⟨RX3, "<init>", "()V"⟩
abbrev cX3_add : ByteArray := prog_5_method_2_code
def yX3_add : MethodName := ⟨RX3, "add", "(IILjava/util/ArrayList;)V"⟩
abbrev cX3_count : ByteArray := prog_5_method_3_code
def yX3_count : MethodName := ⟨RX3, "count", "()I"⟩
abbrev cX3_owner : ByteArray := prog_5_method_4_code
def yX3_owner : MethodName := ⟨RX3, "owner", "(I)I"⟩
abbrev cX3_told : ByteArray := prog_5_method_5_code
def yX3_told : MethodName := ⟨RX3, "told", "(I)I"⟩
abbrev cX3_nearPieces : ByteArray := prog_5_method_6_code
def yX3_nearPieces : MethodName := ⟨RX3, "nearPieces", "(I)I"⟩
abbrev cX3_areas : ByteArray := prog_5_method_7_code
def yX3_areas : MethodName := ⟨RX3, "areas", "(I)J"⟩
abbrev cX3_isAfterStitch : ByteArray := prog_5_method_8_code
def yX3_isAfterStitch : MethodName := ⟨RX3, "isAfterStitch", "(I)Z"⟩
abbrev cX3_findNearOnes : ByteArray := prog_5_method_9_code
def yX3_findNearOnes : MethodName := ⟨RX3, "findNearOnes", "(J)V"⟩
abbrev cX3_findOddRing : ByteArray := prog_5_method_10_code
def yX3_findOddRing : MethodName := ⟨RX3, "findOddRing", "([I)I"⟩
abbrev cX3_fillWalks : ByteArray := prog_5_method_11_code
def yX3_fillWalks : MethodName := ⟨RX3, "fillWalks", "(II[I)V"⟩
abbrev cX3_nearAnyOf : ByteArray := prog_5_method_12_code
def yX3_nearAnyOf : MethodName := ⟨RX3, "nearAnyOf", "(I)I"⟩
abbrev cX3_writeLeastRing : ByteArray := prog_5_method_13_code
def yX3_writeLeastRing : MethodName := ⟨RX3, "writeLeastRing", "(II[I[I)V"⟩
def RX4 : String := "ColourParts$Search"
def TX4 : u_T := fun k => match k with
  | 0 => ("ColourParts$Search", "colours", "I", true)
  | 1 => ("ColourParts$Search", "count", "I", true)
  | 2 => ("ColourParts$Search", "near", "[I", true)
  | 3 => ("ColourParts$Search", "told", "[I", true)
  | 4 => ("ColourParts$Search", "afterStitch", "[Z", true)
  | 5 => ("ColourParts$Search", "holders", "[I", true)
  | 6 => ("ColourParts$Search", "row", "[I", true)
  | 7 => ("ColourParts$Search", "best", "[I", true)
  | _ => ("ColourParts$Search", "fewest", "I", false)
def tyX4 : Nat → FieldType := fun k => match k with
  | 0 => .int
  | 1 => .int
  | 2 => .array .int
  | 3 => .array .int
  | 4 => .array .boolean
  | 5 => .array .int
  | 6 => .array .int
  | 7 => .array .int
  | _ => .int
abbrev wsX40 : List Cond := u_ws RX4 TX4 9
theorem nmX4 : ∀ a, a < 9 → ∀ b, b < 9 → a ≠ b → (TX4 a).2.1 ≠ (TX4 b).2.1 := by decide +kernel
theorem tyX4_ok : ∀ k, k < 9 → parseFieldDescriptor (TX4 k).2.2.1 = some (tyX4 k) := by decide +kernel
abbrev cX4_init : ByteArray := prog_6_method_1_code
def yX4_init : MethodName := ⟨RX4, "<init>", "(LColourParts$Pieces;I)V"⟩
abbrev cX4_isFound : ByteArray := prog_6_method_2_code
def yX4_isFound : MethodName := ⟨RX4, "isFound", "()Z"⟩
abbrev cX4_findBest : ByteArray := prog_6_method_3_code
def yX4_findBest : MethodName := ⟨RX4, "findBest", "()V"⟩
abbrev cX4_goOn : ByteArray := prog_6_method_4_code
def yX4_goOn : MethodName := ⟨RX4, "goOn", "(III)V"⟩
abbrev cX4_tryColour : ByteArray := prog_6_method_5_code
def yX4_tryColour : MethodName := ⟨RX4, "tryColour", "(IIII)V"⟩
abbrev cX4_canHave : ByteArray := prog_6_method_6_code
def yX4_canHave : MethodName := ⟨RX4, "canHave", "(II)Z"⟩
abbrev cX4_isDeadEnd : ByteArray := prog_6_method_7_code
def yX4_isDeadEnd : MethodName := ⟨RX4, "isDeadEnd", "(I)Z"⟩
def RX5 : String := "ColourParts$Shape"
def TX5 : u_T := fun k => match k with
  | 0 => ("ColourParts$Shape", "boxes", "Ljava/util/ArrayList;", true)
  | 1 => ("ColourParts$Shape", "places", "[J", true)
  | 2 => ("ColourParts$Shape", "stitchCount", "I", false)
  | 3 => ("ColourParts$Shape", "standing", "Z", false)
  | 4 => ("ColourParts$Shape", "told", "I", false)
  | 5 => ("ColourParts$Shape", "nearShapes", "I", false)
  | 6 => ("ColourParts$Shape", "half", "Z", false)
  | 7 => ("ColourParts$Shape", "halfX", "J", false)
  | _ => ("ColourParts$Shape", "halfY", "J", false)
def tyX5 : Nat → FieldType := fun k => match k with
  | 0 => .object "java/util/ArrayList"
  | 1 => .array .long
  | 2 => .int
  | 3 => .boolean
  | 4 => .int
  | 5 => .int
  | 6 => .boolean
  | 7 => .long
  | _ => .long
abbrev wsX50 : List Cond := u_ws RX5 TX5 9
theorem nmX5 : ∀ a, a < 9 → ∀ b, b < 9 → a ≠ b → (TX5 a).2.1 ≠ (TX5 b).2.1 := by decide +kernel
theorem tyX5_ok : ∀ k, k < 9 → parseFieldDescriptor (TX5 k).2.2.1 = some (tyX5 k) := by decide +kernel
abbrev cX5_init : ByteArray := prog_7_method_1_code
def yX5_init : MethodName := ⟨RX5, "<init>", "()V"⟩
abbrev cX5_isOpen : ByteArray := prog_7_method_2_code
def yX5_isOpen : MethodName := ⟨RX5, "isOpen", "()Z"⟩
abbrev cX5_isNearShape : ByteArray := prog_7_method_3_code
def yX5_isNearShape : MethodName := ⟨RX5, "isNearShape", "(I)Z"⟩
abbrev cX5_addCorner : ByteArray := prog_7_method_4_code
def yX5_addCorner : MethodName := ⟨RX5, "addCorner", "(JJ)Z"⟩
abbrev cX5_hasStitch : ByteArray := prog_7_method_5_code
def yX5_hasStitch : MethodName := ⟨RX5, "hasStitch", "(JZ)Z"⟩
abbrev cX5_addStitch : ByteArray := prog_7_method_6_code
def yX5_addStitch : MethodName := ⟨RX5, "addStitch", "(JZ)V"⟩
abbrev cX5_pieceBoxes : ByteArray := prog_7_method_7_code
def yX5_pieceBoxes : MethodName := ⟨RX5, "pieceBoxes", "(I)Ljava/util/ArrayList;"⟩
abbrev cX5_cutBox : ByteArray := prog_7_method_8_code
def yX5_cutBox : MethodName := ⟨RX5, "cutBox", "(LColourParts$Box;I)LColourParts$Box;"⟩
def RX6 : String := "ColourParts"
def TX6 : u_T := fun k => match k with
  | 0 => ("ColourParts", "square", "J", true)
  | 1 => ("ColourParts", "shapes", "Ljava/util/ArrayList;", true)
  | 2 => ("ColourParts", "ringShapes", "[I", true)
  | 3 => ("ColourParts", "ringLength", "I", false)
  | 4 => ("ColourParts", "kept", "LColourParts$Colouring;", false)
  | _ => ("ColourParts", "latestClosed", "Z", false)
def tyX6 : Nat → FieldType := fun k => match k with
  | 0 => .long
  | 1 => .object "java/util/ArrayList"
  | 2 => .array .int
  | 3 => .int
  | 4 => .object "ColourParts$Colouring"
  | _ => .boolean
abbrev wsX60 : List Cond := u_ws RX6 TX6 6
theorem nmX6 : ∀ a, a < 6 → ∀ b, b < 6 → a ≠ b → (TX6 a).2.1 ≠ (TX6 b).2.1 := by decide +kernel
theorem tyX6_ok : ∀ k, k < 6 → parseFieldDescriptor (TX6 k).2.2.1 = some (tyX6 k) := by decide +kernel
abbrev cX6_init : ByteArray := prog_1_method_1_code
def yX6_init : MethodName := ⟨RX6, "<init>", "(J)V"⟩
abbrev cX6_shape : ByteArray := prog_1_method_2_code
def yX6_shape : MethodName := ⟨RX6, "shape", "()I"⟩
abbrev cX6_corner : ByteArray := prog_1_method_3_code
def yX6_corner : MethodName := ⟨RX6, "corner", "(IJJ)Z"⟩
abbrev cX6_near : ByteArray := prog_1_method_4_code
def yX6_near : MethodName := ⟨RX6, "near", "()I"⟩
abbrev cX6_run : ByteArray := prog_1_method_5_code
def yX6_run : MethodName := ⟨RX6, "run", "(IJ)I"⟩
abbrev cX6_colour : ByteArray := prog_1_method_6_code
def yX6_colour : MethodName := ⟨RX6, "colour", "(I)I"⟩
abbrev cX6_ring : ByteArray := prog_1_method_7_code
def yX6_ring : MethodName := ⟨RX6, "ring", "(I)I"⟩
abbrev cX6_length : ByteArray := prog_1_method_8_code
def yX6_length : MethodName := ⟨RX6, "length", "()I"⟩
abbrev cX6_pre : ByteArray := prog_1_method_9_code
def yX6_pre : MethodName := ⟨RX6, "pre", "(II)Z"⟩
abbrev cX6_stitch : ByteArray := prog_1_method_10_code
def yX6_stitch : MethodName := ⟨RX6, "stitch", "(IJZ)Z"⟩
abbrev cX6_stitches : ByteArray := prog_1_method_11_code
def yX6_stitches : MethodName := ⟨RX6, "stitches", "()I"⟩
abbrev cX6_used : ByteArray := prog_1_method_12_code
def yX6_used : MethodName := ⟨RX6, "used", "(II)Z"⟩
abbrev cX6_balance : ByteArray := prog_1_method_13_code
def yX6_balance : MethodName := ⟨RX6, "balance", "(II)J"⟩
abbrev cX6_pair : ByteArray := prog_1_method_14_code
def yX6_pair : MethodName := ⟨RX6, "pair", "(II)I"⟩
abbrev cX6_closed : ByteArray := prog_1_method_15_code
def yX6_closed : MethodName := ⟨RX6, "closed", "()Z"⟩
abbrev cX6_clear : ByteArray := prog_1_method_16_code
def yX6_clear : MethodName := ⟨RX6, "clear", "()V"⟩
abbrev cX6_needShape : ByteArray := prog_1_method_17_code
def yX6_needShape : MethodName := ⟨RX6, "needShape", "(I)V"⟩
abbrev cX6_needNoneOpen : ByteArray := prog_1_method_18_code
def yX6_needNoneOpen : MethodName := ⟨RX6, "needNoneOpen", "()V"⟩
abbrev cX6_isNoColour : ByteArray := prog_1_method_19_code
def yX6_isNoColour : MethodName := ⟨RX6, "isNoColour", "(I)Z"⟩
abbrev cX6_isTooFar : ByteArray := prog_1_method_20_code
def yX6_isTooFar : MethodName := ⟨RX6, "isTooFar", "(J)Z"⟩
abbrev cX6_countPieces : ByteArray := prog_1_method_21_code
def yX6_countPieces : MethodName := ⟨RX6, "countPieces", "()I"⟩
abbrev cX6_findNearOnes : ByteArray := prog_1_method_22_code
def yX6_findNearOnes : MethodName := ⟨RX6, "findNearOnes", "(I)V"⟩
abbrev cX6_cutShapes : ByteArray := prog_1_method_23_code
def yX6_cutShapes : MethodName := ⟨RX6, "cutShapes", "()LColourParts$Pieces;"⟩
def RX7 : String := "ColourPartsModel"
def TX7 : u_T := fun k => match k with
  | 0 => ("ColourPartsModel", "code", "I", false)
  | 1 => ("ColourPartsModel", "distance", "J", true)
  | 2 => ("ColourPartsModel", "shapes", "I", false)
  | 3 => ("ColourPartsModel", "cornerX", "[J", true)
  | 4 => ("ColourPartsModel", "cornerY", "[J", true)
  | 5 => ("ColourPartsModel", "corners", "[I", true)
  | 6 => ("ColourPartsModel", "told", "[I", true)
  | 7 => ("ColourPartsModel", "cuts", "[J", true)
  | 8 => ("ColourPartsModel", "cutCounts", "[I", true)
  | 9 => ("ColourPartsModel", "standing", "[Z", true)
  | 10 => ("ColourPartsModel", "pieces", "I", false)
  | 11 => ("ColourPartsModel", "pieceShapes", "[I", true)
  | 12 => ("ColourPartsModel", "pieceNumbers", "[I", true)
  | 13 => ("ColourPartsModel", "nears", "[Z", true)
  | 14 => ("ColourPartsModel", "one", "[J", true)
  | 15 => ("ColourPartsModel", "two", "[J", true)
  | 16 => ("ColourPartsModel", "colours", "[I", true)
  | 17 => ("ColourPartsModel", "kept", "Z", false)
  | 18 => ("ColourPartsModel", "keptPieces", "I", false)
  | 19 => ("ColourPartsModel", "keptStitches", "I", false)
  | 20 => ("ColourPartsModel", "keptShapes", "[I", true)
  | 21 => ("ColourPartsModel", "keptColours", "[I", true)
  | 22 => ("ColourPartsModel", "keptAreas", "[J", true)
  | 23 => ("ColourPartsModel", "walk", "[I", true)
  | 24 => ("ColourPartsModel", "ringShapes", "[I", true)
  | 25 => ("ColourPartsModel", "ringLength", "I", false)
  | _ => ("ColourPartsModel", "closed", "Z", false)
def tyX7 : Nat → FieldType := fun k => match k with
  | 0 => .int
  | 1 => .long
  | 2 => .int
  | 3 => .array .long
  | 4 => .array .long
  | 5 => .array .int
  | 6 => .array .int
  | 7 => .array .long
  | 8 => .array .int
  | 9 => .array .boolean
  | 10 => .int
  | 11 => .array .int
  | 12 => .array .int
  | 13 => .array .boolean
  | 14 => .array .long
  | 15 => .array .long
  | 16 => .array .int
  | 17 => .boolean
  | 18 => .int
  | 19 => .int
  | 20 => .array .int
  | 21 => .array .int
  | 22 => .array .long
  | 23 => .array .int
  | 24 => .array .int
  | 25 => .int
  | _ => .boolean
abbrev wsX70 : List Cond := u_ws RX7 TX7 27
theorem nmX7 : ∀ a, a < 27 → ∀ b, b < 27 → a ≠ b → (TX7 a).2.1 ≠ (TX7 b).2.1 := by decide +kernel
theorem tyX7_ok : ∀ k, k < 27 → parseFieldDescriptor (TX7 k).2.2.1 = some (tyX7 k) := by decide +kernel
abbrev cX7_init : ByteArray := prog_9_method_1_code
def yX7_init : MethodName := ⟨RX7, "<init>", "(J)V"⟩
abbrev cX7_thrown : ByteArray := prog_9_method_2_code
def yX7_thrown : MethodName := ⟨RX7, "thrown", "()I"⟩
abbrev cX7_isShape : ByteArray := prog_9_method_3_code
def yX7_isShape : MethodName := ⟨RX7, "isShape", "(I)Z"⟩
abbrev cX7_isOpen : ByteArray := prog_9_method_4_code
def yX7_isOpen : MethodName := ⟨RX7, "isOpen", "()Z"⟩
abbrev cX7_allPieces : ByteArray := prog_9_method_5_code
def yX7_allPieces : MethodName := ⟨RX7, "allPieces", "()I"⟩
abbrev cX7_shape : ByteArray := prog_9_method_6_code
def yX7_shape : MethodName := ⟨RX7, "shape", "()I"⟩
abbrev cX7_corner : ByteArray := prog_9_method_7_code
def yX7_corner : MethodName := ⟨RX7, "corner", "(IJJ)Z"⟩
abbrev cX7_clear : ByteArray := prog_9_method_8_code
def yX7_clear : MethodName := ⟨RX7, "clear", "()V"⟩
abbrev cX7_low : ByteArray := prog_9_method_9_code
def yX7_low : MethodName := ⟨RX7, "low", "(JJ)J"⟩
abbrev cX7_high : ByteArray := prog_9_method_10_code
def yX7_high : MethodName := ⟨RX7, "high", "(JJ)J"⟩
abbrev cX7_boxes : ByteArray := prog_9_method_11_code
def yX7_boxes : MethodName := ⟨RX7, "boxes", "(I)I"⟩
abbrev cX7_load : ByteArray := prog_9_method_12_code
def yX7_load : MethodName := ⟨RX7, "load", "(IIIZ)V"⟩
abbrev cX7_isNearBox : ByteArray := prog_9_method_13_code
def yX7_isNearBox : MethodName := ⟨RX7, "isNearBox", "()Z"⟩
abbrev cX7_isNearPiece : ByteArray := prog_9_method_14_code
def yX7_isNearPiece : MethodName := ⟨RX7, "isNearPiece", "(IIII)Z"⟩
abbrev cX7_isNear : ByteArray := prog_9_method_15_code
def yX7_isNear : MethodName := ⟨RX7, "isNear", "(II)Z"⟩
abbrev cX7_near : ByteArray := prog_9_method_16_code
def yX7_near : MethodName := ⟨RX7, "near", "()I"⟩
abbrev cX7_pair : ByteArray := prog_9_method_17_code
def yX7_pair : MethodName := ⟨RX7, "pair", "(II)I"⟩
abbrev cX7_pre : ByteArray := prog_9_method_18_code
def yX7_pre : MethodName := ⟨RX7, "pre", "(II)Z"⟩
abbrev cX7_hasCut : ByteArray := prog_9_method_19_code
def yX7_hasCut : MethodName := ⟨RX7, "hasCut", "(IJZ)Z"⟩
abbrev cX7_isWithin : ByteArray := prog_9_method_20_code
def yX7_isWithin : MethodName := ⟨RX7, "isWithin", "(IJZ)Z"⟩
abbrev cX7_stitch : ByteArray := prog_9_method_21_code
def yX7_stitch : MethodName := ⟨RX7, "stitch", "(IJZ)Z"⟩
abbrev cX7_part : ByteArray := prog_9_method_22_code
def yX7_part : MethodName := ⟨RX7, "part", "()V"⟩
abbrev cX7_usedUpTo : ByteArray := prog_9_method_23_code
def yX7_usedUpTo : MethodName := ⟨RX7, "usedUpTo", "(I)I"⟩
abbrev cX7_fits : ByteArray := prog_9_method_24_code
def yX7_fits : MethodName := ⟨RX7, "fits", "(II)Z"⟩
abbrev cX7_isFound : ByteArray := prog_9_method_25_code
def yX7_isFound : MethodName := ⟨RX7, "isFound", "(II)Z"⟩
abbrev cX7_areaOf : ByteArray := prog_9_method_26_code
def yX7_areaOf : MethodName := ⟨RX7, "areaOf", "(I)J"⟩
abbrev cX7_keep : ByteArray := prog_9_method_27_code
def yX7_keep : MethodName := ⟨RX7, "keep", "()V"⟩
abbrev cX7_isStep : ByteArray := prog_9_method_28_code
def yX7_isStep : MethodName := ⟨RX7, "isStep", "(II)Z"⟩
abbrev cX7_isRing : ByteArray := prog_9_method_29_code
def yX7_isRing : MethodName := ⟨RX7, "isRing", "(I)Z"⟩
abbrev cX7_findRing : ByteArray := prog_9_method_30_code
def yX7_findRing : MethodName := ⟨RX7, "findRing", "()V"⟩
abbrev cX7_run : ByteArray := prog_9_method_31_code
def yX7_run : MethodName := ⟨RX7, "run", "(IJ)I"⟩
abbrev cX7_firstOf : ByteArray := prog_9_method_32_code
def yX7_firstOf : MethodName := ⟨RX7, "firstOf", "(I)I"⟩
abbrev cX7_colour : ByteArray := prog_9_method_33_code
def yX7_colour : MethodName := ⟨RX7, "colour", "(I)I"⟩
abbrev cX7_ring : ByteArray := prog_9_method_34_code
def yX7_ring : MethodName := ⟨RX7, "ring", "(I)I"⟩
abbrev cX7_length : ByteArray := prog_9_method_35_code
def yX7_length : MethodName := ⟨RX7, "length", "()I"⟩
abbrev cX7_stitches : ByteArray := prog_9_method_36_code
def yX7_stitches : MethodName := ⟨RX7, "stitches", "()I"⟩
abbrev cX7_used : ByteArray := prog_9_method_37_code
def yX7_used : MethodName := ⟨RX7, "used", "(II)Z"⟩
abbrev cX7_balance : ByteArray := prog_9_method_38_code
def yX7_balance : MethodName := ⟨RX7, "balance", "(II)J"⟩
abbrev cX7_closed : ByteArray := prog_9_method_39_code
def yX7_closed : MethodName := ⟨RX7, "closed", "()Z"⟩
def RJx145de : String := "java/io/Serializable"
def TJx145de : u_T := fun k => match k with
  | _ => ("", "", "", false)
def tyJx145de : Nat → FieldType := fun k => match k with
  | _ => .int
abbrev wsJx145de0 : List Cond := u_ws RJx145de TJx145de 0
theorem nmJx145de : ∀ a, a < 0 → ∀ b, b < 0 → a ≠ b → (TJx145de a).2.1 ≠ (TJx145de b).2.1 := by decide +kernel
theorem tyJx145de_ok : ∀ k, k < 0 → parseFieldDescriptor (TJx145de k).2.2.1 = some (tyJx145de k) := by decide +kernel
def RJx8e188 : String := "java/lang/Cloneable"
def TJx8e188 : u_T := fun k => match k with
  | _ => ("", "", "", false)
def tyJx8e188 : Nat → FieldType := fun k => match k with
  | _ => .int
abbrev wsJx8e1880 : List Cond := u_ws RJx8e188 TJx8e188 0
theorem nmJx8e188 : ∀ a, a < 0 → ∀ b, b < 0 → a ≠ b → (TJx8e188 a).2.1 ≠ (TJx8e188 b).2.1 := by decide +kernel
theorem tyJx8e188_ok : ∀ k, k < 0 → parseFieldDescriptor (TJx8e188 k).2.2.1 = some (tyJx8e188 k) := by decide +kernel
def RJ6 : String := "java/lang/Integer"
def TJ6 : u_T := fun k => match k with
  | _ => ("", "", "", false)
def tyJ6 : Nat → FieldType := fun k => match k with
  | _ => .int
abbrev wsJ60 : List Cond := u_ws RJ6 TJ6 0
theorem nmJ6 : ∀ a, a < 0 → ∀ b, b < 0 → a ≠ b → (TJ6 a).2.1 ≠ (TJ6 b).2.1 := by decide +kernel
theorem tyJ6_ok : ∀ k, k < 0 → parseFieldDescriptor (TJ6 k).2.2.1 = some (tyJ6 k) := by decide +kernel
abbrev cJ6_numberOfTrailingZeros_0f7a4 : ByteArray := prog_16_method_48_code
def yJ6_numberOfTrailingZeros_0f7a4 : MethodName := ⟨RJ6, "numberOfTrailingZeros", "(I)I"⟩
abbrev cJ6_bitCount_0f7a4 : ByteArray := prog_16_method_49_code
def yJ6_bitCount_0f7a4 : MethodName := ⟨RJ6, "bitCount", "(I)I"⟩
def RJxab1ab : String := "java/lang/Iterable"
def TJxab1ab : u_T := fun k => match k with
  | _ => ("", "", "", false)
def tyJxab1ab : Nat → FieldType := fun k => match k with
  | _ => .int
abbrev wsJxab1ab0 : List Cond := u_ws RJxab1ab TJxab1ab 0
theorem nmJxab1ab : ∀ a, a < 0 → ∀ b, b < 0 → a ≠ b → (TJxab1ab a).2.1 ≠ (TJxab1ab b).2.1 := by decide +kernel
theorem tyJxab1ab_ok : ∀ k, k < 0 → parseFieldDescriptor (TJxab1ab k).2.2.1 = some (tyJxab1ab k) := by decide +kernel
def RJ9 : String := "java/lang/Math"
def TJ9 : u_T := fun k => match k with
  | _ => ("", "", "", false)
def tyJ9 : Nat → FieldType := fun k => match k with
  | _ => .int
abbrev wsJ90 : List Cond := u_ws RJ9 TJ9 0
theorem nmJ9 : ∀ a, a < 0 → ∀ b, b < 0 → a ≠ b → (TJ9 a).2.1 ≠ (TJ9 b).2.1 := by decide +kernel
theorem tyJ9_ok : ∀ k, k < 0 → parseFieldDescriptor (TJ9 k).2.2.1 = some (tyJ9 k) := by decide +kernel
abbrev cJ9_max_7cf53 : ByteArray := prog_18_method_65_code
def yJ9_max_7cf53 : MethodName := ⟨RJ9, "max", "(II)I"⟩
abbrev cJ9_max_f86c9 : ByteArray := prog_18_method_66_code
def yJ9_max_f86c9 : MethodName := ⟨RJ9, "max", "(JJ)J"⟩
abbrev cJ9_min_7cf53 : ByteArray := prog_18_method_69_code
def yJ9_min_7cf53 : MethodName := ⟨RJ9, "min", "(II)I"⟩
abbrev cJ9_min_f86c9 : ByteArray := prog_18_method_70_code
def yJ9_min_f86c9 : MethodName := ⟨RJ9, "min", "(JJ)J"⟩
def RJ0 : String := "java/lang/String"
def TJ0 : u_T := fun k => match k with
  | _ => ("", "", "", false)
def tyJ0 : Nat → FieldType := fun k => match k with
  | _ => .int
abbrev wsJ00 : List Cond := u_ws RJ0 TJ0 0
theorem nmJ0 : ∀ a, a < 0 → ∀ b, b < 0 → a ≠ b → (TJ0 a).2.1 ≠ (TJ0 b).2.1 := by decide +kernel
theorem tyJ0_ok : ∀ k, k < 0 → parseFieldDescriptor (TJ0 k).2.2.1 = some (tyJ0 k) := by decide +kernel
def RJ10 : String := "java/lang/System"
def TJ10 : u_T := fun k => match k with
  | _ => ("", "", "", false)
def tyJ10 : Nat → FieldType := fun k => match k with
  | _ => .int
abbrev wsJ100 : List Cond := u_ws RJ10 TJ10 0
theorem nmJ10 : ∀ a, a < 0 → ∀ b, b < 0 → a ≠ b → (TJ10 a).2.1 ≠ (TJ10 b).2.1 := by decide +kernel
theorem tyJ10_ok : ∀ k, k < 0 → parseFieldDescriptor (TJ10 k).2.2.1 = some (tyJ10 k) := by decide +kernel
def RJxa1e45 : String := "java/util/AbstractCollection"
def TJxa1e45 : u_T := fun k => match k with
  | _ => ("", "", "", false)
def tyJxa1e45 : Nat → FieldType := fun k => match k with
  | _ => .int
abbrev wsJxa1e450 : List Cond := u_ws RJxa1e45 TJxa1e45 0
theorem nmJxa1e45 : ∀ a, a < 0 → ∀ b, b < 0 → a ≠ b → (TJxa1e45 a).2.1 ≠ (TJxa1e45 b).2.1 := by decide +kernel
theorem tyJxa1e45_ok : ∀ k, k < 0 → parseFieldDescriptor (TJxa1e45 k).2.2.1 = some (tyJxa1e45 k) := by decide +kernel
abbrev cJxa1e45_init_da8c8 : ByteArray := prog_23_method_1_code
def yJxa1e45_init_da8c8 : MethodName := ⟨RJxa1e45, "<init>", "()V"⟩
def RJxc12de : String := "java/util/AbstractList"
def TJxc12de : u_T := fun k => match k with
  | _ => ("", "", "", false)
def tyJxc12de : Nat → FieldType := fun k => match k with
  | _ => .int
abbrev wsJxc12de0 : List Cond := u_ws RJxc12de TJxc12de 0
theorem nmJxc12de : ∀ a, a < 0 → ∀ b, b < 0 → a ≠ b → (TJxc12de a).2.1 ≠ (TJxc12de b).2.1 := by decide +kernel
theorem tyJxc12de_ok : ∀ k, k < 0 → parseFieldDescriptor (TJxc12de k).2.2.1 = some (tyJxc12de k) := by decide +kernel
abbrev cJxc12de_init_da8c8 : ByteArray := prog_24_method_1_code
def yJxc12de_init_da8c8 : MethodName := ⟨RJxc12de, "<init>", "()V"⟩
def RJx4a65c : String := "java/util/ArrayList"
def TJx4a65c : u_T := fun k => match k with
  | 0 => ("java/util/AbstractList", "modCount", "I", false)
  | 1 => ("java/util/ArrayList", "elementData", "[Ljava/lang/Object;", false)
  | _ => ("java/util/ArrayList", "size", "I", false)
def tyJx4a65c : Nat → FieldType := fun k => match k with
  | 0 => .int
  | 1 => .array (.object "java/lang/Object")
  | _ => .int
abbrev wsJx4a65c0 : List Cond := u_ws RJx4a65c TJx4a65c 3
theorem nmJx4a65c : ∀ a, a < 3 → ∀ b, b < 3 → a ≠ b → (TJx4a65c a).2.1 ≠ (TJx4a65c b).2.1 := by decide +kernel
theorem tyJx4a65c_ok : ∀ k, k < 3 → parseFieldDescriptor (TJx4a65c k).2.2.1 = some (tyJx4a65c k) := by decide +kernel
abbrev cJx4a65c_init_da8c8 : ByteArray := prog_25_method_2_code
def yJx4a65c_init_da8c8 : MethodName := ⟨RJx4a65c, "<init>", "()V"⟩
abbrev cJx4a65c_grow_92f84 : ByteArray := prog_25_method_6_code
def yJx4a65c_grow_92f84 : MethodName := ⟨RJx4a65c, "grow", "(I)[Ljava/lang/Object;"⟩
abbrev cJx4a65c_grow_d5877 : ByteArray := prog_25_method_7_code
def yJx4a65c_grow_d5877 : MethodName := ⟨RJx4a65c, "grow", "()[Ljava/lang/Object;"⟩
abbrev cJx4a65c_size_8abf5 : ByteArray := prog_25_method_8_code
def yJx4a65c_size_8abf5 : MethodName := ⟨RJx4a65c, "size", "()I"⟩
abbrev cJx4a65c_isEmpty_aae02 : ByteArray := prog_25_method_9_code
def yJx4a65c_isEmpty_aae02 : MethodName := ⟨RJx4a65c, "isEmpty", "()Z"⟩
abbrev cJx4a65c_elementData_915e3 : ByteArray := prog_25_method_18_code
def yJx4a65c_elementData_915e3 : MethodName := ⟨RJx4a65c, "elementData", "(I)Ljava/lang/Object;"⟩
abbrev cJx4a65c_get_915e3 : ByteArray := prog_25_method_20_code
def yJx4a65c_get_915e3 : MethodName := ⟨RJx4a65c, "get", "(I)Ljava/lang/Object;"⟩
abbrev cJx4a65c_add_72be8 : ByteArray := prog_25_method_24_code
def yJx4a65c_add_72be8 : MethodName := ⟨RJx4a65c, "add", "(Ljava/lang/Object;[Ljava/lang/Object;I)V"⟩
abbrev cJx4a65c_add_9ea2d : ByteArray := prog_25_method_25_code
def yJx4a65c_add_9ea2d : MethodName := ⟨RJx4a65c, "add", "(Ljava/lang/Object;)Z"⟩
abbrev cJx4a65c_clear_da8c8 : ByteArray := prog_25_method_40_code
def yJx4a65c_clear_da8c8 : MethodName := ⟨RJx4a65c, "clear", "()V"⟩
def RJ7 : String := "java/util/Arrays"
def TJ7 : u_T := fun k => match k with
  | _ => ("", "", "", false)
def tyJ7 : Nat → FieldType := fun k => match k with
  | _ => .int
abbrev wsJ70 : List Cond := u_ws RJ7 TJ7 0
theorem nmJ7 : ∀ a, a < 0 → ∀ b, b < 0 → a ≠ b → (TJ7 a).2.1 ≠ (TJ7 b).2.1 := by decide +kernel
theorem tyJ7_ok : ∀ k, k < 0 → parseFieldDescriptor (TJ7 k).2.2.1 = some (tyJ7 k) := by decide +kernel
abbrev cJ7_copyOf_1904c : ByteArray := prog_26_method_119_code
def yJ7_copyOf_1904c : MethodName := ⟨RJ7, "copyOf", "([Ljava/lang/Object;I)[Ljava/lang/Object;"⟩
abbrev cJ7_copyOf_6403c : ByteArray := prog_26_method_120_code
def yJ7_copyOf_6403c : MethodName := ⟨RJ7, "copyOf", "([Ljava/lang/Object;ILjava/lang/Class;)[Ljava/lang/Object;"⟩
def RJx5ef63 : String := "java/util/Collection"
def TJx5ef63 : u_T := fun k => match k with
  | _ => ("", "", "", false)
def tyJx5ef63 : Nat → FieldType := fun k => match k with
  | _ => .int
abbrev wsJx5ef630 : List Cond := u_ws RJx5ef63 TJx5ef63 0
theorem nmJx5ef63 : ∀ a, a < 0 → ∀ b, b < 0 → a ≠ b → (TJx5ef63 a).2.1 ≠ (TJx5ef63 b).2.1 := by decide +kernel
theorem tyJx5ef63_ok : ∀ k, k < 0 → parseFieldDescriptor (TJx5ef63 k).2.2.1 = some (tyJx5ef63 k) := by decide +kernel
def RJxbd725 : String := "java/util/List"
def TJxbd725 : u_T := fun k => match k with
  | _ => ("", "", "", false)
def tyJxbd725 : Nat → FieldType := fun k => match k with
  | _ => .int
abbrev wsJxbd7250 : List Cond := u_ws RJxbd725 TJxbd725 0
theorem nmJxbd725 : ∀ a, a < 0 → ∀ b, b < 0 → a ≠ b → (TJxbd725 a).2.1 ≠ (TJxbd725 b).2.1 := by decide +kernel
theorem tyJxbd725_ok : ∀ k, k < 0 → parseFieldDescriptor (TJxbd725 k).2.2.1 = some (tyJxbd725 k) := by decide +kernel
def RJ15 : String := "java/util/Objects"
def TJ15 : u_T := fun k => match k with
  | _ => ("", "", "", false)
def tyJ15 : Nat → FieldType := fun k => match k with
  | _ => .int
abbrev wsJ150 : List Cond := u_ws RJ15 TJ15 0
theorem nmJ15 : ∀ a, a < 0 → ∀ b, b < 0 → a ≠ b → (TJ15 a).2.1 ≠ (TJ15 b).2.1 := by decide +kernel
theorem tyJ15_ok : ∀ k, k < 0 → parseFieldDescriptor (TJ15 k).2.2.1 = some (tyJ15 k) := by decide +kernel
abbrev cJ15_checkIndex_7cf53 : ByteArray := prog_29_method_17_code
def yJ15_checkIndex_7cf53 : MethodName := ⟨RJ15, "checkIndex", "(II)I"⟩
def RJxf0a74 : String := "java/util/RandomAccess"
def TJxf0a74 : u_T := fun k => match k with
  | _ => ("", "", "", false)
def tyJxf0a74 : Nat → FieldType := fun k => match k with
  | _ => .int
abbrev wsJxf0a740 : List Cond := u_ws RJxf0a74 TJxf0a74 0
theorem nmJxf0a74 : ∀ a, a < 0 → ∀ b, b < 0 → a ≠ b → (TJxf0a74 a).2.1 ≠ (TJxf0a74 b).2.1 := by decide +kernel
theorem tyJxf0a74_ok : ∀ k, k < 0 → parseFieldDescriptor (TJxf0a74 k).2.2.1 = some (tyJxf0a74 k) := by decide +kernel
def RJxa66e6 : String := "java/util/SequencedCollection"
def TJxa66e6 : u_T := fun k => match k with
  | _ => ("", "", "", false)
def tyJxa66e6 : Nat → FieldType := fun k => match k with
  | _ => .int
abbrev wsJxa66e60 : List Cond := u_ws RJxa66e6 TJxa66e6 0
theorem nmJxa66e6 : ∀ a, a < 0 → ∀ b, b < 0 → a ≠ b → (TJxa66e6 a).2.1 ≠ (TJxa66e6 b).2.1 := by decide +kernel
theorem tyJxa66e6_ok : ∀ k, k < 0 → parseFieldDescriptor (TJxa66e6 k).2.2.1 = some (tyJxa66e6 k) := by decide +kernel
def RJ8 : String := "jdk/internal/util/ArraysSupport"
def TJ8 : u_T := fun k => match k with
  | _ => ("", "", "", false)
def tyJ8 : Nat → FieldType := fun k => match k with
  | _ => .int
abbrev wsJ80 : List Cond := u_ws RJ8 TJ8 0
theorem nmJ8 : ∀ a, a < 0 → ∀ b, b < 0 → a ≠ b → (TJ8 a).2.1 ≠ (TJ8 b).2.1 := by decide +kernel
theorem tyJ8_ok : ∀ k, k < 0 → parseFieldDescriptor (TJ8 k).2.2.1 = some (tyJ8 k) := by decide +kernel
abbrev cJ8_newLength_cabcc : ByteArray := prog_32_method_27_code
def yJ8_newLength_cabcc : MethodName := ⟨RJ8, "newLength", "(III)I"⟩
abbrev cJ8_hugeLength_7cf53 : ByteArray := prog_32_method_28_code
def yJ8_hugeLength_7cf53 : MethodName := ⟨RJ8, "hugeLength", "(II)I"⟩
def RJ3 : String := "jdk/internal/util/Preconditions"
def TJ3 : u_T := fun k => match k with
  | _ => ("", "", "", false)
def tyJ3 : Nat → FieldType := fun k => match k with
  | _ => .int
abbrev wsJ30 : List Cond := u_ws RJ3 TJ3 0
theorem nmJ3 : ∀ a, a < 0 → ∀ b, b < 0 → a ≠ b → (TJ3 a).2.1 ≠ (TJ3 b).2.1 := by decide +kernel
theorem tyJ3_ok : ∀ k, k < 0 → parseFieldDescriptor (TJ3 k).2.2.1 = some (tyJ3 k) := by decide +kernel
abbrev cJ3_checkIndex_8e157 : ByteArray := prog_33_method_11_code
def yJ3_checkIndex_8e157 : MethodName := ⟨RJ3, "checkIndex", "(IILjava/util/function/BiFunction;)I"⟩
def RL : String := "ColourPartsLaw"
abbrev cL_cell : ByteArray := method_2_code
def yL_cell : MethodName := ⟨RL, "cell", "([II)I"⟩
abbrev cL_shape : ByteArray := method_3_code
def yL_shape : MethodName := ⟨RL, "shape", "(LColourParts;[J)I"⟩
abbrev cL_corner : ByteArray := method_4_code
def yL_corner : MethodName := ⟨RL, "corner", "(LColourParts;IJJ[J)I"⟩
abbrev cL_near : ByteArray := method_5_code
def yL_near : MethodName := ⟨RL, "near", "(LColourParts;[J)I"⟩
abbrev cL_run : ByteArray := method_6_code
def yL_run : MethodName := ⟨RL, "run", "(LColourParts;IJ[J)I"⟩
abbrev cL_colour : ByteArray := method_7_code
def yL_colour : MethodName := ⟨RL, "colour", "(LColourParts;I[J)I"⟩
abbrev cL_ring : ByteArray := method_8_code
def yL_ring : MethodName := ⟨RL, "ring", "(LColourParts;I[J)I"⟩
abbrev cL_pre : ByteArray := method_9_code
def yL_pre : MethodName := ⟨RL, "pre", "(LColourParts;II[J)I"⟩
abbrev cL_stitch : ByteArray := method_10_code
def yL_stitch : MethodName := ⟨RL, "stitch", "(LColourParts;IJZ[J)I"⟩
abbrev cL_used : ByteArray := method_11_code
def yL_used : MethodName := ⟨RL, "used", "(LColourParts;II[J)I"⟩
abbrev cL_balance : ByteArray := method_12_code
def yL_balance : MethodName := ⟨RL, "balance", "(LColourParts;II[J)I"⟩
abbrev cL_pair : ByteArray := method_13_code
def yL_pair : MethodName := ⟨RL, "pair", "(LColourParts;II[J)I"⟩
abbrev cL_law : ByteArray := code
def yL_law : MethodName := ⟨RL, "law", "([I)Z"⟩
def wsX0_init : List Cond := .code yX0_init cX0_init 9 none :: ([.methodLink RX0 1 objectInit, .instanceMethod objectInit, .code objectInit ⟨#[0xb1]⟩ 1 none, .fieldLink RX0 7 "ColourParts$Box" "left" "J", .fieldLink RX0 13 "ColourParts$Box" "low" "J", .fieldLink RX0 16 "ColourParts$Box" "right" "J", .fieldLink RX0 19 "ColourParts$Box" "high" "J"] ++ wsX00)
def wsX0_area : List Cond := .code yX0_area cX0_area 1 (some .long) :: ([.fieldLink RX0 16 "ColourParts$Box" "right" "J", .fieldLink RX0 7 "ColourParts$Box" "left" "J", .fieldLink RX0 19 "ColourParts$Box" "high" "J", .fieldLink RX0 13 "ColourParts$Box" "low" "J"] ++ wsX00)
def wsX0_isWithin : List Cond := .code yX0_isWithin cX0_isWithin 4 (some .boolean) :: ([.fieldLink RX0 7 "ColourParts$Box" "left" "J", .fieldLink RX0 16 "ColourParts$Box" "right" "J", .fieldLink RX0 13 "ColourParts$Box" "low" "J", .fieldLink RX0 19 "ColourParts$Box" "high" "J"] ++ wsX00)
def wsJx4a65c_size_8abf5 : List Cond := .code yJx4a65c_size_8abf5 cJx4a65c_size_8abf5 1 (some .int) :: ([.fieldLink RJx4a65c 48 "java/util/ArrayList" "size" "I"] ++ wsJx4a65c0)
def wsJ3_checkIndex_8e157 : List Cond := .code yJ3_checkIndex_8e157 cJ3_checkIndex_8e157 3 (some .int) :: ([])
def wsJ15_checkIndex_7cf53 : List Cond := .code yJ15_checkIndex_7cf53 cJ15_checkIndex_7cf53 2 (some .int) :: ([.methodLink RJ15 105 yJ3_checkIndex_8e157, .static yJ3_checkIndex_8e157, .initialized RJ3, .code yJ3_checkIndex_8e157 cJ3_checkIndex_8e157 3 (some .int)])
def wsJx4a65c_elementData_915e3 : List Cond := .code yJx4a65c_elementData_915e3 cJx4a65c_elementData_915e3 2 (some (.object "java/lang/Object")) :: ([.fieldLink RJx4a65c 9 "java/util/ArrayList" "elementData" "[Ljava/lang/Object;"] ++ wsJx4a65c0)
def wsJx4a65c_get_915e3 : List Cond := .code yJx4a65c_get_915e3 cJx4a65c_get_915e3 2 (some (.object "java/lang/Object")) :: ([.fieldLink RJx4a65c 48 "java/util/ArrayList" "size" "I", .methodLink RJx4a65c 118 yJ15_checkIndex_7cf53, .static yJ15_checkIndex_7cf53, .initialized RJ15, .code yJ15_checkIndex_7cf53 cJ15_checkIndex_7cf53 2 (some .int), .methodLink RJ15 105 yJ3_checkIndex_8e157, .static yJ3_checkIndex_8e157, .initialized RJ3, .code yJ3_checkIndex_8e157 cJ3_checkIndex_8e157 3 (some .int), .methodLink RJx4a65c 123 yJx4a65c_elementData_915e3, .instanceMethod yJx4a65c_elementData_915e3, .selects RJx4a65c yJx4a65c_elementData_915e3 yJx4a65c_elementData_915e3, .initialized RJx4a65c, .code yJx4a65c_elementData_915e3 cJx4a65c_elementData_915e3 2 (some (.object "java/lang/Object")), .fieldLink RJx4a65c 9 "java/util/ArrayList" "elementData" "[Ljava/lang/Object;"] ++ wsJx4a65c0)
def wsX0_gap : List Cond := .code yX0_gap cX0_gap 8 (some .long) :: ([.methodLink RX0 40 Lib.MathLoose.max_long.x, .static Lib.MathLoose.max_long.x, .initialized "java/lang/Math", .code Lib.MathLoose.max_long.x Lib.MathLoose.max_long.code 4 (some .long)])
def wsX0_isNearBox : List Cond := .code yX0_isNearBox cX0_isNearBox 8 (some .boolean) :: ([.fieldLink RX0 7 "ColourParts$Box" "left" "J", .fieldLink RX0 16 "ColourParts$Box" "right" "J", .fieldLink RX0 13 "ColourParts$Box" "low" "J", .fieldLink RX0 19 "ColourParts$Box" "high" "J", .methodLink RX0 36 yX0_gap, .static yX0_gap, .initialized RX0, .code yX0_gap cX0_gap 8 (some .long), .methodLink RX0 40 Lib.MathLoose.max_long.x, .static Lib.MathLoose.max_long.x, .initialized "java/lang/Math", .code Lib.MathLoose.max_long.x Lib.MathLoose.max_long.code 4 (some .long)] ++ wsX00)
def wsX0_isNearAny_r1 : List Cond := [Cond.classLink RX0 8 "ColourParts$Box", Cond.methodLink RX0 22 yJx4a65c_size_8abf5, Cond.instanceMethod yJx4a65c_size_8abf5, Cond.selects RJx4a65c yJx4a65c_size_8abf5 yJx4a65c_size_8abf5, Cond.initialized RJx4a65c, Cond.code yJx4a65c_size_8abf5 cJx4a65c_size_8abf5 1 (some .int), Cond.fieldLink RJx4a65c 48 "java/util/ArrayList" "size" "I", Cond.methodLink RX0 28 yJx4a65c_get_915e3, Cond.instanceMethod yJx4a65c_get_915e3, Cond.selects RJx4a65c yJx4a65c_get_915e3 yJx4a65c_get_915e3, Cond.code yJx4a65c_get_915e3 cJx4a65c_get_915e3 2 (some (.object "java/lang/Object")), Cond.methodLink RJx4a65c 118 yJ15_checkIndex_7cf53, Cond.static yJ15_checkIndex_7cf53, Cond.initialized RJ15, Cond.code yJ15_checkIndex_7cf53 cJ15_checkIndex_7cf53 2 (some .int), Cond.methodLink RJ15 105 yJ3_checkIndex_8e157, Cond.static yJ3_checkIndex_8e157, Cond.initialized RJ3, Cond.code yJ3_checkIndex_8e157 cJ3_checkIndex_8e157 3 (some .int), Cond.methodLink RJx4a65c 123 yJx4a65c_elementData_915e3, Cond.instanceMethod yJx4a65c_elementData_915e3, Cond.selects RJx4a65c yJx4a65c_elementData_915e3 yJx4a65c_elementData_915e3, Cond.code yJx4a65c_elementData_915e3 cJx4a65c_elementData_915e3 2 (some (.object "java/lang/Object")), Cond.fieldLink RJx4a65c 9 "java/util/ArrayList" "elementData" "[Ljava/lang/Object;"]
def wsX0_isNearAny_r2 : List Cond := [Cond.methodLink RX0 32 yX0_isNearBox, Cond.instanceMethod yX0_isNearBox, Cond.selects RX0 yX0_isNearBox yX0_isNearBox, Cond.initialized RX0, Cond.code yX0_isNearBox cX0_isNearBox 8 (some .boolean), Cond.fieldLink RX0 7 "ColourParts$Box" "left" "J", Cond.fieldLink RX0 16 "ColourParts$Box" "right" "J", Cond.fieldLink RX0 13 "ColourParts$Box" "low" "J", Cond.fieldLink RX0 19 "ColourParts$Box" "high" "J", Cond.methodLink RX0 36 yX0_gap, Cond.static yX0_gap, Cond.code yX0_gap cX0_gap 8 (some .long), Cond.methodLink RX0 40 Lib.MathLoose.max_long.x, Cond.static Lib.MathLoose.max_long.x, Cond.initialized "java/lang/Math", Cond.code Lib.MathLoose.max_long.x Lib.MathLoose.max_long.code 4 (some .long)]
def wsX0_isNearAny : List Cond := .code yX0_isNearAny cX0_isNearAny 5 (some .boolean) :: ((wsX0_isNearAny_r1 ++ wsX0_isNearAny_r2) ++ wsJx4a65c0 ++ wsX00)
def wsX3_count : List Cond := .code yX3_count cX3_count 1 (some .int) :: ([.fieldLink RX3 12 "ColourParts$Pieces" "row" "Ljava/util/ArrayList;", .methodLink RX3 18 yJx4a65c_size_8abf5, .instanceMethod yJx4a65c_size_8abf5, .selects RJx4a65c yJx4a65c_size_8abf5 yJx4a65c_size_8abf5, .initialized RJx4a65c, .code yJx4a65c_size_8abf5 cJx4a65c_size_8abf5 1 (some .int), .fieldLink RJx4a65c 48 "java/util/ArrayList" "size" "I"] ++ wsX30 ++ wsJx4a65c0)
def wsX2_areas_r1 : List Cond := [Cond.fieldLink RX2 19 "ColourParts$Piece" "boxes" "Ljava/util/ArrayList;", Cond.classLink RX2 33 "ColourParts$Box", Cond.methodLink RX2 23 yJx4a65c_size_8abf5, Cond.instanceMethod yJx4a65c_size_8abf5, Cond.selects RJx4a65c yJx4a65c_size_8abf5 yJx4a65c_size_8abf5, Cond.initialized RJx4a65c, Cond.code yJx4a65c_size_8abf5 cJx4a65c_size_8abf5 1 (some .int), Cond.fieldLink RJx4a65c 48 "java/util/ArrayList" "size" "I", Cond.methodLink RX2 29 yJx4a65c_get_915e3, Cond.instanceMethod yJx4a65c_get_915e3, Cond.selects RJx4a65c yJx4a65c_get_915e3 yJx4a65c_get_915e3, Cond.code yJx4a65c_get_915e3 cJx4a65c_get_915e3 2 (some (.object "java/lang/Object")), Cond.methodLink RJx4a65c 118 yJ15_checkIndex_7cf53, Cond.static yJ15_checkIndex_7cf53, Cond.initialized RJ15, Cond.code yJ15_checkIndex_7cf53 cJ15_checkIndex_7cf53 2 (some .int), Cond.methodLink RJ15 105 yJ3_checkIndex_8e157, Cond.static yJ3_checkIndex_8e157, Cond.initialized RJ3, Cond.code yJ3_checkIndex_8e157 cJ3_checkIndex_8e157 3 (some .int), Cond.methodLink RJx4a65c 123 yJx4a65c_elementData_915e3, Cond.instanceMethod yJx4a65c_elementData_915e3, Cond.selects RJx4a65c yJx4a65c_elementData_915e3 yJx4a65c_elementData_915e3, Cond.code yJx4a65c_elementData_915e3 cJx4a65c_elementData_915e3 2 (some (.object "java/lang/Object"))]
def wsX2_areas_r2 : List Cond := [Cond.fieldLink RJx4a65c 9 "java/util/ArrayList" "elementData" "[Ljava/lang/Object;", Cond.methodLink RX2 35 yX0_area, Cond.instanceMethod yX0_area, Cond.selects RX0 yX0_area yX0_area, Cond.initialized RX0, Cond.code yX0_area cX0_area 1 (some .long), Cond.fieldLink RX0 16 "ColourParts$Box" "right" "J", Cond.fieldLink RX0 7 "ColourParts$Box" "left" "J", Cond.fieldLink RX0 19 "ColourParts$Box" "high" "J", Cond.fieldLink RX0 13 "ColourParts$Box" "low" "J"]
def wsX2_areas : List Cond := .code yX2_areas cX2_areas 4 (some .long) :: ((wsX2_areas_r1 ++ wsX2_areas_r2) ++ wsX20 ++ wsJx4a65c0 ++ wsX00)
def wsX3_areas_r1 : List Cond := [Cond.fieldLink RX3 12 "ColourParts$Pieces" "row" "Ljava/util/ArrayList;", Cond.classLink RX3 22 "ColourParts$Piece", Cond.methodLink RX3 18 yJx4a65c_size_8abf5, Cond.instanceMethod yJx4a65c_size_8abf5, Cond.selects RJx4a65c yJx4a65c_size_8abf5 yJx4a65c_size_8abf5, Cond.initialized RJx4a65c, Cond.code yJx4a65c_size_8abf5 cJx4a65c_size_8abf5 1 (some .int), Cond.fieldLink RJx4a65c 48 "java/util/ArrayList" "size" "I", Cond.methodLink RX3 31 yJx4a65c_get_915e3, Cond.instanceMethod yJx4a65c_get_915e3, Cond.selects RJx4a65c yJx4a65c_get_915e3 yJx4a65c_get_915e3, Cond.code yJx4a65c_get_915e3 cJx4a65c_get_915e3 2 (some (.object "java/lang/Object")), Cond.methodLink RJx4a65c 118 yJ15_checkIndex_7cf53, Cond.static yJ15_checkIndex_7cf53, Cond.initialized RJ15, Cond.code yJ15_checkIndex_7cf53 cJ15_checkIndex_7cf53 2 (some .int), Cond.methodLink RJ15 105 yJ3_checkIndex_8e157, Cond.static yJ3_checkIndex_8e157, Cond.initialized RJ3, Cond.code yJ3_checkIndex_8e157 cJ3_checkIndex_8e157 3 (some .int), Cond.methodLink RJx4a65c 123 yJx4a65c_elementData_915e3, Cond.instanceMethod yJx4a65c_elementData_915e3, Cond.selects RJx4a65c yJx4a65c_elementData_915e3 yJx4a65c_elementData_915e3, Cond.code yJx4a65c_elementData_915e3 cJx4a65c_elementData_915e3 2 (some (.object "java/lang/Object"))]
def wsX3_areas_r2 : List Cond := [Cond.fieldLink RJx4a65c 9 "java/util/ArrayList" "elementData" "[Ljava/lang/Object;", Cond.methodLink RX3 45 yX2_areas, Cond.instanceMethod yX2_areas, Cond.selects RX2 yX2_areas yX2_areas, Cond.initialized RX2, Cond.code yX2_areas cX2_areas 4 (some .long), Cond.fieldLink RX2 19 "ColourParts$Piece" "boxes" "Ljava/util/ArrayList;", Cond.classLink RX2 33 "ColourParts$Box", Cond.methodLink RX2 23 yJx4a65c_size_8abf5, Cond.methodLink RX2 29 yJx4a65c_get_915e3, Cond.methodLink RX2 35 yX0_area, Cond.instanceMethod yX0_area, Cond.selects RX0 yX0_area yX0_area, Cond.initialized RX0, Cond.code yX0_area cX0_area 1 (some .long), Cond.fieldLink RX0 16 "ColourParts$Box" "right" "J", Cond.fieldLink RX0 7 "ColourParts$Box" "left" "J", Cond.fieldLink RX0 19 "ColourParts$Box" "high" "J", Cond.fieldLink RX0 13 "ColourParts$Box" "low" "J"]
def wsX3_areas : List Cond := .code yX3_areas cX3_areas 2 (some .long) :: ((wsX3_areas_r1 ++ wsX3_areas_r2) ++ wsX30 ++ wsJx4a65c0 ++ wsX20 ++ wsX00)
def wsX1_weigh : List Cond := .code yX1_weigh cX1_weigh 4 none :: ([.fieldLink RX1 21 "ColourParts$Colouring" "pieceCounts" "[I", .fieldLink RX1 24 "ColourParts$Colouring" "areas" "[J"] ++ wsX10)
def wsX3_owner_r1 : List Cond := [Cond.fieldLink RX3 12 "ColourParts$Pieces" "row" "Ljava/util/ArrayList;", Cond.classLink RX3 22 "ColourParts$Piece", Cond.fieldLink RX3 35 "ColourParts$Piece" "owner" "I", Cond.methodLink RX3 18 yJx4a65c_size_8abf5, Cond.instanceMethod yJx4a65c_size_8abf5, Cond.selects RJx4a65c yJx4a65c_size_8abf5 yJx4a65c_size_8abf5, Cond.initialized RJx4a65c, Cond.code yJx4a65c_size_8abf5 cJx4a65c_size_8abf5 1 (some .int), Cond.fieldLink RJx4a65c 48 "java/util/ArrayList" "size" "I", Cond.methodLink RX3 31 yJx4a65c_get_915e3, Cond.instanceMethod yJx4a65c_get_915e3, Cond.selects RJx4a65c yJx4a65c_get_915e3 yJx4a65c_get_915e3, Cond.code yJx4a65c_get_915e3 cJx4a65c_get_915e3 2 (some (.object "java/lang/Object")), Cond.methodLink RJx4a65c 118 yJ15_checkIndex_7cf53, Cond.static yJ15_checkIndex_7cf53, Cond.initialized RJ15, Cond.code yJ15_checkIndex_7cf53 cJ15_checkIndex_7cf53 2 (some .int), Cond.methodLink RJ15 105 yJ3_checkIndex_8e157, Cond.static yJ3_checkIndex_8e157, Cond.initialized RJ3, Cond.code yJ3_checkIndex_8e157 cJ3_checkIndex_8e157 3 (some .int), Cond.methodLink RJx4a65c 123 yJx4a65c_elementData_915e3, Cond.instanceMethod yJx4a65c_elementData_915e3, Cond.selects RJx4a65c yJx4a65c_elementData_915e3 yJx4a65c_elementData_915e3]
def wsX3_owner_r2 : List Cond := [Cond.code yJx4a65c_elementData_915e3 cJx4a65c_elementData_915e3 2 (some (.object "java/lang/Object")), Cond.fieldLink RJx4a65c 9 "java/util/ArrayList" "elementData" "[Ljava/lang/Object;"]
def wsX3_owner : List Cond := .code yX3_owner cX3_owner 2 (some .int) :: ((wsX3_owner_r1 ++ wsX3_owner_r2) ++ wsX30 ++ wsX20 ++ wsJx4a65c0)
def wsX3_isAfterStitch_r1 : List Cond := [Cond.methodLink RX3 49 yX3_owner, Cond.instanceMethod yX3_owner, Cond.selects RX3 yX3_owner yX3_owner, Cond.initialized RX3, Cond.code yX3_owner cX3_owner 2 (some .int), Cond.fieldLink RX3 12 "ColourParts$Pieces" "row" "Ljava/util/ArrayList;", Cond.classLink RX3 22 "ColourParts$Piece", Cond.fieldLink RX3 35 "ColourParts$Piece" "owner" "I", Cond.methodLink RX3 18 yJx4a65c_size_8abf5, Cond.instanceMethod yJx4a65c_size_8abf5, Cond.selects RJx4a65c yJx4a65c_size_8abf5 yJx4a65c_size_8abf5, Cond.initialized RJx4a65c, Cond.code yJx4a65c_size_8abf5 cJx4a65c_size_8abf5 1 (some .int), Cond.fieldLink RJx4a65c 48 "java/util/ArrayList" "size" "I", Cond.methodLink RX3 31 yJx4a65c_get_915e3, Cond.instanceMethod yJx4a65c_get_915e3, Cond.selects RJx4a65c yJx4a65c_get_915e3 yJx4a65c_get_915e3, Cond.code yJx4a65c_get_915e3 cJx4a65c_get_915e3 2 (some (.object "java/lang/Object")), Cond.methodLink RJx4a65c 118 yJ15_checkIndex_7cf53, Cond.static yJ15_checkIndex_7cf53, Cond.initialized RJ15, Cond.code yJ15_checkIndex_7cf53 cJ15_checkIndex_7cf53 2 (some .int), Cond.methodLink RJ15 105 yJ3_checkIndex_8e157, Cond.static yJ3_checkIndex_8e157]
def wsX3_isAfterStitch_r2 : List Cond := [Cond.initialized RJ3, Cond.code yJ3_checkIndex_8e157 cJ3_checkIndex_8e157 3 (some .int), Cond.methodLink RJx4a65c 123 yJx4a65c_elementData_915e3, Cond.instanceMethod yJx4a65c_elementData_915e3, Cond.selects RJx4a65c yJx4a65c_elementData_915e3 yJx4a65c_elementData_915e3, Cond.code yJx4a65c_elementData_915e3 cJx4a65c_elementData_915e3 2 (some (.object "java/lang/Object")), Cond.fieldLink RJx4a65c 9 "java/util/ArrayList" "elementData" "[Ljava/lang/Object;"]
def wsX3_isAfterStitch : List Cond := .code yX3_isAfterStitch cX3_isAfterStitch 2 (some .boolean) :: ((wsX3_isAfterStitch_r1 ++ wsX3_isAfterStitch_r2) ++ wsX30 ++ wsX20 ++ wsJx4a65c0)
def wsX1_noteStitch : List Cond := .code yX1_noteStitch cX1_noteStitch 3 none :: ([.fieldLink RX1 18 "ColourParts$Colouring" "usedStitches" "[I", .fieldLink RX1 15 "ColourParts$Colouring" "stitchCounts" "[I"] ++ wsX10)
def wsX1_noteFirst : List Cond := .code yX1_noteFirst cX1_noteFirst 3 none :: ([.fieldLink RX1 9 "ColourParts$Colouring" "firstColours" "[I"] ++ wsX10)
def wsX1_init_r1 : List Cond := [Cond.methodLink RX1 3 objectInit, Cond.instanceMethod objectInit, Cond.code objectInit ⟨#[0xb1]⟩ 1 none, Cond.arrayClass .int, Cond.fieldLink RX1 9 "ColourParts$Colouring" "firstColours" "[I", Cond.fieldLink RX1 15 "ColourParts$Colouring" "stitchCounts" "[I", Cond.fieldLink RX1 18 "ColourParts$Colouring" "usedStitches" "[I", Cond.fieldLink RX1 21 "ColourParts$Colouring" "pieceCounts" "[I", Cond.arrayClass .long, Cond.fieldLink RX1 24 "ColourParts$Colouring" "areas" "[J", Cond.fieldLink RX1 28 "ColourParts$Colouring" "usedInAll" "I", Cond.methodLink RX1 32 yX3_count, Cond.instanceMethod yX3_count, Cond.selects RX3 yX3_count yX3_count, Cond.initialized RX3, Cond.code yX3_count cX3_count 1 (some .int), Cond.fieldLink RX3 12 "ColourParts$Pieces" "row" "Ljava/util/ArrayList;", Cond.methodLink RX3 18 yJx4a65c_size_8abf5, Cond.instanceMethod yJx4a65c_size_8abf5, Cond.selects RJx4a65c yJx4a65c_size_8abf5 yJx4a65c_size_8abf5, Cond.initialized RJx4a65c, Cond.code yJx4a65c_size_8abf5 cJx4a65c_size_8abf5 1 (some .int), Cond.fieldLink RJx4a65c 48 "java/util/ArrayList" "size" "I", Cond.methodLink RX1 38 yX3_areas]
def wsX1_init_r2 : List Cond := [Cond.instanceMethod yX3_areas, Cond.selects RX3 yX3_areas yX3_areas, Cond.code yX3_areas cX3_areas 2 (some .long), Cond.classLink RX3 22 "ColourParts$Piece", Cond.methodLink RX3 31 yJx4a65c_get_915e3, Cond.instanceMethod yJx4a65c_get_915e3, Cond.selects RJx4a65c yJx4a65c_get_915e3 yJx4a65c_get_915e3, Cond.code yJx4a65c_get_915e3 cJx4a65c_get_915e3 2 (some (.object "java/lang/Object")), Cond.methodLink RJx4a65c 118 yJ15_checkIndex_7cf53, Cond.static yJ15_checkIndex_7cf53, Cond.initialized RJ15, Cond.code yJ15_checkIndex_7cf53 cJ15_checkIndex_7cf53 2 (some .int), Cond.methodLink RJ15 105 yJ3_checkIndex_8e157, Cond.static yJ3_checkIndex_8e157, Cond.initialized RJ3, Cond.code yJ3_checkIndex_8e157 cJ3_checkIndex_8e157 3 (some .int), Cond.methodLink RJx4a65c 123 yJx4a65c_elementData_915e3, Cond.instanceMethod yJx4a65c_elementData_915e3, Cond.selects RJx4a65c yJx4a65c_elementData_915e3 yJx4a65c_elementData_915e3, Cond.code yJx4a65c_elementData_915e3 cJx4a65c_elementData_915e3 2 (some (.object "java/lang/Object")), Cond.fieldLink RJx4a65c 9 "java/util/ArrayList" "elementData" "[Ljava/lang/Object;", Cond.methodLink RX3 45 yX2_areas, Cond.instanceMethod yX2_areas, Cond.selects RX2 yX2_areas yX2_areas]
def wsX1_init_r3 : List Cond := [Cond.initialized RX2, Cond.code yX2_areas cX2_areas 4 (some .long), Cond.fieldLink RX2 19 "ColourParts$Piece" "boxes" "Ljava/util/ArrayList;", Cond.classLink RX2 33 "ColourParts$Box", Cond.methodLink RX2 23 yJx4a65c_size_8abf5, Cond.methodLink RX2 29 yJx4a65c_get_915e3, Cond.methodLink RX2 35 yX0_area, Cond.instanceMethod yX0_area, Cond.selects RX0 yX0_area yX0_area, Cond.initialized RX0, Cond.code yX0_area cX0_area 1 (some .long), Cond.fieldLink RX0 16 "ColourParts$Box" "right" "J", Cond.fieldLink RX0 7 "ColourParts$Box" "left" "J", Cond.fieldLink RX0 19 "ColourParts$Box" "high" "J", Cond.fieldLink RX0 13 "ColourParts$Box" "low" "J", Cond.methodLink RX1 41 yX1_weigh, Cond.instanceMethod yX1_weigh, Cond.selects RX1 yX1_weigh yX1_weigh, Cond.initialized RX1, Cond.code yX1_weigh cX1_weigh 4 none, Cond.methodLink RX1 45 yX3_isAfterStitch, Cond.instanceMethod yX3_isAfterStitch, Cond.selects RX3 yX3_isAfterStitch yX3_isAfterStitch, Cond.code yX3_isAfterStitch cX3_isAfterStitch 2 (some .boolean)]
def wsX1_init_r4 : List Cond := [Cond.methodLink RX3 49 yX3_owner, Cond.instanceMethod yX3_owner, Cond.selects RX3 yX3_owner yX3_owner, Cond.code yX3_owner cX3_owner 2 (some .int), Cond.fieldLink RX3 35 "ColourParts$Piece" "owner" "I", Cond.methodLink RX1 49 yX3_owner, Cond.methodLink RX1 53 yX1_noteStitch, Cond.instanceMethod yX1_noteStitch, Cond.selects RX1 yX1_noteStitch yX1_noteStitch, Cond.code yX1_noteStitch cX1_noteStitch 3 none, Cond.methodLink RX1 57 yX1_noteFirst, Cond.instanceMethod yX1_noteFirst, Cond.selects RX1 yX1_noteFirst yX1_noteFirst, Cond.code yX1_noteFirst cX1_noteFirst 3 none]
def wsX1_init : List Cond := .code yX1_init cX1_init 5 none :: ((wsX1_init_r1 ++ (wsX1_init_r2 ++ (wsX1_init_r3 ++ wsX1_init_r4))) ++ wsX10 ++ wsX30 ++ wsJx4a65c0 ++ wsX20 ++ wsX00)
def wsX2_init : List Cond := .code yX2_init cX2_init 4 none :: ([.methodLink RX2 1 objectInit, .instanceMethod objectInit, .code objectInit ⟨#[0xb1]⟩ 1 none, .fieldLink RX2 7 "ColourParts$Piece" "nearPieces" "I", .fieldLink RX2 13 "ColourParts$Piece" "owner" "I", .fieldLink RX2 16 "ColourParts$Piece" "told" "I", .fieldLink RX2 19 "ColourParts$Piece" "boxes" "Ljava/util/ArrayList;"] ++ wsX20)
def wsX2_isNearPiece_r1 : List Cond := [Cond.fieldLink RX2 19 "ColourParts$Piece" "boxes" "Ljava/util/ArrayList;", Cond.classLink RX2 33 "ColourParts$Box", Cond.methodLink RX2 23 yJx4a65c_size_8abf5, Cond.instanceMethod yJx4a65c_size_8abf5, Cond.selects RJx4a65c yJx4a65c_size_8abf5 yJx4a65c_size_8abf5, Cond.initialized RJx4a65c, Cond.code yJx4a65c_size_8abf5 cJx4a65c_size_8abf5 1 (some .int), Cond.fieldLink RJx4a65c 48 "java/util/ArrayList" "size" "I", Cond.methodLink RX2 29 yJx4a65c_get_915e3, Cond.instanceMethod yJx4a65c_get_915e3, Cond.selects RJx4a65c yJx4a65c_get_915e3 yJx4a65c_get_915e3, Cond.code yJx4a65c_get_915e3 cJx4a65c_get_915e3 2 (some (.object "java/lang/Object")), Cond.methodLink RJx4a65c 118 yJ15_checkIndex_7cf53, Cond.static yJ15_checkIndex_7cf53, Cond.initialized RJ15, Cond.code yJ15_checkIndex_7cf53 cJ15_checkIndex_7cf53 2 (some .int), Cond.methodLink RJ15 105 yJ3_checkIndex_8e157, Cond.static yJ3_checkIndex_8e157, Cond.initialized RJ3, Cond.code yJ3_checkIndex_8e157 cJ3_checkIndex_8e157 3 (some .int), Cond.methodLink RJx4a65c 123 yJx4a65c_elementData_915e3, Cond.instanceMethod yJx4a65c_elementData_915e3, Cond.selects RJx4a65c yJx4a65c_elementData_915e3 yJx4a65c_elementData_915e3, Cond.code yJx4a65c_elementData_915e3 cJx4a65c_elementData_915e3 2 (some (.object "java/lang/Object"))]
def wsX2_isNearPiece_r2 : List Cond := [Cond.fieldLink RJx4a65c 9 "java/util/ArrayList" "elementData" "[Ljava/lang/Object;", Cond.methodLink RX2 39 yX0_isNearAny, Cond.instanceMethod yX0_isNearAny, Cond.selects RX0 yX0_isNearAny yX0_isNearAny, Cond.initialized RX0, Cond.code yX0_isNearAny cX0_isNearAny 5 (some .boolean), Cond.classLink RX0 8 "ColourParts$Box", Cond.methodLink RX0 22 yJx4a65c_size_8abf5, Cond.methodLink RX0 28 yJx4a65c_get_915e3, Cond.methodLink RX0 32 yX0_isNearBox, Cond.instanceMethod yX0_isNearBox, Cond.selects RX0 yX0_isNearBox yX0_isNearBox, Cond.code yX0_isNearBox cX0_isNearBox 8 (some .boolean), Cond.fieldLink RX0 7 "ColourParts$Box" "left" "J", Cond.fieldLink RX0 16 "ColourParts$Box" "right" "J", Cond.fieldLink RX0 13 "ColourParts$Box" "low" "J", Cond.fieldLink RX0 19 "ColourParts$Box" "high" "J", Cond.methodLink RX0 36 yX0_gap, Cond.static yX0_gap, Cond.code yX0_gap cX0_gap 8 (some .long), Cond.methodLink RX0 40 Lib.MathLoose.max_long.x, Cond.static Lib.MathLoose.max_long.x, Cond.initialized "java/lang/Math", Cond.code Lib.MathLoose.max_long.x Lib.MathLoose.max_long.code 4 (some .long)]
def wsX2_isNearPiece : List Cond := .code yX2_isNearPiece cX2_isNearPiece 5 (some .boolean) :: ((wsX2_isNearPiece_r1 ++ wsX2_isNearPiece_r2) ++ wsX20 ++ wsJx4a65c0 ++ wsX00)
def wsJxa1e45_init_da8c8 : List Cond := .code yJxa1e45_init_da8c8 cJxa1e45_init_da8c8 1 none :: ([.methodLink RJxa1e45 1 objectInit, .instanceMethod objectInit, .code objectInit ⟨#[0xb1]⟩ 1 none])
def wsJxc12de_init_da8c8 : List Cond := .code yJxc12de_init_da8c8 cJxc12de_init_da8c8 1 none :: ([.fieldLink RJxc12de 7 "java/util/AbstractList" "modCount" "I", .methodLink RJxc12de 1 yJxa1e45_init_da8c8, .instanceMethod yJxa1e45_init_da8c8, .initialized RJxa1e45, .code yJxa1e45_init_da8c8 cJxa1e45_init_da8c8 1 none, .methodLink RJxa1e45 1 objectInit, .instanceMethod objectInit, .code objectInit ⟨#[0xb1]⟩ 1 none] ++ wsJx4a65c0)
def wsJx4a65c_init_da8c8 : List Cond := .code yJx4a65c_init_da8c8 cJx4a65c_init_da8c8 1 none :: ([.fieldLink RJx4a65c 39 "java/util/ArrayList" "DEFAULTCAPACITY_EMPTY_ELEMENTDATA" "[Ljava/lang/Object;", .fieldLink RJx4a65c 9 "java/util/ArrayList" "elementData" "[Ljava/lang/Object;", .methodLink RJx4a65c 1 yJxc12de_init_da8c8, .instanceMethod yJxc12de_init_da8c8, .initialized RJxc12de, .code yJxc12de_init_da8c8 cJxc12de_init_da8c8 1 none, .fieldLink RJxc12de 7 "java/util/AbstractList" "modCount" "I", .methodLink RJxc12de 1 yJxa1e45_init_da8c8, .instanceMethod yJxa1e45_init_da8c8, .initialized RJxa1e45, .code yJxa1e45_init_da8c8 cJxa1e45_init_da8c8 1 none, .methodLink RJxa1e45 1 objectInit, .instanceMethod objectInit, .code objectInit ⟨#[0xb1]⟩ 1 none] ++ wsJx4a65c0)
def wsX3_init : List Cond := .code yX3_init cX3_init 1 none :: ([.methodLink RX3 3 objectInit, .instanceMethod objectInit, .code objectInit ⟨#[0xb1]⟩ 1 none, .classLink RX3 9 RJx4a65c, .instantiable RJx4a65c 3, .initialized RJx4a65c, .fieldLink RX3 12 "ColourParts$Pieces" "row" "Ljava/util/ArrayList;", .methodLink RX3 11 yJx4a65c_init_da8c8, .instanceMethod yJx4a65c_init_da8c8, .code yJx4a65c_init_da8c8 cJx4a65c_init_da8c8 1 none, .fieldLink RJx4a65c 39 "java/util/ArrayList" "DEFAULTCAPACITY_EMPTY_ELEMENTDATA" "[Ljava/lang/Object;", .fieldLink RJx4a65c 9 "java/util/ArrayList" "elementData" "[Ljava/lang/Object;", .methodLink RJx4a65c 1 yJxc12de_init_da8c8, .instanceMethod yJxc12de_init_da8c8, .initialized RJxc12de, .code yJxc12de_init_da8c8 cJxc12de_init_da8c8 1 none, .fieldLink RJxc12de 7 "java/util/AbstractList" "modCount" "I", .methodLink RJxc12de 1 yJxa1e45_init_da8c8, .instanceMethod yJxa1e45_init_da8c8, .initialized RJxa1e45, .code yJxa1e45_init_da8c8 cJxa1e45_init_da8c8 1 none, .methodLink RJxa1e45 1 objectInit] ++ wsJx4a65c0 ++ wsX30)
def wsJ8_hugeLength_7cf53 : List Cond := .code yJ8_hugeLength_7cf53 cJ8_hugeLength_7cf53 3 (some .int) :: ([.constant RJ8 200 (2147483639)])
def wsJ8_newLength_cabcc : List Cond := .code yJ8_newLength_cabcc cJ8_newLength_cabcc 4 (some .int) :: ([.methodLink RJ8 194 Lib.Math.max.name, .static Lib.Math.max.name, .initialized "java/lang/Math", .code Lib.Math.max.name Lib.Math.max.code 2 (some .int), .constant RJ8 200 (2147483639), .methodLink RJ8 201 yJ8_hugeLength_7cf53, .static yJ8_hugeLength_7cf53, .initialized RJ8, .code yJ8_hugeLength_7cf53 cJ8_hugeLength_7cf53 3 (some .int)])
def wsJ7_copyOf_6403c : List Cond := .code yJ7_copyOf_6403c cJ7_copyOf_6403c 4 (some (.array (.object "java/lang/Object"))) :: ([.classLink RJ7 110 "[Ljava/lang/Object;", .classLink RJ7 2 "java/lang/Object", .methodLink RJ7 304 Lib.Math.min.name, .static Lib.Math.min.name, .initialized "java/lang/Math", .code Lib.Math.min.name Lib.Math.min.code 2 (some .int), .methodLink RJ7 150 arraycopyName, .native arraycopyName, .static arraycopyName, .initialized "java/lang/System"])
def wsJ7_copyOf_1904c : List Cond := .code yJ7_copyOf_1904c cJ7_copyOf_1904c 2 (some (.array (.object "java/lang/Object"))) :: ([.methodLink RJ7 86 ⟨"java/lang/Object", "getClass", "()Ljava/lang/Class;"⟩, .selects "[Ljava/lang/Object;" ⟨"java/lang/Object", "getClass", "()Ljava/lang/Class;"⟩ ⟨"java/lang/Object", "getClass", "()Ljava/lang/Class;"⟩, .instanceMethod ⟨"java/lang/Object", "getClass", "()Ljava/lang/Class;"⟩, .native ⟨"java/lang/Object", "getClass", "()Ljava/lang/Class;"⟩, .methodLink RJ7 300 yJ7_copyOf_6403c, .static yJ7_copyOf_6403c, .initialized RJ7, .code yJ7_copyOf_6403c cJ7_copyOf_6403c 4 (some (.array (.object "java/lang/Object"))), .classLink RJ7 110 "[Ljava/lang/Object;", .classLink RJ7 2 "java/lang/Object", .methodLink RJ7 304 Lib.Math.min.name, .static Lib.Math.min.name, .initialized "java/lang/Math", .code Lib.Math.min.name Lib.Math.min.code 2 (some .int), .methodLink RJ7 150 arraycopyName, .native arraycopyName, .static arraycopyName, .initialized "java/lang/System"])
def wsJx4a65c_grow_92f84_r1 : List Cond := [Cond.fieldLink RJx4a65c 9 "java/util/ArrayList" "elementData" "[Ljava/lang/Object;", Cond.fieldLink RJx4a65c 39 "java/util/ArrayList" "DEFAULTCAPACITY_EMPTY_ELEMENTDATA" "[Ljava/lang/Object;", Cond.methodLink RJx4a65c 79 Lib.Math.max.name, Cond.static Lib.Math.max.name, Cond.initialized "java/lang/Math", Cond.code Lib.Math.max.name Lib.Math.max.code 2 (some .int), Cond.classLink RJx4a65c 7 "java/lang/Object", Cond.methodLink RJx4a65c 73 yJ8_newLength_cabcc, Cond.static yJ8_newLength_cabcc, Cond.initialized RJ8, Cond.code yJ8_newLength_cabcc cJ8_newLength_cabcc 4 (some .int), Cond.methodLink RJ8 194 Lib.Math.max.name, Cond.constant RJ8 200 (2147483639), Cond.methodLink RJ8 201 yJ8_hugeLength_7cf53, Cond.static yJ8_hugeLength_7cf53, Cond.code yJ8_hugeLength_7cf53 cJ8_hugeLength_7cf53 3 (some .int), Cond.methodLink RJx4a65c 66 yJ7_copyOf_1904c, Cond.static yJ7_copyOf_1904c, Cond.initialized RJ7, Cond.code yJ7_copyOf_1904c cJ7_copyOf_1904c 2 (some (.array (.object "java/lang/Object"))), Cond.methodLink RJ7 86 ⟨"java/lang/Object", "getClass", "()Ljava/lang/Class;"⟩, Cond.selects "[Ljava/lang/Object;" ⟨"java/lang/Object", "getClass", "()Ljava/lang/Class;"⟩ ⟨"java/lang/Object", "getClass", "()Ljava/lang/Class;"⟩, Cond.instanceMethod ⟨"java/lang/Object", "getClass", "()Ljava/lang/Class;"⟩, Cond.native ⟨"java/lang/Object", "getClass", "()Ljava/lang/Class;"⟩]
def wsJx4a65c_grow_92f84_r2 : List Cond := [Cond.methodLink RJ7 300 yJ7_copyOf_6403c, Cond.static yJ7_copyOf_6403c, Cond.code yJ7_copyOf_6403c cJ7_copyOf_6403c 4 (some (.array (.object "java/lang/Object"))), Cond.classLink RJ7 110 "[Ljava/lang/Object;", Cond.classLink RJ7 2 "java/lang/Object", Cond.methodLink RJ7 304 Lib.Math.min.name, Cond.static Lib.Math.min.name, Cond.code Lib.Math.min.name Lib.Math.min.code 2 (some .int), Cond.methodLink RJ7 150 arraycopyName, Cond.native arraycopyName, Cond.static arraycopyName, Cond.initialized "java/lang/System"]
def wsJx4a65c_grow_92f84 : List Cond := .code yJx4a65c_grow_92f84 cJx4a65c_grow_92f84 4 (some (.array (.object "java/lang/Object"))) :: ((wsJx4a65c_grow_92f84_r1 ++ wsJx4a65c_grow_92f84_r2) ++ wsJx4a65c0)
def wsJx4a65c_grow_d5877_r1 : List Cond := [Cond.fieldLink RJx4a65c 48 "java/util/ArrayList" "size" "I", Cond.methodLink RJx4a65c 69 yJx4a65c_grow_92f84, Cond.instanceMethod yJx4a65c_grow_92f84, Cond.selects RJx4a65c yJx4a65c_grow_92f84 yJx4a65c_grow_92f84, Cond.initialized RJx4a65c, Cond.code yJx4a65c_grow_92f84 cJx4a65c_grow_92f84 4 (some (.array (.object "java/lang/Object"))), Cond.fieldLink RJx4a65c 9 "java/util/ArrayList" "elementData" "[Ljava/lang/Object;", Cond.fieldLink RJx4a65c 39 "java/util/ArrayList" "DEFAULTCAPACITY_EMPTY_ELEMENTDATA" "[Ljava/lang/Object;", Cond.methodLink RJx4a65c 79 Lib.Math.max.name, Cond.static Lib.Math.max.name, Cond.initialized "java/lang/Math", Cond.code Lib.Math.max.name Lib.Math.max.code 2 (some .int), Cond.classLink RJx4a65c 7 "java/lang/Object", Cond.methodLink RJx4a65c 73 yJ8_newLength_cabcc, Cond.static yJ8_newLength_cabcc, Cond.initialized RJ8, Cond.code yJ8_newLength_cabcc cJ8_newLength_cabcc 4 (some .int), Cond.methodLink RJ8 194 Lib.Math.max.name, Cond.constant RJ8 200 (2147483639), Cond.methodLink RJ8 201 yJ8_hugeLength_7cf53, Cond.static yJ8_hugeLength_7cf53, Cond.code yJ8_hugeLength_7cf53 cJ8_hugeLength_7cf53 3 (some .int), Cond.methodLink RJx4a65c 66 yJ7_copyOf_1904c, Cond.static yJ7_copyOf_1904c]
def wsJx4a65c_grow_d5877_r2 : List Cond := [Cond.initialized RJ7, Cond.code yJ7_copyOf_1904c cJ7_copyOf_1904c 2 (some (.array (.object "java/lang/Object"))), Cond.methodLink RJ7 86 ⟨"java/lang/Object", "getClass", "()Ljava/lang/Class;"⟩, Cond.selects "[Ljava/lang/Object;" ⟨"java/lang/Object", "getClass", "()Ljava/lang/Class;"⟩ ⟨"java/lang/Object", "getClass", "()Ljava/lang/Class;"⟩, Cond.instanceMethod ⟨"java/lang/Object", "getClass", "()Ljava/lang/Class;"⟩, Cond.native ⟨"java/lang/Object", "getClass", "()Ljava/lang/Class;"⟩, Cond.methodLink RJ7 300 yJ7_copyOf_6403c, Cond.static yJ7_copyOf_6403c, Cond.code yJ7_copyOf_6403c cJ7_copyOf_6403c 4 (some (.array (.object "java/lang/Object"))), Cond.classLink RJ7 110 "[Ljava/lang/Object;", Cond.classLink RJ7 2 "java/lang/Object", Cond.methodLink RJ7 304 Lib.Math.min.name, Cond.static Lib.Math.min.name, Cond.code Lib.Math.min.name Lib.Math.min.code 2 (some .int), Cond.methodLink RJ7 150 arraycopyName, Cond.native arraycopyName, Cond.static arraycopyName, Cond.initialized "java/lang/System"]
def wsJx4a65c_grow_d5877 : List Cond := .code yJx4a65c_grow_d5877 cJx4a65c_grow_d5877 1 (some (.array (.object "java/lang/Object"))) :: ((wsJx4a65c_grow_d5877_r1 ++ wsJx4a65c_grow_d5877_r2) ++ wsJx4a65c0)
def wsJx4a65c_add_72be8_r1 : List Cond := [Cond.fieldLink RJx4a65c 48 "java/util/ArrayList" "size" "I", Cond.methodLink RJx4a65c 129 yJx4a65c_grow_d5877, Cond.instanceMethod yJx4a65c_grow_d5877, Cond.selects RJx4a65c yJx4a65c_grow_d5877 yJx4a65c_grow_d5877, Cond.initialized RJx4a65c, Cond.code yJx4a65c_grow_d5877 cJx4a65c_grow_d5877 1 (some (.array (.object "java/lang/Object"))), Cond.methodLink RJx4a65c 69 yJx4a65c_grow_92f84, Cond.instanceMethod yJx4a65c_grow_92f84, Cond.selects RJx4a65c yJx4a65c_grow_92f84 yJx4a65c_grow_92f84, Cond.code yJx4a65c_grow_92f84 cJx4a65c_grow_92f84 4 (some (.array (.object "java/lang/Object"))), Cond.fieldLink RJx4a65c 9 "java/util/ArrayList" "elementData" "[Ljava/lang/Object;", Cond.fieldLink RJx4a65c 39 "java/util/ArrayList" "DEFAULTCAPACITY_EMPTY_ELEMENTDATA" "[Ljava/lang/Object;", Cond.methodLink RJx4a65c 79 Lib.Math.max.name, Cond.static Lib.Math.max.name, Cond.initialized "java/lang/Math", Cond.code Lib.Math.max.name Lib.Math.max.code 2 (some .int), Cond.classLink RJx4a65c 7 "java/lang/Object", Cond.methodLink RJx4a65c 73 yJ8_newLength_cabcc, Cond.static yJ8_newLength_cabcc, Cond.initialized RJ8, Cond.code yJ8_newLength_cabcc cJ8_newLength_cabcc 4 (some .int), Cond.methodLink RJ8 194 Lib.Math.max.name, Cond.constant RJ8 200 (2147483639), Cond.methodLink RJ8 201 yJ8_hugeLength_7cf53]
def wsJx4a65c_add_72be8_r2 : List Cond := [Cond.static yJ8_hugeLength_7cf53, Cond.code yJ8_hugeLength_7cf53 cJ8_hugeLength_7cf53 3 (some .int), Cond.methodLink RJx4a65c 66 yJ7_copyOf_1904c, Cond.static yJ7_copyOf_1904c, Cond.initialized RJ7, Cond.code yJ7_copyOf_1904c cJ7_copyOf_1904c 2 (some (.array (.object "java/lang/Object"))), Cond.methodLink RJ7 86 ⟨"java/lang/Object", "getClass", "()Ljava/lang/Class;"⟩, Cond.selects "[Ljava/lang/Object;" ⟨"java/lang/Object", "getClass", "()Ljava/lang/Class;"⟩ ⟨"java/lang/Object", "getClass", "()Ljava/lang/Class;"⟩, Cond.instanceMethod ⟨"java/lang/Object", "getClass", "()Ljava/lang/Class;"⟩, Cond.native ⟨"java/lang/Object", "getClass", "()Ljava/lang/Class;"⟩, Cond.methodLink RJ7 300 yJ7_copyOf_6403c, Cond.static yJ7_copyOf_6403c, Cond.code yJ7_copyOf_6403c cJ7_copyOf_6403c 4 (some (.array (.object "java/lang/Object"))), Cond.classLink RJ7 110 "[Ljava/lang/Object;", Cond.classLink RJ7 2 "java/lang/Object", Cond.methodLink RJ7 304 Lib.Math.min.name, Cond.static Lib.Math.min.name, Cond.code Lib.Math.min.name Lib.Math.min.code 2 (some .int), Cond.methodLink RJ7 150 arraycopyName, Cond.native arraycopyName, Cond.static arraycopyName, Cond.initialized "java/lang/System"]
def wsJx4a65c_add_72be8 : List Cond := .code yJx4a65c_add_72be8 cJx4a65c_add_72be8 4 none :: ((wsJx4a65c_add_72be8_r1 ++ wsJx4a65c_add_72be8_r2) ++ wsJx4a65c0)
def wsJx4a65c_add_9ea2d_r1 : List Cond := [Cond.fieldLink RJx4a65c 63 "java/util/ArrayList" "modCount" "I", Cond.sameField "java/util/ArrayList" "java/util/AbstractList" "modCount" "I", Cond.fieldLink RJx4a65c 9 "java/util/ArrayList" "elementData" "[Ljava/lang/Object;", Cond.fieldLink RJx4a65c 48 "java/util/ArrayList" "size" "I", Cond.methodLink RJx4a65c 131 yJx4a65c_add_72be8, Cond.instanceMethod yJx4a65c_add_72be8, Cond.selects RJx4a65c yJx4a65c_add_72be8 yJx4a65c_add_72be8, Cond.initialized RJx4a65c, Cond.code yJx4a65c_add_72be8 cJx4a65c_add_72be8 4 none, Cond.methodLink RJx4a65c 129 yJx4a65c_grow_d5877, Cond.instanceMethod yJx4a65c_grow_d5877, Cond.selects RJx4a65c yJx4a65c_grow_d5877 yJx4a65c_grow_d5877, Cond.code yJx4a65c_grow_d5877 cJx4a65c_grow_d5877 1 (some (.array (.object "java/lang/Object"))), Cond.methodLink RJx4a65c 69 yJx4a65c_grow_92f84, Cond.instanceMethod yJx4a65c_grow_92f84, Cond.selects RJx4a65c yJx4a65c_grow_92f84 yJx4a65c_grow_92f84, Cond.code yJx4a65c_grow_92f84 cJx4a65c_grow_92f84 4 (some (.array (.object "java/lang/Object"))), Cond.fieldLink RJx4a65c 39 "java/util/ArrayList" "DEFAULTCAPACITY_EMPTY_ELEMENTDATA" "[Ljava/lang/Object;", Cond.methodLink RJx4a65c 79 Lib.Math.max.name, Cond.static Lib.Math.max.name, Cond.initialized "java/lang/Math", Cond.code Lib.Math.max.name Lib.Math.max.code 2 (some .int), Cond.classLink RJx4a65c 7 "java/lang/Object", Cond.methodLink RJx4a65c 73 yJ8_newLength_cabcc]
def wsJx4a65c_add_9ea2d_r2 : List Cond := [Cond.static yJ8_newLength_cabcc, Cond.initialized RJ8, Cond.code yJ8_newLength_cabcc cJ8_newLength_cabcc 4 (some .int), Cond.methodLink RJ8 194 Lib.Math.max.name, Cond.constant RJ8 200 (2147483639), Cond.methodLink RJ8 201 yJ8_hugeLength_7cf53, Cond.static yJ8_hugeLength_7cf53, Cond.code yJ8_hugeLength_7cf53 cJ8_hugeLength_7cf53 3 (some .int), Cond.methodLink RJx4a65c 66 yJ7_copyOf_1904c, Cond.static yJ7_copyOf_1904c, Cond.initialized RJ7, Cond.code yJ7_copyOf_1904c cJ7_copyOf_1904c 2 (some (.array (.object "java/lang/Object"))), Cond.methodLink RJ7 86 ⟨"java/lang/Object", "getClass", "()Ljava/lang/Class;"⟩, Cond.selects "[Ljava/lang/Object;" ⟨"java/lang/Object", "getClass", "()Ljava/lang/Class;"⟩ ⟨"java/lang/Object", "getClass", "()Ljava/lang/Class;"⟩, Cond.instanceMethod ⟨"java/lang/Object", "getClass", "()Ljava/lang/Class;"⟩, Cond.native ⟨"java/lang/Object", "getClass", "()Ljava/lang/Class;"⟩, Cond.methodLink RJ7 300 yJ7_copyOf_6403c, Cond.static yJ7_copyOf_6403c, Cond.code yJ7_copyOf_6403c cJ7_copyOf_6403c 4 (some (.array (.object "java/lang/Object"))), Cond.classLink RJ7 110 "[Ljava/lang/Object;", Cond.classLink RJ7 2 "java/lang/Object", Cond.methodLink RJ7 304 Lib.Math.min.name, Cond.static Lib.Math.min.name, Cond.code Lib.Math.min.name Lib.Math.min.code 2 (some .int)]
def wsJx4a65c_add_9ea2d_r3 : List Cond := [Cond.methodLink RJ7 150 arraycopyName, Cond.native arraycopyName, Cond.static arraycopyName, Cond.initialized "java/lang/System"]
def wsJx4a65c_add_9ea2d : List Cond := .code yJx4a65c_add_9ea2d cJx4a65c_add_9ea2d 2 (some .boolean) :: ((wsJx4a65c_add_9ea2d_r1 ++ (wsJx4a65c_add_9ea2d_r2 ++ wsJx4a65c_add_9ea2d_r3)) ++ wsJx4a65c0)
def wsX3_add_r1 : List Cond := [Cond.fieldLink RX3 12 "ColourParts$Pieces" "row" "Ljava/util/ArrayList;", Cond.classLink RX3 22 RX2, Cond.instantiable RX2 4, Cond.initialized RX2, Cond.methodLink RX3 18 yJx4a65c_size_8abf5, Cond.instanceMethod yJx4a65c_size_8abf5, Cond.selects RJx4a65c yJx4a65c_size_8abf5 yJx4a65c_size_8abf5, Cond.initialized RJx4a65c, Cond.code yJx4a65c_size_8abf5 cJx4a65c_size_8abf5 1 (some .int), Cond.fieldLink RJx4a65c 48 "java/util/ArrayList" "size" "I", Cond.methodLink RX3 24 yX2_init, Cond.instanceMethod yX2_init, Cond.code yX2_init cX2_init 4 none, Cond.methodLink RX2 1 objectInit, Cond.instanceMethod objectInit, Cond.code objectInit ⟨#[0xb1]⟩ 1 none, Cond.fieldLink RX2 7 "ColourParts$Piece" "nearPieces" "I", Cond.fieldLink RX2 13 "ColourParts$Piece" "owner" "I", Cond.fieldLink RX2 16 "ColourParts$Piece" "told" "I", Cond.fieldLink RX2 19 "ColourParts$Piece" "boxes" "Ljava/util/ArrayList;", Cond.methodLink RX3 27 yJx4a65c_add_9ea2d, Cond.instanceMethod yJx4a65c_add_9ea2d, Cond.selects RJx4a65c yJx4a65c_add_9ea2d yJx4a65c_add_9ea2d, Cond.code yJx4a65c_add_9ea2d cJx4a65c_add_9ea2d 2 (some .boolean)]
def wsX3_add_r2 : List Cond := [Cond.fieldLink RJx4a65c 63 "java/util/ArrayList" "modCount" "I", Cond.sameField "java/util/ArrayList" "java/util/AbstractList" "modCount" "I", Cond.fieldLink RJx4a65c 9 "java/util/ArrayList" "elementData" "[Ljava/lang/Object;", Cond.methodLink RJx4a65c 131 yJx4a65c_add_72be8, Cond.instanceMethod yJx4a65c_add_72be8, Cond.selects RJx4a65c yJx4a65c_add_72be8 yJx4a65c_add_72be8, Cond.code yJx4a65c_add_72be8 cJx4a65c_add_72be8 4 none, Cond.methodLink RJx4a65c 129 yJx4a65c_grow_d5877, Cond.instanceMethod yJx4a65c_grow_d5877, Cond.selects RJx4a65c yJx4a65c_grow_d5877 yJx4a65c_grow_d5877, Cond.code yJx4a65c_grow_d5877 cJx4a65c_grow_d5877 1 (some (.array (.object "java/lang/Object"))), Cond.methodLink RJx4a65c 69 yJx4a65c_grow_92f84, Cond.instanceMethod yJx4a65c_grow_92f84, Cond.selects RJx4a65c yJx4a65c_grow_92f84 yJx4a65c_grow_92f84, Cond.code yJx4a65c_grow_92f84 cJx4a65c_grow_92f84 4 (some (.array (.object "java/lang/Object"))), Cond.fieldLink RJx4a65c 39 "java/util/ArrayList" "DEFAULTCAPACITY_EMPTY_ELEMENTDATA" "[Ljava/lang/Object;", Cond.methodLink RJx4a65c 79 Lib.Math.max.name, Cond.static Lib.Math.max.name, Cond.initialized "java/lang/Math", Cond.code Lib.Math.max.name Lib.Math.max.code 2 (some .int), Cond.classLink RJx4a65c 7 "java/lang/Object", Cond.methodLink RJx4a65c 73 yJ8_newLength_cabcc, Cond.static yJ8_newLength_cabcc, Cond.initialized RJ8]
def wsX3_add_r3 : List Cond := [Cond.code yJ8_newLength_cabcc cJ8_newLength_cabcc 4 (some .int), Cond.methodLink RJ8 194 Lib.Math.max.name, Cond.constant RJ8 200 (2147483639), Cond.methodLink RJ8 201 yJ8_hugeLength_7cf53, Cond.static yJ8_hugeLength_7cf53, Cond.code yJ8_hugeLength_7cf53 cJ8_hugeLength_7cf53 3 (some .int), Cond.methodLink RJx4a65c 66 yJ7_copyOf_1904c, Cond.static yJ7_copyOf_1904c, Cond.initialized RJ7, Cond.code yJ7_copyOf_1904c cJ7_copyOf_1904c 2 (some (.array (.object "java/lang/Object"))), Cond.methodLink RJ7 86 ⟨"java/lang/Object", "getClass", "()Ljava/lang/Class;"⟩, Cond.selects "[Ljava/lang/Object;" ⟨"java/lang/Object", "getClass", "()Ljava/lang/Class;"⟩ ⟨"java/lang/Object", "getClass", "()Ljava/lang/Class;"⟩, Cond.instanceMethod ⟨"java/lang/Object", "getClass", "()Ljava/lang/Class;"⟩, Cond.native ⟨"java/lang/Object", "getClass", "()Ljava/lang/Class;"⟩, Cond.methodLink RJ7 300 yJ7_copyOf_6403c, Cond.static yJ7_copyOf_6403c, Cond.code yJ7_copyOf_6403c cJ7_copyOf_6403c 4 (some (.array (.object "java/lang/Object"))), Cond.classLink RJ7 110 "[Ljava/lang/Object;", Cond.classLink RJ7 2 "java/lang/Object", Cond.methodLink RJ7 304 Lib.Math.min.name, Cond.static Lib.Math.min.name, Cond.code Lib.Math.min.name Lib.Math.min.code 2 (some .int), Cond.methodLink RJ7 150 arraycopyName, Cond.native arraycopyName]
def wsX3_add_r4 : List Cond := [Cond.static arraycopyName, Cond.initialized "java/lang/System"]
def wsX3_add : List Cond := .code yX3_add cX3_add 4 none :: ((wsX3_add_r1 ++ (wsX3_add_r2 ++ (wsX3_add_r3 ++ wsX3_add_r4))) ++ wsX30 ++ wsX20 ++ wsJx4a65c0)
def wsX3_told_r1 : List Cond := [Cond.fieldLink RX3 12 "ColourParts$Pieces" "row" "Ljava/util/ArrayList;", Cond.classLink RX3 22 "ColourParts$Piece", Cond.fieldLink RX3 39 "ColourParts$Piece" "told" "I", Cond.methodLink RX3 18 yJx4a65c_size_8abf5, Cond.instanceMethod yJx4a65c_size_8abf5, Cond.selects RJx4a65c yJx4a65c_size_8abf5 yJx4a65c_size_8abf5, Cond.initialized RJx4a65c, Cond.code yJx4a65c_size_8abf5 cJx4a65c_size_8abf5 1 (some .int), Cond.fieldLink RJx4a65c 48 "java/util/ArrayList" "size" "I", Cond.methodLink RX3 31 yJx4a65c_get_915e3, Cond.instanceMethod yJx4a65c_get_915e3, Cond.selects RJx4a65c yJx4a65c_get_915e3 yJx4a65c_get_915e3, Cond.code yJx4a65c_get_915e3 cJx4a65c_get_915e3 2 (some (.object "java/lang/Object")), Cond.methodLink RJx4a65c 118 yJ15_checkIndex_7cf53, Cond.static yJ15_checkIndex_7cf53, Cond.initialized RJ15, Cond.code yJ15_checkIndex_7cf53 cJ15_checkIndex_7cf53 2 (some .int), Cond.methodLink RJ15 105 yJ3_checkIndex_8e157, Cond.static yJ3_checkIndex_8e157, Cond.initialized RJ3, Cond.code yJ3_checkIndex_8e157 cJ3_checkIndex_8e157 3 (some .int), Cond.methodLink RJx4a65c 123 yJx4a65c_elementData_915e3, Cond.instanceMethod yJx4a65c_elementData_915e3, Cond.selects RJx4a65c yJx4a65c_elementData_915e3 yJx4a65c_elementData_915e3]
def wsX3_told_r2 : List Cond := [Cond.code yJx4a65c_elementData_915e3 cJx4a65c_elementData_915e3 2 (some (.object "java/lang/Object")), Cond.fieldLink RJx4a65c 9 "java/util/ArrayList" "elementData" "[Ljava/lang/Object;"]
def wsX3_told : List Cond := .code yX3_told cX3_told 2 (some .int) :: ((wsX3_told_r1 ++ wsX3_told_r2) ++ wsX30 ++ wsX20 ++ wsJx4a65c0)
def wsX3_nearPieces_r1 : List Cond := [Cond.fieldLink RX3 12 "ColourParts$Pieces" "row" "Ljava/util/ArrayList;", Cond.classLink RX3 22 "ColourParts$Piece", Cond.fieldLink RX3 42 "ColourParts$Piece" "nearPieces" "I", Cond.methodLink RX3 18 yJx4a65c_size_8abf5, Cond.instanceMethod yJx4a65c_size_8abf5, Cond.selects RJx4a65c yJx4a65c_size_8abf5 yJx4a65c_size_8abf5, Cond.initialized RJx4a65c, Cond.code yJx4a65c_size_8abf5 cJx4a65c_size_8abf5 1 (some .int), Cond.fieldLink RJx4a65c 48 "java/util/ArrayList" "size" "I", Cond.methodLink RX3 31 yJx4a65c_get_915e3, Cond.instanceMethod yJx4a65c_get_915e3, Cond.selects RJx4a65c yJx4a65c_get_915e3 yJx4a65c_get_915e3, Cond.code yJx4a65c_get_915e3 cJx4a65c_get_915e3 2 (some (.object "java/lang/Object")), Cond.methodLink RJx4a65c 118 yJ15_checkIndex_7cf53, Cond.static yJ15_checkIndex_7cf53, Cond.initialized RJ15, Cond.code yJ15_checkIndex_7cf53 cJ15_checkIndex_7cf53 2 (some .int), Cond.methodLink RJ15 105 yJ3_checkIndex_8e157, Cond.static yJ3_checkIndex_8e157, Cond.initialized RJ3, Cond.code yJ3_checkIndex_8e157 cJ3_checkIndex_8e157 3 (some .int), Cond.methodLink RJx4a65c 123 yJx4a65c_elementData_915e3, Cond.instanceMethod yJx4a65c_elementData_915e3, Cond.selects RJx4a65c yJx4a65c_elementData_915e3 yJx4a65c_elementData_915e3]
def wsX3_nearPieces_r2 : List Cond := [Cond.code yJx4a65c_elementData_915e3 cJx4a65c_elementData_915e3 2 (some (.object "java/lang/Object")), Cond.fieldLink RJx4a65c 9 "java/util/ArrayList" "elementData" "[Ljava/lang/Object;"]
def wsX3_nearPieces : List Cond := .code yX3_nearPieces cX3_nearPieces 2 (some .int) :: ((wsX3_nearPieces_r1 ++ wsX3_nearPieces_r2) ++ wsX30 ++ wsX20 ++ wsJx4a65c0)
def wsX3_findNearOnes_r1 : List Cond := [Cond.fieldLink RX3 12 "ColourParts$Pieces" "row" "Ljava/util/ArrayList;", Cond.classLink RX3 22 "ColourParts$Piece", Cond.fieldLink RX3 35 "ColourParts$Piece" "owner" "I", Cond.fieldLink RX3 42 "ColourParts$Piece" "nearPieces" "I", Cond.methodLink RX3 18 yJx4a65c_size_8abf5, Cond.instanceMethod yJx4a65c_size_8abf5, Cond.selects RJx4a65c yJx4a65c_size_8abf5 yJx4a65c_size_8abf5, Cond.initialized RJx4a65c, Cond.code yJx4a65c_size_8abf5 cJx4a65c_size_8abf5 1 (some .int), Cond.fieldLink RJx4a65c 48 "java/util/ArrayList" "size" "I", Cond.methodLink RX3 31 yJx4a65c_get_915e3, Cond.instanceMethod yJx4a65c_get_915e3, Cond.selects RJx4a65c yJx4a65c_get_915e3 yJx4a65c_get_915e3, Cond.code yJx4a65c_get_915e3 cJx4a65c_get_915e3 2 (some (.object "java/lang/Object")), Cond.methodLink RJx4a65c 118 yJ15_checkIndex_7cf53, Cond.static yJ15_checkIndex_7cf53, Cond.initialized RJ15, Cond.code yJ15_checkIndex_7cf53 cJ15_checkIndex_7cf53 2 (some .int), Cond.methodLink RJ15 105 yJ3_checkIndex_8e157, Cond.static yJ3_checkIndex_8e157, Cond.initialized RJ3, Cond.code yJ3_checkIndex_8e157 cJ3_checkIndex_8e157 3 (some .int), Cond.methodLink RJx4a65c 123 yJx4a65c_elementData_915e3, Cond.instanceMethod yJx4a65c_elementData_915e3]
def wsX3_findNearOnes_r2 : List Cond := [Cond.selects RJx4a65c yJx4a65c_elementData_915e3 yJx4a65c_elementData_915e3, Cond.code yJx4a65c_elementData_915e3 cJx4a65c_elementData_915e3 2 (some (.object "java/lang/Object")), Cond.fieldLink RJx4a65c 9 "java/util/ArrayList" "elementData" "[Ljava/lang/Object;", Cond.methodLink RX3 52 yX2_isNearPiece, Cond.instanceMethod yX2_isNearPiece, Cond.selects RX2 yX2_isNearPiece yX2_isNearPiece, Cond.initialized RX2, Cond.code yX2_isNearPiece cX2_isNearPiece 5 (some .boolean), Cond.fieldLink RX2 19 "ColourParts$Piece" "boxes" "Ljava/util/ArrayList;", Cond.classLink RX2 33 "ColourParts$Box", Cond.methodLink RX2 23 yJx4a65c_size_8abf5, Cond.methodLink RX2 29 yJx4a65c_get_915e3, Cond.methodLink RX2 39 yX0_isNearAny, Cond.instanceMethod yX0_isNearAny, Cond.selects RX0 yX0_isNearAny yX0_isNearAny, Cond.initialized RX0, Cond.code yX0_isNearAny cX0_isNearAny 5 (some .boolean), Cond.classLink RX0 8 "ColourParts$Box", Cond.methodLink RX0 22 yJx4a65c_size_8abf5, Cond.methodLink RX0 28 yJx4a65c_get_915e3, Cond.methodLink RX0 32 yX0_isNearBox, Cond.instanceMethod yX0_isNearBox, Cond.selects RX0 yX0_isNearBox yX0_isNearBox, Cond.code yX0_isNearBox cX0_isNearBox 8 (some .boolean)]
def wsX3_findNearOnes_r3 : List Cond := [Cond.fieldLink RX0 7 "ColourParts$Box" "left" "J", Cond.fieldLink RX0 16 "ColourParts$Box" "right" "J", Cond.fieldLink RX0 13 "ColourParts$Box" "low" "J", Cond.fieldLink RX0 19 "ColourParts$Box" "high" "J", Cond.methodLink RX0 36 yX0_gap, Cond.static yX0_gap, Cond.code yX0_gap cX0_gap 8 (some .long), Cond.methodLink RX0 40 Lib.MathLoose.max_long.x, Cond.static Lib.MathLoose.max_long.x, Cond.initialized "java/lang/Math", Cond.code Lib.MathLoose.max_long.x Lib.MathLoose.max_long.code 4 (some .long)]
def wsX3_findNearOnes : List Cond := .code yX3_findNearOnes cX3_findNearOnes 7 none :: ((wsX3_findNearOnes_r1 ++ (wsX3_findNearOnes_r2 ++ wsX3_findNearOnes_r3)) ++ wsX30 ++ wsX20 ++ wsJx4a65c0 ++ wsX00)
def wsX3_nearAnyOf_r1 : List Cond := [Cond.fieldLink RX3 12 "ColourParts$Pieces" "row" "Ljava/util/ArrayList;", Cond.methodLink RX3 18 yJx4a65c_size_8abf5, Cond.instanceMethod yJx4a65c_size_8abf5, Cond.selects RJx4a65c yJx4a65c_size_8abf5 yJx4a65c_size_8abf5, Cond.initialized RJx4a65c, Cond.code yJx4a65c_size_8abf5 cJx4a65c_size_8abf5 1 (some .int), Cond.fieldLink RJx4a65c 48 "java/util/ArrayList" "size" "I", Cond.methodLink RX3 67 yX3_nearPieces, Cond.instanceMethod yX3_nearPieces, Cond.selects RX3 yX3_nearPieces yX3_nearPieces, Cond.initialized RX3, Cond.code yX3_nearPieces cX3_nearPieces 2 (some .int), Cond.classLink RX3 22 "ColourParts$Piece", Cond.fieldLink RX3 42 "ColourParts$Piece" "nearPieces" "I", Cond.methodLink RX3 31 yJx4a65c_get_915e3, Cond.instanceMethod yJx4a65c_get_915e3, Cond.selects RJx4a65c yJx4a65c_get_915e3 yJx4a65c_get_915e3, Cond.code yJx4a65c_get_915e3 cJx4a65c_get_915e3 2 (some (.object "java/lang/Object")), Cond.methodLink RJx4a65c 118 yJ15_checkIndex_7cf53, Cond.static yJ15_checkIndex_7cf53, Cond.initialized RJ15, Cond.code yJ15_checkIndex_7cf53 cJ15_checkIndex_7cf53 2 (some .int), Cond.methodLink RJ15 105 yJ3_checkIndex_8e157, Cond.static yJ3_checkIndex_8e157]
def wsX3_nearAnyOf_r2 : List Cond := [Cond.initialized RJ3, Cond.code yJ3_checkIndex_8e157 cJ3_checkIndex_8e157 3 (some .int), Cond.methodLink RJx4a65c 123 yJx4a65c_elementData_915e3, Cond.instanceMethod yJx4a65c_elementData_915e3, Cond.selects RJx4a65c yJx4a65c_elementData_915e3 yJx4a65c_elementData_915e3, Cond.code yJx4a65c_elementData_915e3 cJx4a65c_elementData_915e3 2 (some (.object "java/lang/Object")), Cond.fieldLink RJx4a65c 9 "java/util/ArrayList" "elementData" "[Ljava/lang/Object;"]
def wsX3_nearAnyOf : List Cond := .code yX3_nearAnyOf cX3_nearAnyOf 4 (some .int) :: ((wsX3_nearAnyOf_r1 ++ wsX3_nearAnyOf_r2) ++ wsX30 ++ wsJx4a65c0 ++ wsX20)
def wsX3_fillWalks_r1 : List Cond := [Cond.methodLink RX3 64 yX3_nearAnyOf, Cond.instanceMethod yX3_nearAnyOf, Cond.selects RX3 yX3_nearAnyOf yX3_nearAnyOf, Cond.initialized RX3, Cond.code yX3_nearAnyOf cX3_nearAnyOf 4 (some .int), Cond.fieldLink RX3 12 "ColourParts$Pieces" "row" "Ljava/util/ArrayList;", Cond.methodLink RX3 18 yJx4a65c_size_8abf5, Cond.instanceMethod yJx4a65c_size_8abf5, Cond.selects RJx4a65c yJx4a65c_size_8abf5 yJx4a65c_size_8abf5, Cond.initialized RJx4a65c, Cond.code yJx4a65c_size_8abf5 cJx4a65c_size_8abf5 1 (some .int), Cond.fieldLink RJx4a65c 48 "java/util/ArrayList" "size" "I", Cond.methodLink RX3 67 yX3_nearPieces, Cond.instanceMethod yX3_nearPieces, Cond.selects RX3 yX3_nearPieces yX3_nearPieces, Cond.code yX3_nearPieces cX3_nearPieces 2 (some .int), Cond.classLink RX3 22 "ColourParts$Piece", Cond.fieldLink RX3 42 "ColourParts$Piece" "nearPieces" "I", Cond.methodLink RX3 31 yJx4a65c_get_915e3, Cond.instanceMethod yJx4a65c_get_915e3, Cond.selects RJx4a65c yJx4a65c_get_915e3 yJx4a65c_get_915e3, Cond.code yJx4a65c_get_915e3 cJx4a65c_get_915e3 2 (some (.object "java/lang/Object")), Cond.methodLink RJx4a65c 118 yJ15_checkIndex_7cf53, Cond.static yJ15_checkIndex_7cf53]
def wsX3_fillWalks_r2 : List Cond := [Cond.initialized RJ15, Cond.code yJ15_checkIndex_7cf53 cJ15_checkIndex_7cf53 2 (some .int), Cond.methodLink RJ15 105 yJ3_checkIndex_8e157, Cond.static yJ3_checkIndex_8e157, Cond.initialized RJ3, Cond.code yJ3_checkIndex_8e157 cJ3_checkIndex_8e157 3 (some .int), Cond.methodLink RJx4a65c 123 yJx4a65c_elementData_915e3, Cond.instanceMethod yJx4a65c_elementData_915e3, Cond.selects RJx4a65c yJx4a65c_elementData_915e3 yJx4a65c_elementData_915e3, Cond.code yJx4a65c_elementData_915e3 cJx4a65c_elementData_915e3 2 (some (.object "java/lang/Object")), Cond.fieldLink RJx4a65c 9 "java/util/ArrayList" "elementData" "[Ljava/lang/Object;"]
def wsX3_fillWalks : List Cond := .code yX3_fillWalks cX3_fillWalks 5 none :: ((wsX3_fillWalks_r1 ++ wsX3_fillWalks_r2) ++ wsX30 ++ wsJx4a65c0 ++ wsX20)
def wsJ6_numberOfTrailingZeros_0f7a4 : List Cond := .code yJ6_numberOfTrailingZeros_0f7a4 cJ6_numberOfTrailingZeros_0f7a4 2 (some .int) :: ([.constant RJ6 264 (65536)])
def wsX3_writeLeastRing_r1 : List Cond := [Cond.methodLink RX3 49 yX3_owner, Cond.instanceMethod yX3_owner, Cond.selects RX3 yX3_owner yX3_owner, Cond.initialized RX3, Cond.code yX3_owner cX3_owner 2 (some .int), Cond.fieldLink RX3 12 "ColourParts$Pieces" "row" "Ljava/util/ArrayList;", Cond.classLink RX3 22 "ColourParts$Piece", Cond.fieldLink RX3 35 "ColourParts$Piece" "owner" "I", Cond.methodLink RX3 18 yJx4a65c_size_8abf5, Cond.instanceMethod yJx4a65c_size_8abf5, Cond.selects RJx4a65c yJx4a65c_size_8abf5 yJx4a65c_size_8abf5, Cond.initialized RJx4a65c, Cond.code yJx4a65c_size_8abf5 cJx4a65c_size_8abf5 1 (some .int), Cond.fieldLink RJx4a65c 48 "java/util/ArrayList" "size" "I", Cond.methodLink RX3 31 yJx4a65c_get_915e3, Cond.instanceMethod yJx4a65c_get_915e3, Cond.selects RJx4a65c yJx4a65c_get_915e3 yJx4a65c_get_915e3, Cond.code yJx4a65c_get_915e3 cJx4a65c_get_915e3 2 (some (.object "java/lang/Object")), Cond.methodLink RJx4a65c 118 yJ15_checkIndex_7cf53, Cond.static yJ15_checkIndex_7cf53, Cond.initialized RJ15, Cond.code yJ15_checkIndex_7cf53 cJ15_checkIndex_7cf53 2 (some .int), Cond.methodLink RJ15 105 yJ3_checkIndex_8e157, Cond.static yJ3_checkIndex_8e157]
def wsX3_writeLeastRing_r2 : List Cond := [Cond.initialized RJ3, Cond.code yJ3_checkIndex_8e157 cJ3_checkIndex_8e157 3 (some .int), Cond.methodLink RJx4a65c 123 yJx4a65c_elementData_915e3, Cond.instanceMethod yJx4a65c_elementData_915e3, Cond.selects RJx4a65c yJx4a65c_elementData_915e3 yJx4a65c_elementData_915e3, Cond.code yJx4a65c_elementData_915e3 cJx4a65c_elementData_915e3 2 (some (.object "java/lang/Object")), Cond.fieldLink RJx4a65c 9 "java/util/ArrayList" "elementData" "[Ljava/lang/Object;", Cond.methodLink RX3 67 yX3_nearPieces, Cond.instanceMethod yX3_nearPieces, Cond.selects RX3 yX3_nearPieces yX3_nearPieces, Cond.code yX3_nearPieces cX3_nearPieces 2 (some .int), Cond.fieldLink RX3 42 "ColourParts$Piece" "nearPieces" "I", Cond.methodLink RX3 69 yJ6_numberOfTrailingZeros_0f7a4, Cond.static yJ6_numberOfTrailingZeros_0f7a4, Cond.initialized RJ6, Cond.code yJ6_numberOfTrailingZeros_0f7a4 cJ6_numberOfTrailingZeros_0f7a4 2 (some .int), Cond.constant RJ6 264 (65536)]
def wsX3_writeLeastRing : List Cond := .code yX3_writeLeastRing cX3_writeLeastRing 7 none :: ((wsX3_writeLeastRing_r1 ++ wsX3_writeLeastRing_r2) ++ wsX30 ++ wsX20 ++ wsJx4a65c0)
def wsX3_findOddRing_r1 : List Cond := [Cond.arrayClass .int, Cond.fieldLink RX3 12 "ColourParts$Pieces" "row" "Ljava/util/ArrayList;", Cond.methodLink RX3 18 yJx4a65c_size_8abf5, Cond.instanceMethod yJx4a65c_size_8abf5, Cond.selects RJx4a65c yJx4a65c_size_8abf5 yJx4a65c_size_8abf5, Cond.initialized RJx4a65c, Cond.code yJx4a65c_size_8abf5 cJx4a65c_size_8abf5 1 (some .int), Cond.fieldLink RJx4a65c 48 "java/util/ArrayList" "size" "I", Cond.methodLink RX3 56 yX3_fillWalks, Cond.instanceMethod yX3_fillWalks, Cond.selects RX3 yX3_fillWalks yX3_fillWalks, Cond.initialized RX3, Cond.code yX3_fillWalks cX3_fillWalks 5 none, Cond.methodLink RX3 64 yX3_nearAnyOf, Cond.instanceMethod yX3_nearAnyOf, Cond.selects RX3 yX3_nearAnyOf yX3_nearAnyOf, Cond.code yX3_nearAnyOf cX3_nearAnyOf 4 (some .int), Cond.methodLink RX3 67 yX3_nearPieces, Cond.instanceMethod yX3_nearPieces, Cond.selects RX3 yX3_nearPieces yX3_nearPieces, Cond.code yX3_nearPieces cX3_nearPieces 2 (some .int), Cond.classLink RX3 22 "ColourParts$Piece", Cond.fieldLink RX3 42 "ColourParts$Piece" "nearPieces" "I", Cond.methodLink RX3 31 yJx4a65c_get_915e3]
def wsX3_findOddRing_r2 : List Cond := [Cond.instanceMethod yJx4a65c_get_915e3, Cond.selects RJx4a65c yJx4a65c_get_915e3 yJx4a65c_get_915e3, Cond.code yJx4a65c_get_915e3 cJx4a65c_get_915e3 2 (some (.object "java/lang/Object")), Cond.methodLink RJx4a65c 118 yJ15_checkIndex_7cf53, Cond.static yJ15_checkIndex_7cf53, Cond.initialized RJ15, Cond.code yJ15_checkIndex_7cf53 cJ15_checkIndex_7cf53 2 (some .int), Cond.methodLink RJ15 105 yJ3_checkIndex_8e157, Cond.static yJ3_checkIndex_8e157, Cond.initialized RJ3, Cond.code yJ3_checkIndex_8e157 cJ3_checkIndex_8e157 3 (some .int), Cond.methodLink RJx4a65c 123 yJx4a65c_elementData_915e3, Cond.instanceMethod yJx4a65c_elementData_915e3, Cond.selects RJx4a65c yJx4a65c_elementData_915e3 yJx4a65c_elementData_915e3, Cond.code yJx4a65c_elementData_915e3 cJx4a65c_elementData_915e3 2 (some (.object "java/lang/Object")), Cond.fieldLink RJx4a65c 9 "java/util/ArrayList" "elementData" "[Ljava/lang/Object;", Cond.methodLink RX3 60 yX3_writeLeastRing, Cond.instanceMethod yX3_writeLeastRing, Cond.selects RX3 yX3_writeLeastRing yX3_writeLeastRing, Cond.code yX3_writeLeastRing cX3_writeLeastRing 7 none, Cond.methodLink RX3 49 yX3_owner, Cond.instanceMethod yX3_owner, Cond.selects RX3 yX3_owner yX3_owner, Cond.code yX3_owner cX3_owner 2 (some .int)]
def wsX3_findOddRing_r3 : List Cond := [Cond.fieldLink RX3 35 "ColourParts$Piece" "owner" "I", Cond.methodLink RX3 69 yJ6_numberOfTrailingZeros_0f7a4, Cond.static yJ6_numberOfTrailingZeros_0f7a4, Cond.initialized RJ6, Cond.code yJ6_numberOfTrailingZeros_0f7a4 cJ6_numberOfTrailingZeros_0f7a4 2 (some .int), Cond.constant RJ6 264 (65536)]
def wsX3_findOddRing : List Cond := .code yX3_findOddRing cX3_findOddRing 5 (some .int) :: ((wsX3_findOddRing_r1 ++ (wsX3_findOddRing_r2 ++ wsX3_findOddRing_r3)) ++ wsX30 ++ wsJx4a65c0 ++ wsX20)
def wsX4_init_r1 : List Cond := [Cond.methodLink RX4 3 objectInit, Cond.instanceMethod objectInit, Cond.code objectInit ⟨#[0xb1]⟩ 1 none, Cond.arrayClass .int, Cond.fieldLink RX4 9 "ColourParts$Search" "near" "[I", Cond.fieldLink RX4 15 "ColourParts$Search" "told" "[I", Cond.arrayClass .boolean, Cond.fieldLink RX4 18 "ColourParts$Search" "afterStitch" "[Z", Cond.fieldLink RX4 22 "ColourParts$Search" "holders" "[I", Cond.fieldLink RX4 25 "ColourParts$Search" "row" "[I", Cond.fieldLink RX4 28 "ColourParts$Search" "best" "[I", Cond.fieldLink RX4 31 "ColourParts$Search" "fewest" "I", Cond.methodLink RX4 35 Lib.Math.min.name, Cond.static Lib.Math.min.name, Cond.initialized "java/lang/Math", Cond.code Lib.Math.min.name Lib.Math.min.code 2 (some .int), Cond.methodLink RX4 41 Lib.Math.max.name, Cond.static Lib.Math.max.name, Cond.code Lib.Math.max.name Lib.Math.max.code 2 (some .int), Cond.fieldLink RX4 44 "ColourParts$Search" "colours" "I", Cond.fieldLink RX4 53 "ColourParts$Search" "count" "I", Cond.methodLink RX4 47 yX3_count, Cond.instanceMethod yX3_count, Cond.selects RX3 yX3_count yX3_count]
def wsX4_init_r2 : List Cond := [Cond.initialized RX3, Cond.code yX3_count cX3_count 1 (some .int), Cond.fieldLink RX3 12 "ColourParts$Pieces" "row" "Ljava/util/ArrayList;", Cond.methodLink RX3 18 yJx4a65c_size_8abf5, Cond.instanceMethod yJx4a65c_size_8abf5, Cond.selects RJx4a65c yJx4a65c_size_8abf5 yJx4a65c_size_8abf5, Cond.initialized RJx4a65c, Cond.code yJx4a65c_size_8abf5 cJx4a65c_size_8abf5 1 (some .int), Cond.fieldLink RJx4a65c 48 "java/util/ArrayList" "size" "I", Cond.methodLink RX4 55 yX3_nearPieces, Cond.instanceMethod yX3_nearPieces, Cond.selects RX3 yX3_nearPieces yX3_nearPieces, Cond.code yX3_nearPieces cX3_nearPieces 2 (some .int), Cond.classLink RX3 22 "ColourParts$Piece", Cond.fieldLink RX3 42 "ColourParts$Piece" "nearPieces" "I", Cond.methodLink RX3 31 yJx4a65c_get_915e3, Cond.instanceMethod yJx4a65c_get_915e3, Cond.selects RJx4a65c yJx4a65c_get_915e3 yJx4a65c_get_915e3, Cond.code yJx4a65c_get_915e3 cJx4a65c_get_915e3 2 (some (.object "java/lang/Object")), Cond.methodLink RJx4a65c 118 yJ15_checkIndex_7cf53, Cond.static yJ15_checkIndex_7cf53, Cond.initialized RJ15, Cond.code yJ15_checkIndex_7cf53 cJ15_checkIndex_7cf53 2 (some .int), Cond.methodLink RJ15 105 yJ3_checkIndex_8e157]
def wsX4_init_r3 : List Cond := [Cond.static yJ3_checkIndex_8e157, Cond.initialized RJ3, Cond.code yJ3_checkIndex_8e157 cJ3_checkIndex_8e157 3 (some .int), Cond.methodLink RJx4a65c 123 yJx4a65c_elementData_915e3, Cond.instanceMethod yJx4a65c_elementData_915e3, Cond.selects RJx4a65c yJx4a65c_elementData_915e3 yJx4a65c_elementData_915e3, Cond.code yJx4a65c_elementData_915e3 cJx4a65c_elementData_915e3 2 (some (.object "java/lang/Object")), Cond.fieldLink RJx4a65c 9 "java/util/ArrayList" "elementData" "[Ljava/lang/Object;", Cond.methodLink RX4 59 yX3_told, Cond.instanceMethod yX3_told, Cond.selects RX3 yX3_told yX3_told, Cond.code yX3_told cX3_told 2 (some .int), Cond.fieldLink RX3 39 "ColourParts$Piece" "told" "I", Cond.methodLink RX4 61 yX3_isAfterStitch, Cond.instanceMethod yX3_isAfterStitch, Cond.selects RX3 yX3_isAfterStitch yX3_isAfterStitch, Cond.code yX3_isAfterStitch cX3_isAfterStitch 2 (some .boolean), Cond.methodLink RX3 49 yX3_owner, Cond.instanceMethod yX3_owner, Cond.selects RX3 yX3_owner yX3_owner, Cond.code yX3_owner cX3_owner 2 (some .int), Cond.fieldLink RX3 35 "ColourParts$Piece" "owner" "I"]
def wsX4_init : List Cond := .code yX4_init cX4_init 4 none :: ((wsX4_init_r1 ++ (wsX4_init_r2 ++ wsX4_init_r3)) ++ wsX40 ++ wsX30 ++ wsJx4a65c0 ++ wsX20)
def wsX4_isFound : List Cond := .code yX4_isFound cX4_isFound 1 (some .boolean) :: ([.fieldLink RX4 31 "ColourParts$Search" "fewest" "I"] ++ wsX40)
def wsX4_canHave : List Cond := .code yX4_canHave cX4_canHave 3 (some .boolean) :: ([.fieldLink RX4 15 "ColourParts$Search" "told" "[I", .fieldLink RX4 9 "ColourParts$Search" "near" "[I", .fieldLink RX4 22 "ColourParts$Search" "holders" "[I"] ++ wsX40)
def wsX4_isDeadEnd : List Cond := .code yX4_isDeadEnd cX4_isDeadEnd 5 (some .boolean) :: ([.fieldLink RX4 53 "ColourParts$Search" "count" "I", .fieldLink RX4 44 "ColourParts$Search" "colours" "I", .methodLink RX4 78 yX4_canHave, .instanceMethod yX4_canHave, .selects RX4 yX4_canHave yX4_canHave, .initialized RX4, .code yX4_canHave cX4_canHave 3 (some .boolean), .fieldLink RX4 15 "ColourParts$Search" "told" "[I", .fieldLink RX4 9 "ColourParts$Search" "near" "[I", .fieldLink RX4 22 "ColourParts$Search" "holders" "[I"] ++ wsX40)
def wsX4_goOn_r1 : List Cond := [Cond.fieldLink RX4 31 "ColourParts$Search" "fewest" "I", Cond.fieldLink RX4 53 "ColourParts$Search" "count" "I", Cond.fieldLink RX4 25 "ColourParts$Search" "row" "[I", Cond.fieldLink RX4 28 "ColourParts$Search" "best" "[I", Cond.methodLink RX4 72 arraycopyName, Cond.native arraycopyName, Cond.static arraycopyName, Cond.initialized "java/lang/System", Cond.fieldLink RX4 44 "ColourParts$Search" "colours" "I", Cond.methodLink RX4 69 yX4_isDeadEnd, Cond.instanceMethod yX4_isDeadEnd, Cond.selects RX4 yX4_isDeadEnd yX4_isDeadEnd, Cond.initialized RX4, Cond.code yX4_isDeadEnd cX4_isDeadEnd 5 (some .boolean), Cond.methodLink RX4 78 yX4_canHave, Cond.instanceMethod yX4_canHave, Cond.selects RX4 yX4_canHave yX4_canHave, Cond.code yX4_canHave cX4_canHave 3 (some .boolean), Cond.fieldLink RX4 15 "ColourParts$Search" "told" "[I", Cond.fieldLink RX4 9 "ColourParts$Search" "near" "[I", Cond.fieldLink RX4 22 "ColourParts$Search" "holders" "[I", Cond.methodLink RX4 82 yX4_tryColour, Cond.instanceMethod yX4_tryColour, Cond.selects RX4 yX4_tryColour yX4_tryColour]
def wsX4_goOn_r2 : List Cond := [Cond.code yX4_tryColour cX4_tryColour 7 none, Cond.fieldLink RX4 18 "ColourParts$Search" "afterStitch" "[Z", Cond.methodLink RX4 65 yX4_goOn, Cond.instanceMethod yX4_goOn, Cond.selects RX4 yX4_goOn yX4_goOn]
def wsX4_goOn : List Cond := .code yX4_goOn cX4_goOn 7 none :: ((wsX4_goOn_r1 ++ wsX4_goOn_r2) ++ wsX40)
def wsX4_tryColour_r1 : List Cond := [Cond.fieldLink RX4 53 "ColourParts$Search" "count" "I", Cond.fieldLink RX4 44 "ColourParts$Search" "colours" "I", Cond.fieldLink RX4 18 "ColourParts$Search" "afterStitch" "[Z", Cond.fieldLink RX4 25 "ColourParts$Search" "row" "[I", Cond.fieldLink RX4 22 "ColourParts$Search" "holders" "[I", Cond.methodLink RX4 65 yX4_goOn, Cond.instanceMethod yX4_goOn, Cond.selects RX4 yX4_goOn yX4_goOn, Cond.initialized RX4, Cond.code yX4_goOn cX4_goOn 7 none, Cond.fieldLink RX4 31 "ColourParts$Search" "fewest" "I", Cond.fieldLink RX4 28 "ColourParts$Search" "best" "[I", Cond.methodLink RX4 72 arraycopyName, Cond.native arraycopyName, Cond.static arraycopyName, Cond.initialized "java/lang/System", Cond.methodLink RX4 69 yX4_isDeadEnd, Cond.instanceMethod yX4_isDeadEnd, Cond.selects RX4 yX4_isDeadEnd yX4_isDeadEnd, Cond.code yX4_isDeadEnd cX4_isDeadEnd 5 (some .boolean), Cond.methodLink RX4 78 yX4_canHave, Cond.instanceMethod yX4_canHave, Cond.selects RX4 yX4_canHave yX4_canHave, Cond.code yX4_canHave cX4_canHave 3 (some .boolean)]
def wsX4_tryColour_r2 : List Cond := [Cond.fieldLink RX4 15 "ColourParts$Search" "told" "[I", Cond.fieldLink RX4 9 "ColourParts$Search" "near" "[I", Cond.methodLink RX4 82 yX4_tryColour, Cond.instanceMethod yX4_tryColour, Cond.selects RX4 yX4_tryColour yX4_tryColour]
def wsX4_tryColour : List Cond := .code yX4_tryColour cX4_tryColour 7 none :: ((wsX4_tryColour_r1 ++ wsX4_tryColour_r2) ++ wsX40)
def wsX4_findBest_r1 : List Cond := [Cond.fieldLink RX4 53 "ColourParts$Search" "count" "I", Cond.fieldLink RX4 15 "ColourParts$Search" "told" "[I", Cond.fieldLink RX4 44 "ColourParts$Search" "colours" "I", Cond.fieldLink RX4 22 "ColourParts$Search" "holders" "[I", Cond.methodLink RX4 65 yX4_goOn, Cond.instanceMethod yX4_goOn, Cond.selects RX4 yX4_goOn yX4_goOn, Cond.initialized RX4, Cond.code yX4_goOn cX4_goOn 7 none, Cond.fieldLink RX4 31 "ColourParts$Search" "fewest" "I", Cond.fieldLink RX4 25 "ColourParts$Search" "row" "[I", Cond.fieldLink RX4 28 "ColourParts$Search" "best" "[I", Cond.methodLink RX4 72 arraycopyName, Cond.native arraycopyName, Cond.static arraycopyName, Cond.initialized "java/lang/System", Cond.methodLink RX4 69 yX4_isDeadEnd, Cond.instanceMethod yX4_isDeadEnd, Cond.selects RX4 yX4_isDeadEnd yX4_isDeadEnd, Cond.code yX4_isDeadEnd cX4_isDeadEnd 5 (some .boolean), Cond.methodLink RX4 78 yX4_canHave, Cond.instanceMethod yX4_canHave, Cond.selects RX4 yX4_canHave yX4_canHave, Cond.code yX4_canHave cX4_canHave 3 (some .boolean)]
def wsX4_findBest_r2 : List Cond := [Cond.fieldLink RX4 9 "ColourParts$Search" "near" "[I", Cond.methodLink RX4 82 yX4_tryColour, Cond.instanceMethod yX4_tryColour, Cond.selects RX4 yX4_tryColour yX4_tryColour, Cond.code yX4_tryColour cX4_tryColour 7 none, Cond.fieldLink RX4 18 "ColourParts$Search" "afterStitch" "[Z"]
def wsX4_findBest : List Cond := .code yX4_findBest cX4_findBest 3 none :: ((wsX4_findBest_r1 ++ wsX4_findBest_r2) ++ wsX40)
def wsX5_init_r1 : List Cond := [Cond.methodLink RX5 3 objectInit, Cond.instanceMethod objectInit, Cond.code objectInit ⟨#[0xb1]⟩ 1 none, Cond.classLink RX5 9 RJx4a65c, Cond.instantiable RJx4a65c 3, Cond.initialized RJx4a65c, Cond.fieldLink RX5 12 "ColourParts$Shape" "boxes" "Ljava/util/ArrayList;", Cond.arrayClass .long, Cond.fieldLink RX5 18 "ColourParts$Shape" "places" "[J", Cond.fieldLink RX5 22 "ColourParts$Shape" "stitchCount" "I", Cond.fieldLink RX5 26 "ColourParts$Shape" "standing" "Z", Cond.fieldLink RX5 30 "ColourParts$Shape" "told" "I", Cond.fieldLink RX5 33 "ColourParts$Shape" "nearShapes" "I", Cond.fieldLink RX5 36 "ColourParts$Shape" "half" "Z", Cond.fieldLink RX5 39 "ColourParts$Shape" "halfX" "J", Cond.fieldLink RX5 43 "ColourParts$Shape" "halfY" "J", Cond.methodLink RX5 11 yJx4a65c_init_da8c8, Cond.instanceMethod yJx4a65c_init_da8c8, Cond.code yJx4a65c_init_da8c8 cJx4a65c_init_da8c8 1 none, Cond.fieldLink RJx4a65c 39 "java/util/ArrayList" "DEFAULTCAPACITY_EMPTY_ELEMENTDATA" "[Ljava/lang/Object;", Cond.fieldLink RJx4a65c 9 "java/util/ArrayList" "elementData" "[Ljava/lang/Object;", Cond.methodLink RJx4a65c 1 yJxc12de_init_da8c8, Cond.instanceMethod yJxc12de_init_da8c8, Cond.initialized RJxc12de]
def wsX5_init_r2 : List Cond := [Cond.code yJxc12de_init_da8c8 cJxc12de_init_da8c8 1 none, Cond.fieldLink RJxc12de 7 "java/util/AbstractList" "modCount" "I", Cond.methodLink RJxc12de 1 yJxa1e45_init_da8c8, Cond.instanceMethod yJxa1e45_init_da8c8, Cond.initialized RJxa1e45, Cond.code yJxa1e45_init_da8c8 cJxa1e45_init_da8c8 1 none, Cond.methodLink RJxa1e45 1 objectInit]
def wsX5_init : List Cond := .code yX5_init cX5_init 1 none :: ((wsX5_init_r1 ++ wsX5_init_r2) ++ wsJx4a65c0 ++ wsX50)
def wsJx4a65c_isEmpty_aae02 : List Cond := .code yJx4a65c_isEmpty_aae02 cJx4a65c_isEmpty_aae02 1 (some .boolean) :: ([.fieldLink RJx4a65c 48 "java/util/ArrayList" "size" "I"] ++ wsJx4a65c0)
def wsX5_isOpen : List Cond := .code yX5_isOpen cX5_isOpen 1 (some .boolean) :: ([.fieldLink RX5 36 "ColourParts$Shape" "half" "Z", .fieldLink RX5 12 "ColourParts$Shape" "boxes" "Ljava/util/ArrayList;", .methodLink RX5 46 yJx4a65c_isEmpty_aae02, .instanceMethod yJx4a65c_isEmpty_aae02, .selects RJx4a65c yJx4a65c_isEmpty_aae02 yJx4a65c_isEmpty_aae02, .initialized RJx4a65c, .code yJx4a65c_isEmpty_aae02 cJx4a65c_isEmpty_aae02 1 (some .boolean), .fieldLink RJx4a65c 48 "java/util/ArrayList" "size" "I"] ++ wsX50 ++ wsJx4a65c0)
def wsX5_isNearShape : List Cond := .code yX5_isNearShape cX5_isNearShape 2 (some .boolean) :: ([.fieldLink RX5 33 "ColourParts$Shape" "nearShapes" "I"] ++ wsX50)
def wsX5_addCorner_r1 : List Cond := [Cond.fieldLink RX5 36 "ColourParts$Shape" "half" "Z", Cond.fieldLink RX5 12 "ColourParts$Shape" "boxes" "Ljava/util/ArrayList;", Cond.classLink RX5 50 RX0, Cond.instantiable RX0 4, Cond.initialized RX0, Cond.fieldLink RX5 39 "ColourParts$Shape" "halfX" "J", Cond.methodLink RX5 52 Lib.MathLoose.min_long.x, Cond.static Lib.MathLoose.min_long.x, Cond.initialized "java/lang/Math", Cond.code Lib.MathLoose.min_long.x Lib.MathLoose.min_long.code 4 (some .long), Cond.fieldLink RX5 43 "ColourParts$Shape" "halfY" "J", Cond.methodLink RX5 58 Lib.MathLoose.max_long.x, Cond.static Lib.MathLoose.max_long.x, Cond.code Lib.MathLoose.max_long.x Lib.MathLoose.max_long.code 4 (some .long), Cond.methodLink RX5 61 yX0_init, Cond.instanceMethod yX0_init, Cond.code yX0_init cX0_init 9 none, Cond.methodLink RX0 1 objectInit, Cond.instanceMethod objectInit, Cond.code objectInit ⟨#[0xb1]⟩ 1 none, Cond.fieldLink RX0 7 "ColourParts$Box" "left" "J", Cond.fieldLink RX0 13 "ColourParts$Box" "low" "J", Cond.fieldLink RX0 16 "ColourParts$Box" "right" "J", Cond.fieldLink RX0 19 "ColourParts$Box" "high" "J"]
def wsX5_addCorner_r2 : List Cond := [Cond.methodLink RX5 64 yJx4a65c_add_9ea2d, Cond.instanceMethod yJx4a65c_add_9ea2d, Cond.selects RJx4a65c yJx4a65c_add_9ea2d yJx4a65c_add_9ea2d, Cond.initialized RJx4a65c, Cond.code yJx4a65c_add_9ea2d cJx4a65c_add_9ea2d 2 (some .boolean), Cond.fieldLink RJx4a65c 63 "java/util/ArrayList" "modCount" "I", Cond.sameField "java/util/ArrayList" "java/util/AbstractList" "modCount" "I", Cond.fieldLink RJx4a65c 9 "java/util/ArrayList" "elementData" "[Ljava/lang/Object;", Cond.fieldLink RJx4a65c 48 "java/util/ArrayList" "size" "I", Cond.methodLink RJx4a65c 131 yJx4a65c_add_72be8, Cond.instanceMethod yJx4a65c_add_72be8, Cond.selects RJx4a65c yJx4a65c_add_72be8 yJx4a65c_add_72be8, Cond.code yJx4a65c_add_72be8 cJx4a65c_add_72be8 4 none, Cond.methodLink RJx4a65c 129 yJx4a65c_grow_d5877, Cond.instanceMethod yJx4a65c_grow_d5877, Cond.selects RJx4a65c yJx4a65c_grow_d5877 yJx4a65c_grow_d5877, Cond.code yJx4a65c_grow_d5877 cJx4a65c_grow_d5877 1 (some (.array (.object "java/lang/Object"))), Cond.methodLink RJx4a65c 69 yJx4a65c_grow_92f84, Cond.instanceMethod yJx4a65c_grow_92f84, Cond.selects RJx4a65c yJx4a65c_grow_92f84 yJx4a65c_grow_92f84, Cond.code yJx4a65c_grow_92f84 cJx4a65c_grow_92f84 4 (some (.array (.object "java/lang/Object"))), Cond.fieldLink RJx4a65c 39 "java/util/ArrayList" "DEFAULTCAPACITY_EMPTY_ELEMENTDATA" "[Ljava/lang/Object;", Cond.methodLink RJx4a65c 79 Lib.Math.max.name, Cond.static Lib.Math.max.name]
def wsX5_addCorner_r3 : List Cond := [Cond.code Lib.Math.max.name Lib.Math.max.code 2 (some .int), Cond.classLink RJx4a65c 7 "java/lang/Object", Cond.methodLink RJx4a65c 73 yJ8_newLength_cabcc, Cond.static yJ8_newLength_cabcc, Cond.initialized RJ8, Cond.code yJ8_newLength_cabcc cJ8_newLength_cabcc 4 (some .int), Cond.methodLink RJ8 194 Lib.Math.max.name, Cond.constant RJ8 200 (2147483639), Cond.methodLink RJ8 201 yJ8_hugeLength_7cf53, Cond.static yJ8_hugeLength_7cf53, Cond.code yJ8_hugeLength_7cf53 cJ8_hugeLength_7cf53 3 (some .int), Cond.methodLink RJx4a65c 66 yJ7_copyOf_1904c, Cond.static yJ7_copyOf_1904c, Cond.initialized RJ7, Cond.code yJ7_copyOf_1904c cJ7_copyOf_1904c 2 (some (.array (.object "java/lang/Object"))), Cond.methodLink RJ7 86 ⟨"java/lang/Object", "getClass", "()Ljava/lang/Class;"⟩, Cond.selects "[Ljava/lang/Object;" ⟨"java/lang/Object", "getClass", "()Ljava/lang/Class;"⟩ ⟨"java/lang/Object", "getClass", "()Ljava/lang/Class;"⟩, Cond.instanceMethod ⟨"java/lang/Object", "getClass", "()Ljava/lang/Class;"⟩, Cond.native ⟨"java/lang/Object", "getClass", "()Ljava/lang/Class;"⟩, Cond.methodLink RJ7 300 yJ7_copyOf_6403c, Cond.static yJ7_copyOf_6403c, Cond.code yJ7_copyOf_6403c cJ7_copyOf_6403c 4 (some (.array (.object "java/lang/Object"))), Cond.classLink RJ7 110 "[Ljava/lang/Object;", Cond.classLink RJ7 2 "java/lang/Object"]
def wsX5_addCorner_r4 : List Cond := [Cond.methodLink RJ7 304 Lib.Math.min.name, Cond.static Lib.Math.min.name, Cond.code Lib.Math.min.name Lib.Math.min.code 2 (some .int), Cond.methodLink RJ7 150 arraycopyName, Cond.native arraycopyName, Cond.static arraycopyName, Cond.initialized "java/lang/System"]
def wsX5_addCorner : List Cond := .code yX5_addCorner cX5_addCorner 5 (some .boolean) :: ((wsX5_addCorner_r1 ++ (wsX5_addCorner_r2 ++ (wsX5_addCorner_r3 ++ wsX5_addCorner_r4))) ++ wsX50 ++ wsX00 ++ wsJx4a65c0)
def wsX5_hasStitch : List Cond := .code yX5_hasStitch cX5_hasStitch 5 (some .boolean) :: ([.fieldLink RX5 26 "ColourParts$Shape" "standing" "Z", .fieldLink RX5 22 "ColourParts$Shape" "stitchCount" "I", .fieldLink RX5 18 "ColourParts$Shape" "places" "[J"] ++ wsX50)
def wsX5_addStitch : List Cond := .code yX5_addStitch cX5_addStitch 5 none :: ([.fieldLink RX5 22 "ColourParts$Shape" "stitchCount" "I", .fieldLink RX5 18 "ColourParts$Shape" "places" "[J", .fieldLink RX5 26 "ColourParts$Shape" "standing" "Z"] ++ wsX50)
def wsX5_cutBox : List Cond := .code yX5_cutBox cX5_cutBox 5 (some (.object "ColourParts$Box")) :: ([.fieldLink RX5 22 "ColourParts$Shape" "stitchCount" "I", .fieldLink RX5 26 "ColourParts$Shape" "standing" "Z", .classLink RX5 50 RX0, .instantiable RX0 4, .initialized RX0, .fieldLink RX5 18 "ColourParts$Shape" "places" "[J", .fieldLink RX5 76 "ColourParts$Box" "left" "J", .fieldLink RX5 79 "ColourParts$Box" "low" "J", .fieldLink RX5 82 "ColourParts$Box" "right" "J", .fieldLink RX5 85 "ColourParts$Box" "high" "J", .methodLink RX5 61 yX0_init, .instanceMethod yX0_init, .code yX0_init cX0_init 9 none, .methodLink RX0 1 objectInit, .instanceMethod objectInit, .code objectInit ⟨#[0xb1]⟩ 1 none, .fieldLink RX0 7 "ColourParts$Box" "left" "J", .fieldLink RX0 13 "ColourParts$Box" "low" "J", .fieldLink RX0 16 "ColourParts$Box" "right" "J", .fieldLink RX0 19 "ColourParts$Box" "high" "J"] ++ wsX50 ++ wsX00)
def wsX5_pieceBoxes_r1 : List Cond := [Cond.fieldLink RX5 22 "ColourParts$Shape" "stitchCount" "I", Cond.fieldLink RX5 12 "ColourParts$Shape" "boxes" "Ljava/util/ArrayList;", Cond.classLink RX5 9 RJx4a65c, Cond.instantiable RJx4a65c 3, Cond.initialized RJx4a65c, Cond.classLink RX5 50 "ColourParts$Box", Cond.methodLink RX5 46 yJx4a65c_isEmpty_aae02, Cond.instanceMethod yJx4a65c_isEmpty_aae02, Cond.selects RJx4a65c yJx4a65c_isEmpty_aae02 yJx4a65c_isEmpty_aae02, Cond.code yJx4a65c_isEmpty_aae02 cJx4a65c_isEmpty_aae02 1 (some .boolean), Cond.fieldLink RJx4a65c 48 "java/util/ArrayList" "size" "I", Cond.methodLink RX5 11 yJx4a65c_init_da8c8, Cond.instanceMethod yJx4a65c_init_da8c8, Cond.code yJx4a65c_init_da8c8 cJx4a65c_init_da8c8 1 none, Cond.fieldLink RJx4a65c 39 "java/util/ArrayList" "DEFAULTCAPACITY_EMPTY_ELEMENTDATA" "[Ljava/lang/Object;", Cond.fieldLink RJx4a65c 9 "java/util/ArrayList" "elementData" "[Ljava/lang/Object;", Cond.methodLink RJx4a65c 1 yJxc12de_init_da8c8, Cond.instanceMethod yJxc12de_init_da8c8, Cond.initialized RJxc12de, Cond.code yJxc12de_init_da8c8 cJxc12de_init_da8c8 1 none, Cond.fieldLink RJxc12de 7 "java/util/AbstractList" "modCount" "I", Cond.methodLink RJxc12de 1 yJxa1e45_init_da8c8, Cond.instanceMethod yJxa1e45_init_da8c8, Cond.initialized RJxa1e45]
def wsX5_pieceBoxes_r2 : List Cond := [Cond.code yJxa1e45_init_da8c8 cJxa1e45_init_da8c8 1 none, Cond.methodLink RJxa1e45 1 objectInit, Cond.instanceMethod objectInit, Cond.code objectInit ⟨#[0xb1]⟩ 1 none, Cond.methodLink RX5 68 yJx4a65c_get_915e3, Cond.instanceMethod yJx4a65c_get_915e3, Cond.selects RJx4a65c yJx4a65c_get_915e3 yJx4a65c_get_915e3, Cond.code yJx4a65c_get_915e3 cJx4a65c_get_915e3 2 (some (.object "java/lang/Object")), Cond.methodLink RJx4a65c 118 yJ15_checkIndex_7cf53, Cond.static yJ15_checkIndex_7cf53, Cond.initialized RJ15, Cond.code yJ15_checkIndex_7cf53 cJ15_checkIndex_7cf53 2 (some .int), Cond.methodLink RJ15 105 yJ3_checkIndex_8e157, Cond.static yJ3_checkIndex_8e157, Cond.initialized RJ3, Cond.code yJ3_checkIndex_8e157 cJ3_checkIndex_8e157 3 (some .int), Cond.methodLink RJx4a65c 123 yJx4a65c_elementData_915e3, Cond.instanceMethod yJx4a65c_elementData_915e3, Cond.selects RJx4a65c yJx4a65c_elementData_915e3 yJx4a65c_elementData_915e3, Cond.code yJx4a65c_elementData_915e3 cJx4a65c_elementData_915e3 2 (some (.object "java/lang/Object")), Cond.methodLink RX5 72 yX5_cutBox, Cond.instanceMethod yX5_cutBox, Cond.selects RX5 yX5_cutBox yX5_cutBox, Cond.initialized RX5]
def wsX5_pieceBoxes_r3 : List Cond := [Cond.code yX5_cutBox cX5_cutBox 5 (some (.object "ColourParts$Box")), Cond.fieldLink RX5 26 "ColourParts$Shape" "standing" "Z", Cond.classLink RX5 50 RX0, Cond.instantiable RX0 4, Cond.initialized RX0, Cond.fieldLink RX5 18 "ColourParts$Shape" "places" "[J", Cond.fieldLink RX5 76 "ColourParts$Box" "left" "J", Cond.fieldLink RX5 79 "ColourParts$Box" "low" "J", Cond.fieldLink RX5 82 "ColourParts$Box" "right" "J", Cond.fieldLink RX5 85 "ColourParts$Box" "high" "J", Cond.methodLink RX5 61 yX0_init, Cond.instanceMethod yX0_init, Cond.code yX0_init cX0_init 9 none, Cond.methodLink RX0 1 objectInit, Cond.fieldLink RX0 7 "ColourParts$Box" "left" "J", Cond.fieldLink RX0 13 "ColourParts$Box" "low" "J", Cond.fieldLink RX0 16 "ColourParts$Box" "right" "J", Cond.fieldLink RX0 19 "ColourParts$Box" "high" "J", Cond.methodLink RX5 64 yJx4a65c_add_9ea2d, Cond.instanceMethod yJx4a65c_add_9ea2d, Cond.selects RJx4a65c yJx4a65c_add_9ea2d yJx4a65c_add_9ea2d, Cond.code yJx4a65c_add_9ea2d cJx4a65c_add_9ea2d 2 (some .boolean), Cond.fieldLink RJx4a65c 63 "java/util/ArrayList" "modCount" "I", Cond.sameField "java/util/ArrayList" "java/util/AbstractList" "modCount" "I"]
def wsX5_pieceBoxes_r4 : List Cond := [Cond.methodLink RJx4a65c 131 yJx4a65c_add_72be8, Cond.instanceMethod yJx4a65c_add_72be8, Cond.selects RJx4a65c yJx4a65c_add_72be8 yJx4a65c_add_72be8, Cond.code yJx4a65c_add_72be8 cJx4a65c_add_72be8 4 none, Cond.methodLink RJx4a65c 129 yJx4a65c_grow_d5877, Cond.instanceMethod yJx4a65c_grow_d5877, Cond.selects RJx4a65c yJx4a65c_grow_d5877 yJx4a65c_grow_d5877, Cond.code yJx4a65c_grow_d5877 cJx4a65c_grow_d5877 1 (some (.array (.object "java/lang/Object"))), Cond.methodLink RJx4a65c 69 yJx4a65c_grow_92f84, Cond.instanceMethod yJx4a65c_grow_92f84, Cond.selects RJx4a65c yJx4a65c_grow_92f84 yJx4a65c_grow_92f84, Cond.code yJx4a65c_grow_92f84 cJx4a65c_grow_92f84 4 (some (.array (.object "java/lang/Object"))), Cond.methodLink RJx4a65c 79 Lib.Math.max.name, Cond.static Lib.Math.max.name, Cond.initialized "java/lang/Math", Cond.code Lib.Math.max.name Lib.Math.max.code 2 (some .int), Cond.classLink RJx4a65c 7 "java/lang/Object", Cond.methodLink RJx4a65c 73 yJ8_newLength_cabcc, Cond.static yJ8_newLength_cabcc, Cond.initialized RJ8, Cond.code yJ8_newLength_cabcc cJ8_newLength_cabcc 4 (some .int), Cond.methodLink RJ8 194 Lib.Math.max.name, Cond.constant RJ8 200 (2147483639), Cond.methodLink RJ8 201 yJ8_hugeLength_7cf53]
def wsX5_pieceBoxes_r5 : List Cond := [Cond.static yJ8_hugeLength_7cf53, Cond.code yJ8_hugeLength_7cf53 cJ8_hugeLength_7cf53 3 (some .int), Cond.methodLink RJx4a65c 66 yJ7_copyOf_1904c, Cond.static yJ7_copyOf_1904c, Cond.initialized RJ7, Cond.code yJ7_copyOf_1904c cJ7_copyOf_1904c 2 (some (.array (.object "java/lang/Object"))), Cond.methodLink RJ7 86 ⟨"java/lang/Object", "getClass", "()Ljava/lang/Class;"⟩, Cond.selects "[Ljava/lang/Object;" ⟨"java/lang/Object", "getClass", "()Ljava/lang/Class;"⟩ ⟨"java/lang/Object", "getClass", "()Ljava/lang/Class;"⟩, Cond.instanceMethod ⟨"java/lang/Object", "getClass", "()Ljava/lang/Class;"⟩, Cond.native ⟨"java/lang/Object", "getClass", "()Ljava/lang/Class;"⟩, Cond.methodLink RJ7 300 yJ7_copyOf_6403c, Cond.static yJ7_copyOf_6403c, Cond.code yJ7_copyOf_6403c cJ7_copyOf_6403c 4 (some (.array (.object "java/lang/Object"))), Cond.classLink RJ7 110 "[Ljava/lang/Object;", Cond.classLink RJ7 2 "java/lang/Object", Cond.methodLink RJ7 304 Lib.Math.min.name, Cond.static Lib.Math.min.name, Cond.code Lib.Math.min.name Lib.Math.min.code 2 (some .int), Cond.methodLink RJ7 150 arraycopyName, Cond.native arraycopyName, Cond.static arraycopyName, Cond.initialized "java/lang/System"]
def wsX5_pieceBoxes : List Cond := .code yX5_pieceBoxes cX5_pieceBoxes 3 (some (.object "java/util/ArrayList")) :: ((wsX5_pieceBoxes_r1 ++ (wsX5_pieceBoxes_r2 ++ (wsX5_pieceBoxes_r3 ++ (wsX5_pieceBoxes_r4 ++ wsX5_pieceBoxes_r5)))) ++ wsX50 ++ wsJx4a65c0 ++ wsX00)
def wsX6_init_r1 : List Cond := [Cond.methodLink RX6 1 objectInit, Cond.instanceMethod objectInit, Cond.code objectInit ⟨#[0xb1]⟩ 1 none, Cond.classLink RX6 7 RJx4a65c, Cond.instantiable RJx4a65c 3, Cond.initialized RJx4a65c, Cond.fieldLink RX6 10 "ColourParts" "shapes" "Ljava/util/ArrayList;", Cond.arrayClass .int, Cond.fieldLink RX6 16 "ColourParts" "ringShapes" "[I", Cond.fieldLink RX6 20 "ColourParts" "ringLength" "I", Cond.fieldLink RX6 24 "ColourParts" "kept" "LColourParts$Colouring;", Cond.fieldLink RX6 28 "ColourParts" "latestClosed" "Z", Cond.constantLong RX6 32 (65536), Cond.methodLink RX6 34 Lib.MathLoose.min_long.x, Cond.static Lib.MathLoose.min_long.x, Cond.initialized "java/lang/Math", Cond.code Lib.MathLoose.min_long.x Lib.MathLoose.min_long.code 4 (some .long), Cond.methodLink RX6 40 Lib.MathLoose.max_long.x, Cond.static Lib.MathLoose.max_long.x, Cond.code Lib.MathLoose.max_long.x Lib.MathLoose.max_long.code 4 (some .long), Cond.fieldLink RX6 43 "ColourParts" "square" "J", Cond.methodLink RX6 9 yJx4a65c_init_da8c8, Cond.instanceMethod yJx4a65c_init_da8c8, Cond.code yJx4a65c_init_da8c8 cJx4a65c_init_da8c8 1 none]
def wsX6_init_r2 : List Cond := [Cond.fieldLink RJx4a65c 39 "java/util/ArrayList" "DEFAULTCAPACITY_EMPTY_ELEMENTDATA" "[Ljava/lang/Object;", Cond.fieldLink RJx4a65c 9 "java/util/ArrayList" "elementData" "[Ljava/lang/Object;", Cond.methodLink RJx4a65c 1 yJxc12de_init_da8c8, Cond.instanceMethod yJxc12de_init_da8c8, Cond.initialized RJxc12de, Cond.code yJxc12de_init_da8c8 cJxc12de_init_da8c8 1 none, Cond.fieldLink RJxc12de 7 "java/util/AbstractList" "modCount" "I", Cond.methodLink RJxc12de 1 yJxa1e45_init_da8c8, Cond.instanceMethod yJxa1e45_init_da8c8, Cond.initialized RJxa1e45, Cond.code yJxa1e45_init_da8c8 cJxa1e45_init_da8c8 1 none, Cond.methodLink RJxa1e45 1 objectInit]
def wsX6_init : List Cond := .code yX6_init cX6_init 5 none :: ((wsX6_init_r1 ++ wsX6_init_r2) ++ wsJx4a65c0 ++ wsX60)
def wsX6_countPieces_r1 : List Cond := [Cond.fieldLink RX6 10 "ColourParts" "shapes" "Ljava/util/ArrayList;", Cond.classLink RX6 61 "ColourParts$Shape", Cond.fieldLink RX6 79 "ColourParts$Shape" "stitchCount" "I", Cond.methodLink RX6 47 yJx4a65c_size_8abf5, Cond.instanceMethod yJx4a65c_size_8abf5, Cond.selects RJx4a65c yJx4a65c_size_8abf5 yJx4a65c_size_8abf5, Cond.initialized RJx4a65c, Cond.code yJx4a65c_size_8abf5 cJx4a65c_size_8abf5 1 (some .int), Cond.fieldLink RJx4a65c 48 "java/util/ArrayList" "size" "I", Cond.methodLink RX6 72 yJx4a65c_get_915e3, Cond.instanceMethod yJx4a65c_get_915e3, Cond.selects RJx4a65c yJx4a65c_get_915e3 yJx4a65c_get_915e3, Cond.code yJx4a65c_get_915e3 cJx4a65c_get_915e3 2 (some (.object "java/lang/Object")), Cond.methodLink RJx4a65c 118 yJ15_checkIndex_7cf53, Cond.static yJ15_checkIndex_7cf53, Cond.initialized RJ15, Cond.code yJ15_checkIndex_7cf53 cJ15_checkIndex_7cf53 2 (some .int), Cond.methodLink RJ15 105 yJ3_checkIndex_8e157, Cond.static yJ3_checkIndex_8e157, Cond.initialized RJ3, Cond.code yJ3_checkIndex_8e157 cJ3_checkIndex_8e157 3 (some .int), Cond.methodLink RJx4a65c 123 yJx4a65c_elementData_915e3, Cond.instanceMethod yJx4a65c_elementData_915e3, Cond.selects RJx4a65c yJx4a65c_elementData_915e3 yJx4a65c_elementData_915e3]
def wsX6_countPieces_r2 : List Cond := [Cond.code yJx4a65c_elementData_915e3 cJx4a65c_elementData_915e3 2 (some (.object "java/lang/Object")), Cond.fieldLink RJx4a65c 9 "java/util/ArrayList" "elementData" "[Ljava/lang/Object;"]
def wsX6_countPieces : List Cond := .code yX6_countPieces cX6_countPieces 3 (some .int) :: ((wsX6_countPieces_r1 ++ wsX6_countPieces_r2) ++ wsX60 ++ wsX50 ++ wsJx4a65c0)
def wsX6_shape_r1 : List Cond := [Cond.classLink RX6 54 "java/lang/IllegalStateException", Cond.initialized "java/lang/IllegalStateException", Cond.fieldLink RX6 10 "ColourParts" "shapes" "Ljava/util/ArrayList;", Cond.classLink RX6 61 RX5, Cond.instantiable RX5 9, Cond.initialized RX5, Cond.methodLink RX6 47 yJx4a65c_size_8abf5, Cond.instanceMethod yJx4a65c_size_8abf5, Cond.selects RJx4a65c yJx4a65c_size_8abf5 yJx4a65c_size_8abf5, Cond.initialized RJx4a65c, Cond.code yJx4a65c_size_8abf5 cJx4a65c_size_8abf5 1 (some .int), Cond.fieldLink RJx4a65c 48 "java/util/ArrayList" "size" "I", Cond.methodLink RX6 51 yX6_countPieces, Cond.instanceMethod yX6_countPieces, Cond.selects RX6 yX6_countPieces yX6_countPieces, Cond.initialized RX6, Cond.code yX6_countPieces cX6_countPieces 3 (some .int), Cond.classLink RX6 61 "ColourParts$Shape", Cond.fieldLink RX6 79 "ColourParts$Shape" "stitchCount" "I", Cond.methodLink RX6 72 yJx4a65c_get_915e3, Cond.instanceMethod yJx4a65c_get_915e3, Cond.selects RJx4a65c yJx4a65c_get_915e3 yJx4a65c_get_915e3, Cond.code yJx4a65c_get_915e3 cJx4a65c_get_915e3 2 (some (.object "java/lang/Object")), Cond.methodLink RJx4a65c 118 yJ15_checkIndex_7cf53]
def wsX6_shape_r2 : List Cond := [Cond.static yJ15_checkIndex_7cf53, Cond.initialized RJ15, Cond.code yJ15_checkIndex_7cf53 cJ15_checkIndex_7cf53 2 (some .int), Cond.methodLink RJ15 105 yJ3_checkIndex_8e157, Cond.static yJ3_checkIndex_8e157, Cond.initialized RJ3, Cond.code yJ3_checkIndex_8e157 cJ3_checkIndex_8e157 3 (some .int), Cond.methodLink RJx4a65c 123 yJx4a65c_elementData_915e3, Cond.instanceMethod yJx4a65c_elementData_915e3, Cond.selects RJx4a65c yJx4a65c_elementData_915e3 yJx4a65c_elementData_915e3, Cond.code yJx4a65c_elementData_915e3 cJx4a65c_elementData_915e3 2 (some (.object "java/lang/Object")), Cond.fieldLink RJx4a65c 9 "java/util/ArrayList" "elementData" "[Ljava/lang/Object;", Cond.instanceMethod yX5_init, Cond.code yX5_init cX5_init 1 none, Cond.methodLink RX5 3 objectInit, Cond.instanceMethod objectInit, Cond.code objectInit ⟨#[0xb1]⟩ 1 none, Cond.classLink RX5 9 RJx4a65c, Cond.instantiable RJx4a65c 3, Cond.fieldLink RX5 12 "ColourParts$Shape" "boxes" "Ljava/util/ArrayList;", Cond.arrayClass .long, Cond.fieldLink RX5 18 "ColourParts$Shape" "places" "[J", Cond.fieldLink RX5 22 "ColourParts$Shape" "stitchCount" "I", Cond.fieldLink RX5 26 "ColourParts$Shape" "standing" "Z"]
def wsX6_shape_r3 : List Cond := [Cond.fieldLink RX5 30 "ColourParts$Shape" "told" "I", Cond.fieldLink RX5 33 "ColourParts$Shape" "nearShapes" "I", Cond.fieldLink RX5 36 "ColourParts$Shape" "half" "Z", Cond.fieldLink RX5 39 "ColourParts$Shape" "halfX" "J", Cond.fieldLink RX5 43 "ColourParts$Shape" "halfY" "J", Cond.methodLink RX5 11 yJx4a65c_init_da8c8, Cond.instanceMethod yJx4a65c_init_da8c8, Cond.code yJx4a65c_init_da8c8 cJx4a65c_init_da8c8 1 none, Cond.fieldLink RJx4a65c 39 "java/util/ArrayList" "DEFAULTCAPACITY_EMPTY_ELEMENTDATA" "[Ljava/lang/Object;", Cond.methodLink RJx4a65c 1 yJxc12de_init_da8c8, Cond.instanceMethod yJxc12de_init_da8c8, Cond.initialized RJxc12de, Cond.code yJxc12de_init_da8c8 cJxc12de_init_da8c8 1 none, Cond.fieldLink RJxc12de 7 "java/util/AbstractList" "modCount" "I", Cond.methodLink RJxc12de 1 yJxa1e45_init_da8c8, Cond.instanceMethod yJxa1e45_init_da8c8, Cond.initialized RJxa1e45, Cond.code yJxa1e45_init_da8c8 cJxa1e45_init_da8c8 1 none, Cond.methodLink RJxa1e45 1 objectInit, Cond.methodLink RX6 64 yJx4a65c_add_9ea2d, Cond.instanceMethod yJx4a65c_add_9ea2d, Cond.selects RJx4a65c yJx4a65c_add_9ea2d yJx4a65c_add_9ea2d, Cond.code yJx4a65c_add_9ea2d cJx4a65c_add_9ea2d 2 (some .boolean), Cond.fieldLink RJx4a65c 63 "java/util/ArrayList" "modCount" "I"]
def wsX6_shape_r4 : List Cond := [Cond.sameField "java/util/ArrayList" "java/util/AbstractList" "modCount" "I", Cond.methodLink RJx4a65c 131 yJx4a65c_add_72be8, Cond.instanceMethod yJx4a65c_add_72be8, Cond.selects RJx4a65c yJx4a65c_add_72be8 yJx4a65c_add_72be8, Cond.code yJx4a65c_add_72be8 cJx4a65c_add_72be8 4 none, Cond.methodLink RJx4a65c 129 yJx4a65c_grow_d5877, Cond.instanceMethod yJx4a65c_grow_d5877, Cond.selects RJx4a65c yJx4a65c_grow_d5877 yJx4a65c_grow_d5877, Cond.code yJx4a65c_grow_d5877 cJx4a65c_grow_d5877 1 (some (.array (.object "java/lang/Object"))), Cond.methodLink RJx4a65c 69 yJx4a65c_grow_92f84, Cond.instanceMethod yJx4a65c_grow_92f84, Cond.selects RJx4a65c yJx4a65c_grow_92f84 yJx4a65c_grow_92f84, Cond.code yJx4a65c_grow_92f84 cJx4a65c_grow_92f84 4 (some (.array (.object "java/lang/Object"))), Cond.methodLink RJx4a65c 79 Lib.Math.max.name, Cond.static Lib.Math.max.name, Cond.initialized "java/lang/Math", Cond.code Lib.Math.max.name Lib.Math.max.code 2 (some .int), Cond.classLink RJx4a65c 7 "java/lang/Object", Cond.methodLink RJx4a65c 73 yJ8_newLength_cabcc, Cond.static yJ8_newLength_cabcc, Cond.initialized RJ8, Cond.code yJ8_newLength_cabcc cJ8_newLength_cabcc 4 (some .int), Cond.methodLink RJ8 194 Lib.Math.max.name, Cond.constant RJ8 200 (2147483639)]
def wsX6_shape_r5 : List Cond := [Cond.methodLink RJ8 201 yJ8_hugeLength_7cf53, Cond.static yJ8_hugeLength_7cf53, Cond.code yJ8_hugeLength_7cf53 cJ8_hugeLength_7cf53 3 (some .int), Cond.methodLink RJx4a65c 66 yJ7_copyOf_1904c, Cond.static yJ7_copyOf_1904c, Cond.initialized RJ7, Cond.code yJ7_copyOf_1904c cJ7_copyOf_1904c 2 (some (.array (.object "java/lang/Object"))), Cond.methodLink RJ7 86 ⟨"java/lang/Object", "getClass", "()Ljava/lang/Class;"⟩, Cond.selects "[Ljava/lang/Object;" ⟨"java/lang/Object", "getClass", "()Ljava/lang/Class;"⟩ ⟨"java/lang/Object", "getClass", "()Ljava/lang/Class;"⟩, Cond.instanceMethod ⟨"java/lang/Object", "getClass", "()Ljava/lang/Class;"⟩, Cond.native ⟨"java/lang/Object", "getClass", "()Ljava/lang/Class;"⟩, Cond.methodLink RJ7 300 yJ7_copyOf_6403c, Cond.static yJ7_copyOf_6403c, Cond.code yJ7_copyOf_6403c cJ7_copyOf_6403c 4 (some (.array (.object "java/lang/Object"))), Cond.classLink RJ7 110 "[Ljava/lang/Object;", Cond.classLink RJ7 2 "java/lang/Object", Cond.methodLink RJ7 304 Lib.Math.min.name, Cond.static Lib.Math.min.name, Cond.code Lib.Math.min.name Lib.Math.min.code 2 (some .int), Cond.methodLink RJ7 150 arraycopyName, Cond.native arraycopyName, Cond.static arraycopyName, Cond.initialized "java/lang/System"]
def wsX6_shape : List Cond := .code yX6_shape cX6_shape 1 (some .int) :: ((wsX6_shape_r1 ++ (wsX6_shape_r2 ++ (wsX6_shape_r3 ++ (wsX6_shape_r4 ++ wsX6_shape_r5)))) ++ wsX60 ++ wsX50 ++ wsJx4a65c0 ++ (vx_atS RX6 58 "java/lang/IllegalStateException" ["java/lang/RuntimeException", "java/lang/Exception"]).filter goodWord)
def wsX6_needShape : List Cond := .code yX6_needShape cX6_needShape 2 none :: ([.classLink RX6 153 "java/lang/IndexOutOfBoundsException", .initialized "java/lang/IndexOutOfBoundsException", .fieldLink RX6 10 "ColourParts" "shapes" "Ljava/util/ArrayList;", .methodLink RX6 47 yJx4a65c_size_8abf5, .instanceMethod yJx4a65c_size_8abf5, .selects RJx4a65c yJx4a65c_size_8abf5 yJx4a65c_size_8abf5, .initialized RJx4a65c, .code yJx4a65c_size_8abf5 cJx4a65c_size_8abf5 1 (some .int), .fieldLink RJx4a65c 48 "java/util/ArrayList" "size" "I"] ++ wsX60 ++ wsJx4a65c0 ++ (vx_atS RX6 157 "java/lang/IndexOutOfBoundsException" ["java/lang/RuntimeException", "java/lang/Exception"]).filter goodWord)
def wsX6_isTooFar : List Cond := .code yX6_isTooFar cX6_isTooFar 2 (some .boolean) :: ([.constantLong RX6 226 (-1000000), .constantLong RX6 228 (1000000)])
def wsX6_findNearOnes_r1 : List Cond := [Cond.fieldLink RX6 10 "ColourParts" "shapes" "Ljava/util/ArrayList;", Cond.classLink RX6 61 "ColourParts$Shape", Cond.fieldLink RX6 76 "ColourParts$Shape" "boxes" "Ljava/util/ArrayList;", Cond.classLink RX6 175 "ColourParts$Box", Cond.fieldLink RX6 43 "ColourParts" "square" "J", Cond.fieldLink RX6 103 "ColourParts$Shape" "nearShapes" "I", Cond.methodLink RX6 72 yJx4a65c_get_915e3, Cond.instanceMethod yJx4a65c_get_915e3, Cond.selects RJx4a65c yJx4a65c_get_915e3 yJx4a65c_get_915e3, Cond.initialized RJx4a65c, Cond.code yJx4a65c_get_915e3 cJx4a65c_get_915e3 2 (some (.object "java/lang/Object")), Cond.fieldLink RJx4a65c 48 "java/util/ArrayList" "size" "I", Cond.methodLink RJx4a65c 118 yJ15_checkIndex_7cf53, Cond.static yJ15_checkIndex_7cf53, Cond.initialized RJ15, Cond.code yJ15_checkIndex_7cf53 cJ15_checkIndex_7cf53 2 (some .int), Cond.methodLink RJ15 105 yJ3_checkIndex_8e157, Cond.static yJ3_checkIndex_8e157, Cond.initialized RJ3, Cond.code yJ3_checkIndex_8e157 cJ3_checkIndex_8e157 3 (some .int), Cond.methodLink RJx4a65c 123 yJx4a65c_elementData_915e3, Cond.instanceMethod yJx4a65c_elementData_915e3, Cond.selects RJx4a65c yJx4a65c_elementData_915e3 yJx4a65c_elementData_915e3, Cond.code yJx4a65c_elementData_915e3 cJx4a65c_elementData_915e3 2 (some (.object "java/lang/Object"))]
def wsX6_findNearOnes_r2 : List Cond := [Cond.fieldLink RJx4a65c 9 "java/util/ArrayList" "elementData" "[Ljava/lang/Object;", Cond.methodLink RX6 230 yJx4a65c_isEmpty_aae02, Cond.instanceMethod yJx4a65c_isEmpty_aae02, Cond.selects RJx4a65c yJx4a65c_isEmpty_aae02 yJx4a65c_isEmpty_aae02, Cond.code yJx4a65c_isEmpty_aae02 cJx4a65c_isEmpty_aae02 1 (some .boolean), Cond.methodLink RX6 47 yJx4a65c_size_8abf5, Cond.instanceMethod yJx4a65c_size_8abf5, Cond.selects RJx4a65c yJx4a65c_size_8abf5 yJx4a65c_size_8abf5, Cond.code yJx4a65c_size_8abf5 cJx4a65c_size_8abf5 1 (some .int), Cond.methodLink RX6 233 yX0_isNearAny, Cond.instanceMethod yX0_isNearAny, Cond.selects RX0 yX0_isNearAny yX0_isNearAny, Cond.initialized RX0, Cond.code yX0_isNearAny cX0_isNearAny 5 (some .boolean), Cond.classLink RX0 8 "ColourParts$Box", Cond.methodLink RX0 22 yJx4a65c_size_8abf5, Cond.methodLink RX0 28 yJx4a65c_get_915e3, Cond.methodLink RX0 32 yX0_isNearBox, Cond.instanceMethod yX0_isNearBox, Cond.selects RX0 yX0_isNearBox yX0_isNearBox, Cond.code yX0_isNearBox cX0_isNearBox 8 (some .boolean), Cond.fieldLink RX0 7 "ColourParts$Box" "left" "J", Cond.fieldLink RX0 16 "ColourParts$Box" "right" "J", Cond.fieldLink RX0 13 "ColourParts$Box" "low" "J"]
def wsX6_findNearOnes_r3 : List Cond := [Cond.fieldLink RX0 19 "ColourParts$Box" "high" "J", Cond.methodLink RX0 36 yX0_gap, Cond.static yX0_gap, Cond.code yX0_gap cX0_gap 8 (some .long), Cond.methodLink RX0 40 Lib.MathLoose.max_long.x, Cond.static Lib.MathLoose.max_long.x, Cond.initialized "java/lang/Math", Cond.code Lib.MathLoose.max_long.x Lib.MathLoose.max_long.code 4 (some .long)]
def wsX6_findNearOnes : List Cond := .code yX6_findNearOnes cX6_findNearOnes 6 none :: ((wsX6_findNearOnes_r1 ++ (wsX6_findNearOnes_r2 ++ wsX6_findNearOnes_r3)) ++ wsX60 ++ wsX50 ++ wsJx4a65c0 ++ wsX00)
def wsX6_corner_r1 : List Cond := [Cond.classLink RX6 54 "java/lang/IllegalStateException", Cond.initialized "java/lang/IllegalStateException", Cond.classLink RX6 88 "java/lang/IllegalArgumentException", Cond.initialized "java/lang/IllegalArgumentException", Cond.fieldLink RX6 10 "ColourParts" "shapes" "Ljava/util/ArrayList;", Cond.classLink RX6 61 "ColourParts$Shape", Cond.fieldLink RX6 76 "ColourParts$Shape" "boxes" "Ljava/util/ArrayList;", Cond.fieldLink RX6 79 "ColourParts$Shape" "stitchCount" "I", Cond.methodLink RX6 68 yX6_needShape, Cond.instanceMethod yX6_needShape, Cond.selects RX6 yX6_needShape yX6_needShape, Cond.initialized RX6, Cond.code yX6_needShape cX6_needShape 2 none, Cond.classLink RX6 153 "java/lang/IndexOutOfBoundsException", Cond.initialized "java/lang/IndexOutOfBoundsException", Cond.methodLink RX6 47 yJx4a65c_size_8abf5, Cond.instanceMethod yJx4a65c_size_8abf5, Cond.selects RJx4a65c yJx4a65c_size_8abf5 yJx4a65c_size_8abf5, Cond.initialized RJx4a65c, Cond.code yJx4a65c_size_8abf5 cJx4a65c_size_8abf5 1 (some .int), Cond.fieldLink RJx4a65c 48 "java/util/ArrayList" "size" "I", Cond.methodLink RX6 72 yJx4a65c_get_915e3, Cond.instanceMethod yJx4a65c_get_915e3, Cond.selects RJx4a65c yJx4a65c_get_915e3 yJx4a65c_get_915e3]
def wsX6_corner_r2 : List Cond := [Cond.code yJx4a65c_get_915e3 cJx4a65c_get_915e3 2 (some (.object "java/lang/Object")), Cond.methodLink RJx4a65c 118 yJ15_checkIndex_7cf53, Cond.static yJ15_checkIndex_7cf53, Cond.initialized RJ15, Cond.code yJ15_checkIndex_7cf53 cJ15_checkIndex_7cf53 2 (some .int), Cond.methodLink RJ15 105 yJ3_checkIndex_8e157, Cond.static yJ3_checkIndex_8e157, Cond.initialized RJ3, Cond.code yJ3_checkIndex_8e157 cJ3_checkIndex_8e157 3 (some .int), Cond.methodLink RJx4a65c 123 yJx4a65c_elementData_915e3, Cond.instanceMethod yJx4a65c_elementData_915e3, Cond.selects RJx4a65c yJx4a65c_elementData_915e3 yJx4a65c_elementData_915e3, Cond.code yJx4a65c_elementData_915e3 cJx4a65c_elementData_915e3 2 (some (.object "java/lang/Object")), Cond.fieldLink RJx4a65c 9 "java/util/ArrayList" "elementData" "[Ljava/lang/Object;", Cond.methodLink RX6 84 yX6_isTooFar, Cond.static yX6_isTooFar, Cond.code yX6_isTooFar cX6_isTooFar 2 (some .boolean), Cond.constantLong RX6 226 (-1000000), Cond.constantLong RX6 228 (1000000), Cond.methodLink RX6 93 yX5_addCorner, Cond.instanceMethod yX5_addCorner, Cond.selects RX5 yX5_addCorner yX5_addCorner, Cond.initialized RX5, Cond.code yX5_addCorner cX5_addCorner 5 (some .boolean)]
def wsX6_corner_r3 : List Cond := [Cond.fieldLink RX5 36 "ColourParts$Shape" "half" "Z", Cond.fieldLink RX5 12 "ColourParts$Shape" "boxes" "Ljava/util/ArrayList;", Cond.classLink RX5 50 RX0, Cond.instantiable RX0 4, Cond.initialized RX0, Cond.fieldLink RX5 39 "ColourParts$Shape" "halfX" "J", Cond.methodLink RX5 52 Lib.MathLoose.min_long.x, Cond.static Lib.MathLoose.min_long.x, Cond.initialized "java/lang/Math", Cond.code Lib.MathLoose.min_long.x Lib.MathLoose.min_long.code 4 (some .long), Cond.fieldLink RX5 43 "ColourParts$Shape" "halfY" "J", Cond.methodLink RX5 58 Lib.MathLoose.max_long.x, Cond.static Lib.MathLoose.max_long.x, Cond.code Lib.MathLoose.max_long.x Lib.MathLoose.max_long.code 4 (some .long), Cond.methodLink RX5 61 yX0_init, Cond.instanceMethod yX0_init, Cond.code yX0_init cX0_init 9 none, Cond.methodLink RX0 1 objectInit, Cond.instanceMethod objectInit, Cond.code objectInit ⟨#[0xb1]⟩ 1 none, Cond.fieldLink RX0 7 "ColourParts$Box" "left" "J", Cond.fieldLink RX0 13 "ColourParts$Box" "low" "J", Cond.fieldLink RX0 16 "ColourParts$Box" "right" "J", Cond.fieldLink RX0 19 "ColourParts$Box" "high" "J"]
def wsX6_corner_r4 : List Cond := [Cond.methodLink RX5 64 yJx4a65c_add_9ea2d, Cond.instanceMethod yJx4a65c_add_9ea2d, Cond.selects RJx4a65c yJx4a65c_add_9ea2d yJx4a65c_add_9ea2d, Cond.code yJx4a65c_add_9ea2d cJx4a65c_add_9ea2d 2 (some .boolean), Cond.fieldLink RJx4a65c 63 "java/util/ArrayList" "modCount" "I", Cond.sameField "java/util/ArrayList" "java/util/AbstractList" "modCount" "I", Cond.methodLink RJx4a65c 131 yJx4a65c_add_72be8, Cond.instanceMethod yJx4a65c_add_72be8, Cond.selects RJx4a65c yJx4a65c_add_72be8 yJx4a65c_add_72be8, Cond.code yJx4a65c_add_72be8 cJx4a65c_add_72be8 4 none, Cond.methodLink RJx4a65c 129 yJx4a65c_grow_d5877, Cond.instanceMethod yJx4a65c_grow_d5877, Cond.selects RJx4a65c yJx4a65c_grow_d5877 yJx4a65c_grow_d5877, Cond.code yJx4a65c_grow_d5877 cJx4a65c_grow_d5877 1 (some (.array (.object "java/lang/Object"))), Cond.methodLink RJx4a65c 69 yJx4a65c_grow_92f84, Cond.instanceMethod yJx4a65c_grow_92f84, Cond.selects RJx4a65c yJx4a65c_grow_92f84 yJx4a65c_grow_92f84, Cond.code yJx4a65c_grow_92f84 cJx4a65c_grow_92f84 4 (some (.array (.object "java/lang/Object"))), Cond.fieldLink RJx4a65c 39 "java/util/ArrayList" "DEFAULTCAPACITY_EMPTY_ELEMENTDATA" "[Ljava/lang/Object;", Cond.methodLink RJx4a65c 79 Lib.Math.max.name, Cond.static Lib.Math.max.name, Cond.code Lib.Math.max.name Lib.Math.max.code 2 (some .int), Cond.classLink RJx4a65c 7 "java/lang/Object", Cond.methodLink RJx4a65c 73 yJ8_newLength_cabcc]
def wsX6_corner_r5 : List Cond := [Cond.static yJ8_newLength_cabcc, Cond.initialized RJ8, Cond.code yJ8_newLength_cabcc cJ8_newLength_cabcc 4 (some .int), Cond.methodLink RJ8 194 Lib.Math.max.name, Cond.constant RJ8 200 (2147483639), Cond.methodLink RJ8 201 yJ8_hugeLength_7cf53, Cond.static yJ8_hugeLength_7cf53, Cond.code yJ8_hugeLength_7cf53 cJ8_hugeLength_7cf53 3 (some .int), Cond.methodLink RJx4a65c 66 yJ7_copyOf_1904c, Cond.static yJ7_copyOf_1904c, Cond.initialized RJ7, Cond.code yJ7_copyOf_1904c cJ7_copyOf_1904c 2 (some (.array (.object "java/lang/Object"))), Cond.methodLink RJ7 86 ⟨"java/lang/Object", "getClass", "()Ljava/lang/Class;"⟩, Cond.selects "[Ljava/lang/Object;" ⟨"java/lang/Object", "getClass", "()Ljava/lang/Class;"⟩ ⟨"java/lang/Object", "getClass", "()Ljava/lang/Class;"⟩, Cond.instanceMethod ⟨"java/lang/Object", "getClass", "()Ljava/lang/Class;"⟩, Cond.native ⟨"java/lang/Object", "getClass", "()Ljava/lang/Class;"⟩, Cond.methodLink RJ7 300 yJ7_copyOf_6403c, Cond.static yJ7_copyOf_6403c, Cond.code yJ7_copyOf_6403c cJ7_copyOf_6403c 4 (some (.array (.object "java/lang/Object"))), Cond.classLink RJ7 110 "[Ljava/lang/Object;", Cond.classLink RJ7 2 "java/lang/Object", Cond.methodLink RJ7 304 Lib.Math.min.name, Cond.static Lib.Math.min.name, Cond.code Lib.Math.min.name Lib.Math.min.code 2 (some .int)]
def wsX6_corner_r6 : List Cond := [Cond.methodLink RJ7 150 arraycopyName, Cond.native arraycopyName, Cond.static arraycopyName, Cond.initialized "java/lang/System", Cond.methodLink RX6 97 yX6_findNearOnes, Cond.instanceMethod yX6_findNearOnes, Cond.selects RX6 yX6_findNearOnes yX6_findNearOnes, Cond.code yX6_findNearOnes cX6_findNearOnes 6 none, Cond.classLink RX6 175 "ColourParts$Box", Cond.fieldLink RX6 43 "ColourParts" "square" "J", Cond.fieldLink RX6 103 "ColourParts$Shape" "nearShapes" "I", Cond.methodLink RX6 230 yJx4a65c_isEmpty_aae02, Cond.instanceMethod yJx4a65c_isEmpty_aae02, Cond.selects RJx4a65c yJx4a65c_isEmpty_aae02 yJx4a65c_isEmpty_aae02, Cond.code yJx4a65c_isEmpty_aae02 cJx4a65c_isEmpty_aae02 1 (some .boolean), Cond.methodLink RX6 233 yX0_isNearAny, Cond.instanceMethod yX0_isNearAny, Cond.selects RX0 yX0_isNearAny yX0_isNearAny, Cond.code yX0_isNearAny cX0_isNearAny 5 (some .boolean), Cond.classLink RX0 8 "ColourParts$Box", Cond.methodLink RX0 22 yJx4a65c_size_8abf5, Cond.methodLink RX0 28 yJx4a65c_get_915e3, Cond.methodLink RX0 32 yX0_isNearBox, Cond.instanceMethod yX0_isNearBox]
def wsX6_corner_r7 : List Cond := [Cond.selects RX0 yX0_isNearBox yX0_isNearBox, Cond.code yX0_isNearBox cX0_isNearBox 8 (some .boolean), Cond.methodLink RX0 36 yX0_gap, Cond.static yX0_gap, Cond.code yX0_gap cX0_gap 8 (some .long), Cond.methodLink RX0 40 Lib.MathLoose.max_long.x]
def wsX6_corner : List Cond := .code yX6_corner cX6_corner 8 (some .boolean) :: ((wsX6_corner_r1 ++ (wsX6_corner_r2 ++ (wsX6_corner_r3 ++ (wsX6_corner_r4 ++ (wsX6_corner_r5 ++ (wsX6_corner_r6 ++ wsX6_corner_r7)))))) ++ wsX60 ++ wsX50 ++ wsJx4a65c0 ++ wsX00 ++ (vx_atS RX6 58 "java/lang/IllegalStateException" ["java/lang/RuntimeException", "java/lang/Exception"]).filter goodWord ++ (vx_atS RX6 92 "java/lang/IllegalArgumentException" ["java/lang/RuntimeException", "java/lang/Exception"]).filter goodWord ++ (vx_atS RX6 157 "java/lang/IndexOutOfBoundsException" ["java/lang/RuntimeException", "java/lang/Exception"]).filter goodWord)
def wsX6_needNoneOpen_r1 : List Cond := [Cond.classLink RX6 54 "java/lang/IllegalStateException", Cond.initialized "java/lang/IllegalStateException", Cond.fieldLink RX6 10 "ColourParts" "shapes" "Ljava/util/ArrayList;", Cond.classLink RX6 61 "ColourParts$Shape", Cond.methodLink RX6 47 yJx4a65c_size_8abf5, Cond.instanceMethod yJx4a65c_size_8abf5, Cond.selects RJx4a65c yJx4a65c_size_8abf5 yJx4a65c_size_8abf5, Cond.initialized RJx4a65c, Cond.code yJx4a65c_size_8abf5 cJx4a65c_size_8abf5 1 (some .int), Cond.fieldLink RJx4a65c 48 "java/util/ArrayList" "size" "I", Cond.methodLink RX6 72 yJx4a65c_get_915e3, Cond.instanceMethod yJx4a65c_get_915e3, Cond.selects RJx4a65c yJx4a65c_get_915e3 yJx4a65c_get_915e3, Cond.code yJx4a65c_get_915e3 cJx4a65c_get_915e3 2 (some (.object "java/lang/Object")), Cond.methodLink RJx4a65c 118 yJ15_checkIndex_7cf53, Cond.static yJ15_checkIndex_7cf53, Cond.initialized RJ15, Cond.code yJ15_checkIndex_7cf53 cJ15_checkIndex_7cf53 2 (some .int), Cond.methodLink RJ15 105 yJ3_checkIndex_8e157, Cond.static yJ3_checkIndex_8e157, Cond.initialized RJ3, Cond.code yJ3_checkIndex_8e157 cJ3_checkIndex_8e157 3 (some .int), Cond.methodLink RJx4a65c 123 yJx4a65c_elementData_915e3, Cond.instanceMethod yJx4a65c_elementData_915e3]
def wsX6_needNoneOpen_r2 : List Cond := [Cond.selects RJx4a65c yJx4a65c_elementData_915e3 yJx4a65c_elementData_915e3, Cond.code yJx4a65c_elementData_915e3 cJx4a65c_elementData_915e3 2 (some (.object "java/lang/Object")), Cond.fieldLink RJx4a65c 9 "java/util/ArrayList" "elementData" "[Ljava/lang/Object;", Cond.methodLink RX6 221 yX5_isOpen, Cond.instanceMethod yX5_isOpen, Cond.selects RX5 yX5_isOpen yX5_isOpen, Cond.initialized RX5, Cond.code yX5_isOpen cX5_isOpen 1 (some .boolean), Cond.fieldLink RX5 36 "ColourParts$Shape" "half" "Z", Cond.fieldLink RX5 12 "ColourParts$Shape" "boxes" "Ljava/util/ArrayList;", Cond.methodLink RX5 46 yJx4a65c_isEmpty_aae02, Cond.instanceMethod yJx4a65c_isEmpty_aae02, Cond.selects RJx4a65c yJx4a65c_isEmpty_aae02 yJx4a65c_isEmpty_aae02, Cond.code yJx4a65c_isEmpty_aae02 cJx4a65c_isEmpty_aae02 1 (some .boolean)]
def wsX6_needNoneOpen : List Cond := .code yX6_needNoneOpen cX6_needNoneOpen 2 none :: ((wsX6_needNoneOpen_r1 ++ wsX6_needNoneOpen_r2) ++ wsX60 ++ wsJx4a65c0 ++ wsX50 ++ (vx_atS RX6 58 "java/lang/IllegalStateException" ["java/lang/RuntimeException", "java/lang/Exception"]).filter goodWord)
def wsJ6_bitCount_0f7a4 : List Cond := .code yJ6_bitCount_0f7a4 cJ6_bitCount_0f7a4 1 (some .int) :: ([.constant RJ6 265 (1431655765), .constant RJ6 266 (858993459), .constant RJ6 267 (252645135)])
def wsX6_near_r1 : List Cond := [Cond.fieldLink RX6 10 "ColourParts" "shapes" "Ljava/util/ArrayList;", Cond.classLink RX6 61 "ColourParts$Shape", Cond.fieldLink RX6 103 "ColourParts$Shape" "nearShapes" "I", Cond.methodLink RX6 100 yX6_needNoneOpen, Cond.instanceMethod yX6_needNoneOpen, Cond.selects RX6 yX6_needNoneOpen yX6_needNoneOpen, Cond.initialized RX6, Cond.code yX6_needNoneOpen cX6_needNoneOpen 2 none, Cond.classLink RX6 54 "java/lang/IllegalStateException", Cond.initialized "java/lang/IllegalStateException", Cond.methodLink RX6 47 yJx4a65c_size_8abf5, Cond.instanceMethod yJx4a65c_size_8abf5, Cond.selects RJx4a65c yJx4a65c_size_8abf5 yJx4a65c_size_8abf5, Cond.initialized RJx4a65c, Cond.code yJx4a65c_size_8abf5 cJx4a65c_size_8abf5 1 (some .int), Cond.fieldLink RJx4a65c 48 "java/util/ArrayList" "size" "I", Cond.methodLink RX6 72 yJx4a65c_get_915e3, Cond.instanceMethod yJx4a65c_get_915e3, Cond.selects RJx4a65c yJx4a65c_get_915e3 yJx4a65c_get_915e3, Cond.code yJx4a65c_get_915e3 cJx4a65c_get_915e3 2 (some (.object "java/lang/Object")), Cond.methodLink RJx4a65c 118 yJ15_checkIndex_7cf53, Cond.static yJ15_checkIndex_7cf53, Cond.initialized RJ15, Cond.code yJ15_checkIndex_7cf53 cJ15_checkIndex_7cf53 2 (some .int)]
def wsX6_near_r2 : List Cond := [Cond.methodLink RJ15 105 yJ3_checkIndex_8e157, Cond.static yJ3_checkIndex_8e157, Cond.initialized RJ3, Cond.code yJ3_checkIndex_8e157 cJ3_checkIndex_8e157 3 (some .int), Cond.methodLink RJx4a65c 123 yJx4a65c_elementData_915e3, Cond.instanceMethod yJx4a65c_elementData_915e3, Cond.selects RJx4a65c yJx4a65c_elementData_915e3 yJx4a65c_elementData_915e3, Cond.code yJx4a65c_elementData_915e3 cJx4a65c_elementData_915e3 2 (some (.object "java/lang/Object")), Cond.fieldLink RJx4a65c 9 "java/util/ArrayList" "elementData" "[Ljava/lang/Object;", Cond.methodLink RX6 221 yX5_isOpen, Cond.instanceMethod yX5_isOpen, Cond.selects RX5 yX5_isOpen yX5_isOpen, Cond.initialized RX5, Cond.code yX5_isOpen cX5_isOpen 1 (some .boolean), Cond.fieldLink RX5 36 "ColourParts$Shape" "half" "Z", Cond.fieldLink RX5 12 "ColourParts$Shape" "boxes" "Ljava/util/ArrayList;", Cond.methodLink RX5 46 yJx4a65c_isEmpty_aae02, Cond.instanceMethod yJx4a65c_isEmpty_aae02, Cond.selects RJx4a65c yJx4a65c_isEmpty_aae02 yJx4a65c_isEmpty_aae02, Cond.code yJx4a65c_isEmpty_aae02 cJx4a65c_isEmpty_aae02 1 (some .boolean), Cond.methodLink RX6 106 yJ6_bitCount_0f7a4, Cond.static yJ6_bitCount_0f7a4, Cond.initialized RJ6, Cond.code yJ6_bitCount_0f7a4 cJ6_bitCount_0f7a4 1 (some .int)]
def wsX6_near_r3 : List Cond := [Cond.constant RJ6 265 (1431655765), Cond.constant RJ6 266 (858993459), Cond.constant RJ6 267 (252645135)]
def wsX6_near : List Cond := .code yX6_near cX6_near 3 (some .int) :: ((wsX6_near_r1 ++ (wsX6_near_r2 ++ wsX6_near_r3)) ++ wsX60 ++ wsX50 ++ wsJx4a65c0 ++ (vx_atS RX6 58 "java/lang/IllegalStateException" ["java/lang/RuntimeException", "java/lang/Exception"]).filter goodWord)
def wsX6_cutShapes_r1 : List Cond := [Cond.classLink RX6 119 RX3, Cond.instantiable RX3 1, Cond.initialized RX3, Cond.fieldLink RX6 10 "ColourParts" "shapes" "Ljava/util/ArrayList;", Cond.classLink RX6 61 "ColourParts$Shape", Cond.fieldLink RX6 79 "ColourParts$Shape" "stitchCount" "I", Cond.fieldLink RX6 164 "ColourParts$Shape" "told" "I", Cond.instanceMethod yX3_init, Cond.code yX3_init cX3_init 1 none, Cond.methodLink RX3 3 objectInit, Cond.instanceMethod objectInit, Cond.code objectInit ⟨#[0xb1]⟩ 1 none, Cond.classLink RX3 9 RJx4a65c, Cond.instantiable RJx4a65c 3, Cond.initialized RJx4a65c, Cond.fieldLink RX3 12 "ColourParts$Pieces" "row" "Ljava/util/ArrayList;", Cond.methodLink RX3 11 yJx4a65c_init_da8c8, Cond.instanceMethod yJx4a65c_init_da8c8, Cond.code yJx4a65c_init_da8c8 cJx4a65c_init_da8c8 1 none, Cond.fieldLink RJx4a65c 39 "java/util/ArrayList" "DEFAULTCAPACITY_EMPTY_ELEMENTDATA" "[Ljava/lang/Object;", Cond.fieldLink RJx4a65c 9 "java/util/ArrayList" "elementData" "[Ljava/lang/Object;", Cond.methodLink RJx4a65c 1 yJxc12de_init_da8c8, Cond.instanceMethod yJxc12de_init_da8c8, Cond.initialized RJxc12de]
def wsX6_cutShapes_r2 : List Cond := [Cond.code yJxc12de_init_da8c8 cJxc12de_init_da8c8 1 none, Cond.fieldLink RJxc12de 7 "java/util/AbstractList" "modCount" "I", Cond.methodLink RJxc12de 1 yJxa1e45_init_da8c8, Cond.instanceMethod yJxa1e45_init_da8c8, Cond.initialized RJxa1e45, Cond.code yJxa1e45_init_da8c8 cJxa1e45_init_da8c8 1 none, Cond.methodLink RJxa1e45 1 objectInit, Cond.methodLink RX6 47 yJx4a65c_size_8abf5, Cond.instanceMethod yJx4a65c_size_8abf5, Cond.selects RJx4a65c yJx4a65c_size_8abf5 yJx4a65c_size_8abf5, Cond.code yJx4a65c_size_8abf5 cJx4a65c_size_8abf5 1 (some .int), Cond.fieldLink RJx4a65c 48 "java/util/ArrayList" "size" "I", Cond.methodLink RX6 72 yJx4a65c_get_915e3, Cond.instanceMethod yJx4a65c_get_915e3, Cond.selects RJx4a65c yJx4a65c_get_915e3 yJx4a65c_get_915e3, Cond.code yJx4a65c_get_915e3 cJx4a65c_get_915e3 2 (some (.object "java/lang/Object")), Cond.methodLink RJx4a65c 118 yJ15_checkIndex_7cf53, Cond.static yJ15_checkIndex_7cf53, Cond.initialized RJ15, Cond.code yJ15_checkIndex_7cf53 cJ15_checkIndex_7cf53 2 (some .int), Cond.methodLink RJ15 105 yJ3_checkIndex_8e157, Cond.static yJ3_checkIndex_8e157, Cond.initialized RJ3, Cond.code yJ3_checkIndex_8e157 cJ3_checkIndex_8e157 3 (some .int)]
def wsX6_cutShapes_r3 : List Cond := [Cond.methodLink RJx4a65c 123 yJx4a65c_elementData_915e3, Cond.instanceMethod yJx4a65c_elementData_915e3, Cond.selects RJx4a65c yJx4a65c_elementData_915e3 yJx4a65c_elementData_915e3, Cond.code yJx4a65c_elementData_915e3 cJx4a65c_elementData_915e3 2 (some (.object "java/lang/Object")), Cond.methodLink RX6 238 yX5_pieceBoxes, Cond.instanceMethod yX5_pieceBoxes, Cond.selects RX5 yX5_pieceBoxes yX5_pieceBoxes, Cond.initialized RX5, Cond.code yX5_pieceBoxes cX5_pieceBoxes 3 (some (.object "java/util/ArrayList")), Cond.fieldLink RX5 22 "ColourParts$Shape" "stitchCount" "I", Cond.fieldLink RX5 12 "ColourParts$Shape" "boxes" "Ljava/util/ArrayList;", Cond.classLink RX5 9 RJx4a65c, Cond.classLink RX5 50 "ColourParts$Box", Cond.methodLink RX5 46 yJx4a65c_isEmpty_aae02, Cond.instanceMethod yJx4a65c_isEmpty_aae02, Cond.selects RJx4a65c yJx4a65c_isEmpty_aae02 yJx4a65c_isEmpty_aae02, Cond.code yJx4a65c_isEmpty_aae02 cJx4a65c_isEmpty_aae02 1 (some .boolean), Cond.methodLink RX5 11 yJx4a65c_init_da8c8, Cond.methodLink RX5 68 yJx4a65c_get_915e3, Cond.methodLink RX5 72 yX5_cutBox, Cond.instanceMethod yX5_cutBox, Cond.selects RX5 yX5_cutBox yX5_cutBox, Cond.code yX5_cutBox cX5_cutBox 5 (some (.object "ColourParts$Box")), Cond.fieldLink RX5 26 "ColourParts$Shape" "standing" "Z"]
def wsX6_cutShapes_r4 : List Cond := [Cond.classLink RX5 50 RX0, Cond.instantiable RX0 4, Cond.initialized RX0, Cond.fieldLink RX5 18 "ColourParts$Shape" "places" "[J", Cond.fieldLink RX5 76 "ColourParts$Box" "left" "J", Cond.fieldLink RX5 79 "ColourParts$Box" "low" "J", Cond.fieldLink RX5 82 "ColourParts$Box" "right" "J", Cond.fieldLink RX5 85 "ColourParts$Box" "high" "J", Cond.methodLink RX5 61 yX0_init, Cond.instanceMethod yX0_init, Cond.code yX0_init cX0_init 9 none, Cond.methodLink RX0 1 objectInit, Cond.fieldLink RX0 7 "ColourParts$Box" "left" "J", Cond.fieldLink RX0 13 "ColourParts$Box" "low" "J", Cond.fieldLink RX0 16 "ColourParts$Box" "right" "J", Cond.fieldLink RX0 19 "ColourParts$Box" "high" "J", Cond.methodLink RX5 64 yJx4a65c_add_9ea2d, Cond.instanceMethod yJx4a65c_add_9ea2d, Cond.selects RJx4a65c yJx4a65c_add_9ea2d yJx4a65c_add_9ea2d, Cond.code yJx4a65c_add_9ea2d cJx4a65c_add_9ea2d 2 (some .boolean), Cond.fieldLink RJx4a65c 63 "java/util/ArrayList" "modCount" "I", Cond.sameField "java/util/ArrayList" "java/util/AbstractList" "modCount" "I", Cond.methodLink RJx4a65c 131 yJx4a65c_add_72be8, Cond.instanceMethod yJx4a65c_add_72be8]
def wsX6_cutShapes_r5 : List Cond := [Cond.selects RJx4a65c yJx4a65c_add_72be8 yJx4a65c_add_72be8, Cond.code yJx4a65c_add_72be8 cJx4a65c_add_72be8 4 none, Cond.methodLink RJx4a65c 129 yJx4a65c_grow_d5877, Cond.instanceMethod yJx4a65c_grow_d5877, Cond.selects RJx4a65c yJx4a65c_grow_d5877 yJx4a65c_grow_d5877, Cond.code yJx4a65c_grow_d5877 cJx4a65c_grow_d5877 1 (some (.array (.object "java/lang/Object"))), Cond.methodLink RJx4a65c 69 yJx4a65c_grow_92f84, Cond.instanceMethod yJx4a65c_grow_92f84, Cond.selects RJx4a65c yJx4a65c_grow_92f84 yJx4a65c_grow_92f84, Cond.code yJx4a65c_grow_92f84 cJx4a65c_grow_92f84 4 (some (.array (.object "java/lang/Object"))), Cond.methodLink RJx4a65c 79 Lib.Math.max.name, Cond.static Lib.Math.max.name, Cond.initialized "java/lang/Math", Cond.code Lib.Math.max.name Lib.Math.max.code 2 (some .int), Cond.classLink RJx4a65c 7 "java/lang/Object", Cond.methodLink RJx4a65c 73 yJ8_newLength_cabcc, Cond.static yJ8_newLength_cabcc, Cond.initialized RJ8, Cond.code yJ8_newLength_cabcc cJ8_newLength_cabcc 4 (some .int), Cond.methodLink RJ8 194 Lib.Math.max.name, Cond.constant RJ8 200 (2147483639), Cond.methodLink RJ8 201 yJ8_hugeLength_7cf53, Cond.static yJ8_hugeLength_7cf53, Cond.code yJ8_hugeLength_7cf53 cJ8_hugeLength_7cf53 3 (some .int)]
def wsX6_cutShapes_r6 : List Cond := [Cond.methodLink RJx4a65c 66 yJ7_copyOf_1904c, Cond.static yJ7_copyOf_1904c, Cond.initialized RJ7, Cond.code yJ7_copyOf_1904c cJ7_copyOf_1904c 2 (some (.array (.object "java/lang/Object"))), Cond.methodLink RJ7 86 ⟨"java/lang/Object", "getClass", "()Ljava/lang/Class;"⟩, Cond.selects "[Ljava/lang/Object;" ⟨"java/lang/Object", "getClass", "()Ljava/lang/Class;"⟩ ⟨"java/lang/Object", "getClass", "()Ljava/lang/Class;"⟩, Cond.instanceMethod ⟨"java/lang/Object", "getClass", "()Ljava/lang/Class;"⟩, Cond.native ⟨"java/lang/Object", "getClass", "()Ljava/lang/Class;"⟩, Cond.methodLink RJ7 300 yJ7_copyOf_6403c, Cond.static yJ7_copyOf_6403c, Cond.code yJ7_copyOf_6403c cJ7_copyOf_6403c 4 (some (.array (.object "java/lang/Object"))), Cond.classLink RJ7 110 "[Ljava/lang/Object;", Cond.classLink RJ7 2 "java/lang/Object", Cond.methodLink RJ7 304 Lib.Math.min.name, Cond.static Lib.Math.min.name, Cond.code Lib.Math.min.name Lib.Math.min.code 2 (some .int), Cond.methodLink RJ7 150 arraycopyName, Cond.native arraycopyName, Cond.static arraycopyName, Cond.initialized "java/lang/System", Cond.methodLink RX6 242 yX3_add, Cond.instanceMethod yX3_add, Cond.selects RX3 yX3_add yX3_add, Cond.code yX3_add cX3_add 4 none]
def wsX6_cutShapes_r7 : List Cond := [Cond.classLink RX3 22 RX2, Cond.instantiable RX2 4, Cond.initialized RX2, Cond.methodLink RX3 18 yJx4a65c_size_8abf5, Cond.methodLink RX3 24 yX2_init, Cond.instanceMethod yX2_init, Cond.code yX2_init cX2_init 4 none, Cond.methodLink RX2 1 objectInit, Cond.fieldLink RX2 7 "ColourParts$Piece" "nearPieces" "I", Cond.fieldLink RX2 13 "ColourParts$Piece" "owner" "I", Cond.fieldLink RX2 16 "ColourParts$Piece" "told" "I", Cond.fieldLink RX2 19 "ColourParts$Piece" "boxes" "Ljava/util/ArrayList;", Cond.methodLink RX3 27 yJx4a65c_add_9ea2d]
def wsX6_cutShapes : List Cond := .code yX6_cutShapes cX6_cutShapes 5 (some (.object "ColourParts$Pieces")) :: ((wsX6_cutShapes_r1 ++ (wsX6_cutShapes_r2 ++ (wsX6_cutShapes_r3 ++ (wsX6_cutShapes_r4 ++ (wsX6_cutShapes_r5 ++ (wsX6_cutShapes_r6 ++ wsX6_cutShapes_r7)))))) ++ wsX30 ++ wsX60 ++ wsX50 ++ wsJx4a65c0 ++ wsX00 ++ wsX20)
def wsX6_run_r1 : List Cond := [Cond.classLink RX6 88 "java/lang/IllegalArgumentException", Cond.initialized "java/lang/IllegalArgumentException", Cond.fieldLink RX6 28 "ColourParts" "latestClosed" "Z", Cond.fieldLink RX6 43 "ColourParts" "square" "J", Cond.classLink RX6 123 RX4, Cond.instantiable RX4 9, Cond.initialized RX4, Cond.fieldLink RX6 20 "ColourParts" "ringLength" "I", Cond.classLink RX6 135 RX1, Cond.instantiable RX1 6, Cond.initialized RX1, Cond.fieldLink RX6 137 "ColourParts$Search" "best" "[I", Cond.fieldLink RX6 140 "ColourParts$Search" "fewest" "I", Cond.fieldLink RX6 24 "ColourParts" "kept" "LColourParts$Colouring;", Cond.fieldLink RX6 16 "ColourParts" "ringShapes" "[I", Cond.methodLink RX6 100 yX6_needNoneOpen, Cond.instanceMethod yX6_needNoneOpen, Cond.selects RX6 yX6_needNoneOpen yX6_needNoneOpen, Cond.initialized RX6, Cond.code yX6_needNoneOpen cX6_needNoneOpen 2 none, Cond.classLink RX6 54 "java/lang/IllegalStateException", Cond.initialized "java/lang/IllegalStateException", Cond.fieldLink RX6 10 "ColourParts" "shapes" "Ljava/util/ArrayList;", Cond.classLink RX6 61 "ColourParts$Shape"]
def wsX6_run_r2 : List Cond := [Cond.methodLink RX6 47 yJx4a65c_size_8abf5, Cond.instanceMethod yJx4a65c_size_8abf5, Cond.selects RJx4a65c yJx4a65c_size_8abf5 yJx4a65c_size_8abf5, Cond.initialized RJx4a65c, Cond.code yJx4a65c_size_8abf5 cJx4a65c_size_8abf5 1 (some .int), Cond.fieldLink RJx4a65c 48 "java/util/ArrayList" "size" "I", Cond.methodLink RX6 72 yJx4a65c_get_915e3, Cond.instanceMethod yJx4a65c_get_915e3, Cond.selects RJx4a65c yJx4a65c_get_915e3 yJx4a65c_get_915e3, Cond.code yJx4a65c_get_915e3 cJx4a65c_get_915e3 2 (some (.object "java/lang/Object")), Cond.methodLink RJx4a65c 118 yJ15_checkIndex_7cf53, Cond.static yJ15_checkIndex_7cf53, Cond.initialized RJ15, Cond.code yJ15_checkIndex_7cf53 cJ15_checkIndex_7cf53 2 (some .int), Cond.methodLink RJ15 105 yJ3_checkIndex_8e157, Cond.static yJ3_checkIndex_8e157, Cond.initialized RJ3, Cond.code yJ3_checkIndex_8e157 cJ3_checkIndex_8e157 3 (some .int), Cond.methodLink RJx4a65c 123 yJx4a65c_elementData_915e3, Cond.instanceMethod yJx4a65c_elementData_915e3, Cond.selects RJx4a65c yJx4a65c_elementData_915e3 yJx4a65c_elementData_915e3, Cond.code yJx4a65c_elementData_915e3 cJx4a65c_elementData_915e3 2 (some (.object "java/lang/Object")), Cond.fieldLink RJx4a65c 9 "java/util/ArrayList" "elementData" "[Ljava/lang/Object;", Cond.methodLink RX6 221 yX5_isOpen]
def wsX6_run_r3 : List Cond := [Cond.instanceMethod yX5_isOpen, Cond.selects RX5 yX5_isOpen yX5_isOpen, Cond.initialized RX5, Cond.code yX5_isOpen cX5_isOpen 1 (some .boolean), Cond.fieldLink RX5 36 "ColourParts$Shape" "half" "Z", Cond.fieldLink RX5 12 "ColourParts$Shape" "boxes" "Ljava/util/ArrayList;", Cond.methodLink RX5 46 yJx4a65c_isEmpty_aae02, Cond.instanceMethod yJx4a65c_isEmpty_aae02, Cond.selects RJx4a65c yJx4a65c_isEmpty_aae02 yJx4a65c_isEmpty_aae02, Cond.code yJx4a65c_isEmpty_aae02 cJx4a65c_isEmpty_aae02 1 (some .boolean), Cond.methodLink RX6 51 yX6_countPieces, Cond.instanceMethod yX6_countPieces, Cond.selects RX6 yX6_countPieces yX6_countPieces, Cond.code yX6_countPieces cX6_countPieces 3 (some .int), Cond.fieldLink RX6 79 "ColourParts$Shape" "stitchCount" "I", Cond.methodLink RX6 114 yX6_cutShapes, Cond.instanceMethod yX6_cutShapes, Cond.selects RX6 yX6_cutShapes yX6_cutShapes, Cond.code yX6_cutShapes cX6_cutShapes 5 (some (.object "ColourParts$Pieces")), Cond.classLink RX6 119 RX3, Cond.instantiable RX3 1, Cond.initialized RX3, Cond.fieldLink RX6 164 "ColourParts$Shape" "told" "I", Cond.instanceMethod yX3_init]
def wsX6_run_r4 : List Cond := [Cond.code yX3_init cX3_init 1 none, Cond.methodLink RX3 3 objectInit, Cond.instanceMethod objectInit, Cond.code objectInit ⟨#[0xb1]⟩ 1 none, Cond.classLink RX3 9 RJx4a65c, Cond.instantiable RJx4a65c 3, Cond.fieldLink RX3 12 "ColourParts$Pieces" "row" "Ljava/util/ArrayList;", Cond.methodLink RX3 11 yJx4a65c_init_da8c8, Cond.instanceMethod yJx4a65c_init_da8c8, Cond.code yJx4a65c_init_da8c8 cJx4a65c_init_da8c8 1 none, Cond.fieldLink RJx4a65c 39 "java/util/ArrayList" "DEFAULTCAPACITY_EMPTY_ELEMENTDATA" "[Ljava/lang/Object;", Cond.methodLink RJx4a65c 1 yJxc12de_init_da8c8, Cond.instanceMethod yJxc12de_init_da8c8, Cond.initialized RJxc12de, Cond.code yJxc12de_init_da8c8 cJxc12de_init_da8c8 1 none, Cond.fieldLink RJxc12de 7 "java/util/AbstractList" "modCount" "I", Cond.methodLink RJxc12de 1 yJxa1e45_init_da8c8, Cond.instanceMethod yJxa1e45_init_da8c8, Cond.initialized RJxa1e45, Cond.code yJxa1e45_init_da8c8 cJxa1e45_init_da8c8 1 none, Cond.methodLink RJxa1e45 1 objectInit, Cond.methodLink RX6 238 yX5_pieceBoxes, Cond.instanceMethod yX5_pieceBoxes, Cond.selects RX5 yX5_pieceBoxes yX5_pieceBoxes]
def wsX6_run_r5 : List Cond := [Cond.code yX5_pieceBoxes cX5_pieceBoxes 3 (some (.object "java/util/ArrayList")), Cond.fieldLink RX5 22 "ColourParts$Shape" "stitchCount" "I", Cond.classLink RX5 9 RJx4a65c, Cond.classLink RX5 50 "ColourParts$Box", Cond.methodLink RX5 11 yJx4a65c_init_da8c8, Cond.methodLink RX5 68 yJx4a65c_get_915e3, Cond.methodLink RX5 72 yX5_cutBox, Cond.instanceMethod yX5_cutBox, Cond.selects RX5 yX5_cutBox yX5_cutBox, Cond.code yX5_cutBox cX5_cutBox 5 (some (.object "ColourParts$Box")), Cond.fieldLink RX5 26 "ColourParts$Shape" "standing" "Z", Cond.classLink RX5 50 RX0, Cond.instantiable RX0 4, Cond.initialized RX0, Cond.fieldLink RX5 18 "ColourParts$Shape" "places" "[J", Cond.fieldLink RX5 76 "ColourParts$Box" "left" "J", Cond.fieldLink RX5 79 "ColourParts$Box" "low" "J", Cond.fieldLink RX5 82 "ColourParts$Box" "right" "J", Cond.fieldLink RX5 85 "ColourParts$Box" "high" "J", Cond.methodLink RX5 61 yX0_init, Cond.instanceMethod yX0_init, Cond.code yX0_init cX0_init 9 none, Cond.methodLink RX0 1 objectInit, Cond.fieldLink RX0 7 "ColourParts$Box" "left" "J"]
def wsX6_run_r6 : List Cond := [Cond.fieldLink RX0 13 "ColourParts$Box" "low" "J", Cond.fieldLink RX0 16 "ColourParts$Box" "right" "J", Cond.fieldLink RX0 19 "ColourParts$Box" "high" "J", Cond.methodLink RX5 64 yJx4a65c_add_9ea2d, Cond.instanceMethod yJx4a65c_add_9ea2d, Cond.selects RJx4a65c yJx4a65c_add_9ea2d yJx4a65c_add_9ea2d, Cond.code yJx4a65c_add_9ea2d cJx4a65c_add_9ea2d 2 (some .boolean), Cond.fieldLink RJx4a65c 63 "java/util/ArrayList" "modCount" "I", Cond.sameField "java/util/ArrayList" "java/util/AbstractList" "modCount" "I", Cond.methodLink RJx4a65c 131 yJx4a65c_add_72be8, Cond.instanceMethod yJx4a65c_add_72be8, Cond.selects RJx4a65c yJx4a65c_add_72be8 yJx4a65c_add_72be8, Cond.code yJx4a65c_add_72be8 cJx4a65c_add_72be8 4 none, Cond.methodLink RJx4a65c 129 yJx4a65c_grow_d5877, Cond.instanceMethod yJx4a65c_grow_d5877, Cond.selects RJx4a65c yJx4a65c_grow_d5877 yJx4a65c_grow_d5877, Cond.code yJx4a65c_grow_d5877 cJx4a65c_grow_d5877 1 (some (.array (.object "java/lang/Object"))), Cond.methodLink RJx4a65c 69 yJx4a65c_grow_92f84, Cond.instanceMethod yJx4a65c_grow_92f84, Cond.selects RJx4a65c yJx4a65c_grow_92f84 yJx4a65c_grow_92f84, Cond.code yJx4a65c_grow_92f84 cJx4a65c_grow_92f84 4 (some (.array (.object "java/lang/Object"))), Cond.methodLink RJx4a65c 79 Lib.Math.max.name, Cond.static Lib.Math.max.name, Cond.initialized "java/lang/Math"]
def wsX6_run_r7 : List Cond := [Cond.code Lib.Math.max.name Lib.Math.max.code 2 (some .int), Cond.classLink RJx4a65c 7 "java/lang/Object", Cond.methodLink RJx4a65c 73 yJ8_newLength_cabcc, Cond.static yJ8_newLength_cabcc, Cond.initialized RJ8, Cond.code yJ8_newLength_cabcc cJ8_newLength_cabcc 4 (some .int), Cond.methodLink RJ8 194 Lib.Math.max.name, Cond.constant RJ8 200 (2147483639), Cond.methodLink RJ8 201 yJ8_hugeLength_7cf53, Cond.static yJ8_hugeLength_7cf53, Cond.code yJ8_hugeLength_7cf53 cJ8_hugeLength_7cf53 3 (some .int), Cond.methodLink RJx4a65c 66 yJ7_copyOf_1904c, Cond.static yJ7_copyOf_1904c, Cond.initialized RJ7, Cond.code yJ7_copyOf_1904c cJ7_copyOf_1904c 2 (some (.array (.object "java/lang/Object"))), Cond.methodLink RJ7 86 ⟨"java/lang/Object", "getClass", "()Ljava/lang/Class;"⟩, Cond.selects "[Ljava/lang/Object;" ⟨"java/lang/Object", "getClass", "()Ljava/lang/Class;"⟩ ⟨"java/lang/Object", "getClass", "()Ljava/lang/Class;"⟩, Cond.instanceMethod ⟨"java/lang/Object", "getClass", "()Ljava/lang/Class;"⟩, Cond.native ⟨"java/lang/Object", "getClass", "()Ljava/lang/Class;"⟩, Cond.methodLink RJ7 300 yJ7_copyOf_6403c, Cond.static yJ7_copyOf_6403c, Cond.code yJ7_copyOf_6403c cJ7_copyOf_6403c 4 (some (.array (.object "java/lang/Object"))), Cond.classLink RJ7 110 "[Ljava/lang/Object;", Cond.classLink RJ7 2 "java/lang/Object"]
def wsX6_run_r8 : List Cond := [Cond.methodLink RJ7 304 Lib.Math.min.name, Cond.static Lib.Math.min.name, Cond.code Lib.Math.min.name Lib.Math.min.code 2 (some .int), Cond.methodLink RJ7 150 arraycopyName, Cond.native arraycopyName, Cond.static arraycopyName, Cond.initialized "java/lang/System", Cond.methodLink RX6 242 yX3_add, Cond.instanceMethod yX3_add, Cond.selects RX3 yX3_add yX3_add, Cond.code yX3_add cX3_add 4 none, Cond.classLink RX3 22 RX2, Cond.instantiable RX2 4, Cond.initialized RX2, Cond.methodLink RX3 18 yJx4a65c_size_8abf5, Cond.methodLink RX3 24 yX2_init, Cond.instanceMethod yX2_init, Cond.code yX2_init cX2_init 4 none, Cond.methodLink RX2 1 objectInit, Cond.fieldLink RX2 7 "ColourParts$Piece" "nearPieces" "I", Cond.fieldLink RX2 13 "ColourParts$Piece" "owner" "I", Cond.fieldLink RX2 16 "ColourParts$Piece" "told" "I", Cond.fieldLink RX2 19 "ColourParts$Piece" "boxes" "Ljava/util/ArrayList;", Cond.methodLink RX3 27 yJx4a65c_add_9ea2d]
def wsX6_run_r9 : List Cond := [Cond.methodLink RX6 118 yX3_findNearOnes, Cond.instanceMethod yX3_findNearOnes, Cond.selects RX3 yX3_findNearOnes yX3_findNearOnes, Cond.code yX3_findNearOnes cX3_findNearOnes 7 none, Cond.classLink RX3 22 "ColourParts$Piece", Cond.fieldLink RX3 35 "ColourParts$Piece" "owner" "I", Cond.fieldLink RX3 42 "ColourParts$Piece" "nearPieces" "I", Cond.methodLink RX3 31 yJx4a65c_get_915e3, Cond.methodLink RX3 52 yX2_isNearPiece, Cond.instanceMethod yX2_isNearPiece, Cond.selects RX2 yX2_isNearPiece yX2_isNearPiece, Cond.code yX2_isNearPiece cX2_isNearPiece 5 (some .boolean), Cond.classLink RX2 33 "ColourParts$Box", Cond.methodLink RX2 23 yJx4a65c_size_8abf5, Cond.methodLink RX2 29 yJx4a65c_get_915e3, Cond.methodLink RX2 39 yX0_isNearAny, Cond.instanceMethod yX0_isNearAny, Cond.selects RX0 yX0_isNearAny yX0_isNearAny, Cond.code yX0_isNearAny cX0_isNearAny 5 (some .boolean), Cond.classLink RX0 8 "ColourParts$Box", Cond.methodLink RX0 22 yJx4a65c_size_8abf5, Cond.methodLink RX0 28 yJx4a65c_get_915e3, Cond.methodLink RX0 32 yX0_isNearBox, Cond.instanceMethod yX0_isNearBox]
def wsX6_run_r10 : List Cond := [Cond.selects RX0 yX0_isNearBox yX0_isNearBox, Cond.code yX0_isNearBox cX0_isNearBox 8 (some .boolean), Cond.methodLink RX0 36 yX0_gap, Cond.static yX0_gap, Cond.code yX0_gap cX0_gap 8 (some .long), Cond.methodLink RX0 40 Lib.MathLoose.max_long.x, Cond.static Lib.MathLoose.max_long.x, Cond.code Lib.MathLoose.max_long.x Lib.MathLoose.max_long.code 4 (some .long), Cond.methodLink RX6 125 yX4_init, Cond.instanceMethod yX4_init, Cond.code yX4_init cX4_init 4 none, Cond.methodLink RX4 3 objectInit, Cond.arrayClass .int, Cond.fieldLink RX4 9 "ColourParts$Search" "near" "[I", Cond.fieldLink RX4 15 "ColourParts$Search" "told" "[I", Cond.arrayClass .boolean, Cond.fieldLink RX4 18 "ColourParts$Search" "afterStitch" "[Z", Cond.fieldLink RX4 22 "ColourParts$Search" "holders" "[I", Cond.fieldLink RX4 25 "ColourParts$Search" "row" "[I", Cond.fieldLink RX4 28 "ColourParts$Search" "best" "[I", Cond.fieldLink RX4 31 "ColourParts$Search" "fewest" "I", Cond.methodLink RX4 35 Lib.Math.min.name, Cond.methodLink RX4 41 Lib.Math.max.name, Cond.fieldLink RX4 44 "ColourParts$Search" "colours" "I"]
def wsX6_run_r11 : List Cond := [Cond.fieldLink RX4 53 "ColourParts$Search" "count" "I", Cond.methodLink RX4 47 yX3_count, Cond.instanceMethod yX3_count, Cond.selects RX3 yX3_count yX3_count, Cond.code yX3_count cX3_count 1 (some .int), Cond.methodLink RX4 55 yX3_nearPieces, Cond.instanceMethod yX3_nearPieces, Cond.selects RX3 yX3_nearPieces yX3_nearPieces, Cond.code yX3_nearPieces cX3_nearPieces 2 (some .int), Cond.methodLink RX4 59 yX3_told, Cond.instanceMethod yX3_told, Cond.selects RX3 yX3_told yX3_told, Cond.code yX3_told cX3_told 2 (some .int), Cond.fieldLink RX3 39 "ColourParts$Piece" "told" "I", Cond.methodLink RX4 61 yX3_isAfterStitch, Cond.instanceMethod yX3_isAfterStitch, Cond.selects RX3 yX3_isAfterStitch yX3_isAfterStitch, Cond.code yX3_isAfterStitch cX3_isAfterStitch 2 (some .boolean), Cond.methodLink RX3 49 yX3_owner, Cond.instanceMethod yX3_owner, Cond.selects RX3 yX3_owner yX3_owner, Cond.code yX3_owner cX3_owner 2 (some .int), Cond.methodLink RX6 128 yX4_findBest, Cond.instanceMethod yX4_findBest]
def wsX6_run_r12 : List Cond := [Cond.selects RX4 yX4_findBest yX4_findBest, Cond.code yX4_findBest cX4_findBest 3 none, Cond.methodLink RX4 65 yX4_goOn, Cond.instanceMethod yX4_goOn, Cond.selects RX4 yX4_goOn yX4_goOn, Cond.code yX4_goOn cX4_goOn 7 none, Cond.methodLink RX4 72 arraycopyName, Cond.methodLink RX4 69 yX4_isDeadEnd, Cond.instanceMethod yX4_isDeadEnd, Cond.selects RX4 yX4_isDeadEnd yX4_isDeadEnd, Cond.code yX4_isDeadEnd cX4_isDeadEnd 5 (some .boolean), Cond.methodLink RX4 78 yX4_canHave, Cond.instanceMethod yX4_canHave, Cond.selects RX4 yX4_canHave yX4_canHave, Cond.code yX4_canHave cX4_canHave 3 (some .boolean), Cond.methodLink RX4 82 yX4_tryColour, Cond.instanceMethod yX4_tryColour, Cond.selects RX4 yX4_tryColour yX4_tryColour, Cond.code yX4_tryColour cX4_tryColour 7 none, Cond.methodLink RX6 131 yX4_isFound, Cond.instanceMethod yX4_isFound, Cond.selects RX4 yX4_isFound yX4_isFound, Cond.code yX4_isFound cX4_isFound 1 (some .boolean), Cond.methodLink RX6 143 yX1_init]
def wsX6_run_r13 : List Cond := [Cond.instanceMethod yX1_init, Cond.code yX1_init cX1_init 5 none, Cond.methodLink RX1 3 objectInit, Cond.fieldLink RX1 9 "ColourParts$Colouring" "firstColours" "[I", Cond.fieldLink RX1 15 "ColourParts$Colouring" "stitchCounts" "[I", Cond.fieldLink RX1 18 "ColourParts$Colouring" "usedStitches" "[I", Cond.fieldLink RX1 21 "ColourParts$Colouring" "pieceCounts" "[I", Cond.arrayClass .long, Cond.fieldLink RX1 24 "ColourParts$Colouring" "areas" "[J", Cond.fieldLink RX1 28 "ColourParts$Colouring" "usedInAll" "I", Cond.methodLink RX1 32 yX3_count, Cond.methodLink RX1 38 yX3_areas, Cond.instanceMethod yX3_areas, Cond.selects RX3 yX3_areas yX3_areas, Cond.code yX3_areas cX3_areas 2 (some .long), Cond.methodLink RX3 45 yX2_areas, Cond.instanceMethod yX2_areas, Cond.selects RX2 yX2_areas yX2_areas, Cond.code yX2_areas cX2_areas 4 (some .long), Cond.methodLink RX2 35 yX0_area, Cond.instanceMethod yX0_area, Cond.selects RX0 yX0_area yX0_area, Cond.code yX0_area cX0_area 1 (some .long), Cond.methodLink RX1 41 yX1_weigh]
def wsX6_run_r14 : List Cond := [Cond.instanceMethod yX1_weigh, Cond.selects RX1 yX1_weigh yX1_weigh, Cond.code yX1_weigh cX1_weigh 4 none, Cond.methodLink RX1 45 yX3_isAfterStitch, Cond.methodLink RX1 49 yX3_owner, Cond.methodLink RX1 53 yX1_noteStitch, Cond.instanceMethod yX1_noteStitch, Cond.selects RX1 yX1_noteStitch yX1_noteStitch, Cond.code yX1_noteStitch cX1_noteStitch 3 none, Cond.methodLink RX1 57 yX1_noteFirst, Cond.instanceMethod yX1_noteFirst, Cond.selects RX1 yX1_noteFirst yX1_noteFirst, Cond.code yX1_noteFirst cX1_noteFirst 3 none, Cond.methodLink RX6 146 yX3_findOddRing, Cond.instanceMethod yX3_findOddRing, Cond.selects RX3 yX3_findOddRing yX3_findOddRing, Cond.code yX3_findOddRing cX3_findOddRing 5 (some .int), Cond.methodLink RX3 56 yX3_fillWalks, Cond.instanceMethod yX3_fillWalks, Cond.selects RX3 yX3_fillWalks yX3_fillWalks, Cond.code yX3_fillWalks cX3_fillWalks 5 none, Cond.methodLink RX3 64 yX3_nearAnyOf, Cond.instanceMethod yX3_nearAnyOf, Cond.selects RX3 yX3_nearAnyOf yX3_nearAnyOf]
def wsX6_run_r15 : List Cond := [Cond.code yX3_nearAnyOf cX3_nearAnyOf 4 (some .int), Cond.methodLink RX3 67 yX3_nearPieces, Cond.methodLink RX3 60 yX3_writeLeastRing, Cond.instanceMethod yX3_writeLeastRing, Cond.selects RX3 yX3_writeLeastRing yX3_writeLeastRing, Cond.code yX3_writeLeastRing cX3_writeLeastRing 7 none, Cond.methodLink RX3 69 yJ6_numberOfTrailingZeros_0f7a4, Cond.static yJ6_numberOfTrailingZeros_0f7a4, Cond.initialized RJ6, Cond.code yJ6_numberOfTrailingZeros_0f7a4 cJ6_numberOfTrailingZeros_0f7a4 2 (some .int), Cond.constant RJ6 264 (65536)]
def wsX6_run : List Cond := .code yX6_run cX6_run 6 (some .int) :: ((wsX6_run_r1 ++ (wsX6_run_r2 ++ (wsX6_run_r3 ++ (wsX6_run_r4 ++ (wsX6_run_r5 ++ (wsX6_run_r6 ++ (wsX6_run_r7 ++ (wsX6_run_r8 ++ (wsX6_run_r9 ++ (wsX6_run_r10 ++ (wsX6_run_r11 ++ (wsX6_run_r12 ++ (wsX6_run_r13 ++ (wsX6_run_r14 ++ wsX6_run_r15)))))))))))))) ++ wsX60 ++ wsX40 ++ wsX10 ++ wsJx4a65c0 ++ wsX50 ++ wsX30 ++ wsX00 ++ wsX20 ++ (vx_atS RX6 92 "java/lang/IllegalArgumentException" ["java/lang/RuntimeException", "java/lang/Exception"]).filter goodWord ++ (vx_atS RX6 58 "java/lang/IllegalStateException" ["java/lang/RuntimeException", "java/lang/Exception"]).filter goodWord)
def wsX6_colour : List Cond := .code yX6_colour cX6_colour 2 (some .int) :: ([.fieldLink RX6 24 "ColourParts" "kept" "LColourParts$Colouring;", .fieldLink RX6 150 "ColourParts$Colouring" "firstColours" "[I", .methodLink RX6 68 yX6_needShape, .instanceMethod yX6_needShape, .selects RX6 yX6_needShape yX6_needShape, .initialized RX6, .code yX6_needShape cX6_needShape 2 none, .classLink RX6 153 "java/lang/IndexOutOfBoundsException", .initialized "java/lang/IndexOutOfBoundsException", .fieldLink RX6 10 "ColourParts" "shapes" "Ljava/util/ArrayList;", .methodLink RX6 47 yJx4a65c_size_8abf5, .instanceMethod yJx4a65c_size_8abf5, .selects RJx4a65c yJx4a65c_size_8abf5 yJx4a65c_size_8abf5, .initialized RJx4a65c, .code yJx4a65c_size_8abf5 cJx4a65c_size_8abf5 1 (some .int), .fieldLink RJx4a65c 48 "java/util/ArrayList" "size" "I"] ++ wsX60 ++ wsX10 ++ wsJx4a65c0 ++ (vx_atS RX6 157 "java/lang/IndexOutOfBoundsException" ["java/lang/RuntimeException", "java/lang/Exception"]).filter goodWord)
def wsX6_ring : List Cond := .code yX6_ring cX6_ring 2 (some .int) :: ([.classLink RX6 153 "java/lang/IndexOutOfBoundsException", .initialized "java/lang/IndexOutOfBoundsException", .fieldLink RX6 20 "ColourParts" "ringLength" "I", .fieldLink RX6 16 "ColourParts" "ringShapes" "[I"] ++ wsX60 ++ (vx_atS RX6 157 "java/lang/IndexOutOfBoundsException" ["java/lang/RuntimeException", "java/lang/Exception"]).filter goodWord)
def wsX6_length : List Cond := .code yX6_length cX6_length 1 (some .int) :: ([.fieldLink RX6 20 "ColourParts" "ringLength" "I"] ++ wsX60)
def wsX6_isNoColour : List Cond := .code yX6_isNoColour cX6_isNoColour 1 (some .boolean) :: ([])
def wsX6_pre_r1 : List Cond := [Cond.classLink RX6 88 "java/lang/IllegalArgumentException", Cond.initialized "java/lang/IllegalArgumentException", Cond.fieldLink RX6 10 "ColourParts" "shapes" "Ljava/util/ArrayList;", Cond.classLink RX6 61 "ColourParts$Shape", Cond.fieldLink RX6 164 "ColourParts$Shape" "told" "I", Cond.methodLink RX6 68 yX6_needShape, Cond.instanceMethod yX6_needShape, Cond.selects RX6 yX6_needShape yX6_needShape, Cond.initialized RX6, Cond.code yX6_needShape cX6_needShape 2 none, Cond.classLink RX6 153 "java/lang/IndexOutOfBoundsException", Cond.initialized "java/lang/IndexOutOfBoundsException", Cond.methodLink RX6 47 yJx4a65c_size_8abf5, Cond.instanceMethod yJx4a65c_size_8abf5, Cond.selects RJx4a65c yJx4a65c_size_8abf5 yJx4a65c_size_8abf5, Cond.initialized RJx4a65c, Cond.code yJx4a65c_size_8abf5 cJx4a65c_size_8abf5 1 (some .int), Cond.fieldLink RJx4a65c 48 "java/util/ArrayList" "size" "I", Cond.methodLink RX6 100 yX6_needNoneOpen, Cond.instanceMethod yX6_needNoneOpen, Cond.selects RX6 yX6_needNoneOpen yX6_needNoneOpen, Cond.code yX6_needNoneOpen cX6_needNoneOpen 2 none, Cond.classLink RX6 54 "java/lang/IllegalStateException", Cond.initialized "java/lang/IllegalStateException"]
def wsX6_pre_r2 : List Cond := [Cond.methodLink RX6 72 yJx4a65c_get_915e3, Cond.instanceMethod yJx4a65c_get_915e3, Cond.selects RJx4a65c yJx4a65c_get_915e3 yJx4a65c_get_915e3, Cond.code yJx4a65c_get_915e3 cJx4a65c_get_915e3 2 (some (.object "java/lang/Object")), Cond.methodLink RJx4a65c 118 yJ15_checkIndex_7cf53, Cond.static yJ15_checkIndex_7cf53, Cond.initialized RJ15, Cond.code yJ15_checkIndex_7cf53 cJ15_checkIndex_7cf53 2 (some .int), Cond.methodLink RJ15 105 yJ3_checkIndex_8e157, Cond.static yJ3_checkIndex_8e157, Cond.initialized RJ3, Cond.code yJ3_checkIndex_8e157 cJ3_checkIndex_8e157 3 (some .int), Cond.methodLink RJx4a65c 123 yJx4a65c_elementData_915e3, Cond.instanceMethod yJx4a65c_elementData_915e3, Cond.selects RJx4a65c yJx4a65c_elementData_915e3 yJx4a65c_elementData_915e3, Cond.code yJx4a65c_elementData_915e3 cJx4a65c_elementData_915e3 2 (some (.object "java/lang/Object")), Cond.fieldLink RJx4a65c 9 "java/util/ArrayList" "elementData" "[Ljava/lang/Object;", Cond.methodLink RX6 221 yX5_isOpen, Cond.instanceMethod yX5_isOpen, Cond.selects RX5 yX5_isOpen yX5_isOpen, Cond.initialized RX5, Cond.code yX5_isOpen cX5_isOpen 1 (some .boolean), Cond.fieldLink RX5 36 "ColourParts$Shape" "half" "Z", Cond.fieldLink RX5 12 "ColourParts$Shape" "boxes" "Ljava/util/ArrayList;"]
def wsX6_pre_r3 : List Cond := [Cond.methodLink RX5 46 yJx4a65c_isEmpty_aae02, Cond.instanceMethod yJx4a65c_isEmpty_aae02, Cond.selects RJx4a65c yJx4a65c_isEmpty_aae02 yJx4a65c_isEmpty_aae02, Cond.code yJx4a65c_isEmpty_aae02 cJx4a65c_isEmpty_aae02 1 (some .boolean), Cond.methodLink RX6 158 yX6_isNoColour, Cond.static yX6_isNoColour, Cond.code yX6_isNoColour cX6_isNoColour 1 (some .boolean)]
def wsX6_pre : List Cond := .code yX6_pre cX6_pre 5 (some .boolean) :: ((wsX6_pre_r1 ++ (wsX6_pre_r2 ++ wsX6_pre_r3)) ++ wsX60 ++ wsX50 ++ wsJx4a65c0 ++ (vx_atS RX6 92 "java/lang/IllegalArgumentException" ["java/lang/RuntimeException", "java/lang/Exception"]).filter goodWord ++ (vx_atS RX6 157 "java/lang/IndexOutOfBoundsException" ["java/lang/RuntimeException", "java/lang/Exception"]).filter goodWord ++ (vx_atS RX6 58 "java/lang/IllegalStateException" ["java/lang/RuntimeException", "java/lang/Exception"]).filter goodWord)
def wsX6_stitch_r1 : List Cond := [Cond.classLink RX6 54 "java/lang/IllegalStateException", Cond.initialized "java/lang/IllegalStateException", Cond.classLink RX6 88 "java/lang/IllegalArgumentException", Cond.initialized "java/lang/IllegalArgumentException", Cond.fieldLink RX6 10 "ColourParts" "shapes" "Ljava/util/ArrayList;", Cond.classLink RX6 61 "ColourParts$Shape", Cond.fieldLink RX6 76 "ColourParts$Shape" "boxes" "Ljava/util/ArrayList;", Cond.fieldLink RX6 79 "ColourParts$Shape" "stitchCount" "I", Cond.classLink RX6 175 "ColourParts$Box", Cond.fieldLink RX6 182 "ColourParts$Shape" "standing" "Z", Cond.methodLink RX6 68 yX6_needShape, Cond.instanceMethod yX6_needShape, Cond.selects RX6 yX6_needShape yX6_needShape, Cond.initialized RX6, Cond.code yX6_needShape cX6_needShape 2 none, Cond.classLink RX6 153 "java/lang/IndexOutOfBoundsException", Cond.initialized "java/lang/IndexOutOfBoundsException", Cond.methodLink RX6 47 yJx4a65c_size_8abf5, Cond.instanceMethod yJx4a65c_size_8abf5, Cond.selects RJx4a65c yJx4a65c_size_8abf5 yJx4a65c_size_8abf5, Cond.initialized RJx4a65c, Cond.code yJx4a65c_size_8abf5 cJx4a65c_size_8abf5 1 (some .int), Cond.fieldLink RJx4a65c 48 "java/util/ArrayList" "size" "I", Cond.methodLink RX6 100 yX6_needNoneOpen]
def wsX6_stitch_r2 : List Cond := [Cond.instanceMethod yX6_needNoneOpen, Cond.selects RX6 yX6_needNoneOpen yX6_needNoneOpen, Cond.code yX6_needNoneOpen cX6_needNoneOpen 2 none, Cond.methodLink RX6 72 yJx4a65c_get_915e3, Cond.instanceMethod yJx4a65c_get_915e3, Cond.selects RJx4a65c yJx4a65c_get_915e3 yJx4a65c_get_915e3, Cond.code yJx4a65c_get_915e3 cJx4a65c_get_915e3 2 (some (.object "java/lang/Object")), Cond.methodLink RJx4a65c 118 yJ15_checkIndex_7cf53, Cond.static yJ15_checkIndex_7cf53, Cond.initialized RJ15, Cond.code yJ15_checkIndex_7cf53 cJ15_checkIndex_7cf53 2 (some .int), Cond.methodLink RJ15 105 yJ3_checkIndex_8e157, Cond.static yJ3_checkIndex_8e157, Cond.initialized RJ3, Cond.code yJ3_checkIndex_8e157 cJ3_checkIndex_8e157 3 (some .int), Cond.methodLink RJx4a65c 123 yJx4a65c_elementData_915e3, Cond.instanceMethod yJx4a65c_elementData_915e3, Cond.selects RJx4a65c yJx4a65c_elementData_915e3 yJx4a65c_elementData_915e3, Cond.code yJx4a65c_elementData_915e3 cJx4a65c_elementData_915e3 2 (some (.object "java/lang/Object")), Cond.fieldLink RJx4a65c 9 "java/util/ArrayList" "elementData" "[Ljava/lang/Object;", Cond.methodLink RX6 221 yX5_isOpen, Cond.instanceMethod yX5_isOpen, Cond.selects RX5 yX5_isOpen yX5_isOpen, Cond.initialized RX5]
def wsX6_stitch_r3 : List Cond := [Cond.code yX5_isOpen cX5_isOpen 1 (some .boolean), Cond.fieldLink RX5 36 "ColourParts$Shape" "half" "Z", Cond.fieldLink RX5 12 "ColourParts$Shape" "boxes" "Ljava/util/ArrayList;", Cond.methodLink RX5 46 yJx4a65c_isEmpty_aae02, Cond.instanceMethod yJx4a65c_isEmpty_aae02, Cond.selects RJx4a65c yJx4a65c_isEmpty_aae02 yJx4a65c_isEmpty_aae02, Cond.code yJx4a65c_isEmpty_aae02 cJx4a65c_isEmpty_aae02 1 (some .boolean), Cond.methodLink RX6 169 yX5_hasStitch, Cond.instanceMethod yX5_hasStitch, Cond.selects RX5 yX5_hasStitch yX5_hasStitch, Cond.code yX5_hasStitch cX5_hasStitch 5 (some .boolean), Cond.fieldLink RX5 26 "ColourParts$Shape" "standing" "Z", Cond.fieldLink RX5 22 "ColourParts$Shape" "stitchCount" "I", Cond.fieldLink RX5 18 "ColourParts$Shape" "places" "[J", Cond.methodLink RX6 51 yX6_countPieces, Cond.instanceMethod yX6_countPieces, Cond.selects RX6 yX6_countPieces yX6_countPieces, Cond.code yX6_countPieces cX6_countPieces 3 (some .int), Cond.methodLink RX6 177 yX0_isWithin, Cond.instanceMethod yX0_isWithin, Cond.selects RX0 yX0_isWithin yX0_isWithin, Cond.initialized RX0, Cond.code yX0_isWithin cX0_isWithin 4 (some .boolean), Cond.fieldLink RX0 7 "ColourParts$Box" "left" "J"]
def wsX6_stitch_r4 : List Cond := [Cond.fieldLink RX0 16 "ColourParts$Box" "right" "J", Cond.fieldLink RX0 13 "ColourParts$Box" "low" "J", Cond.fieldLink RX0 19 "ColourParts$Box" "high" "J", Cond.methodLink RX6 187 yX5_addStitch, Cond.instanceMethod yX5_addStitch, Cond.selects RX5 yX5_addStitch yX5_addStitch, Cond.code yX5_addStitch cX5_addStitch 5 none]
def wsX6_stitch : List Cond := .code yX6_stitch cX6_stitch 6 (some .boolean) :: ((wsX6_stitch_r1 ++ (wsX6_stitch_r2 ++ (wsX6_stitch_r3 ++ wsX6_stitch_r4))) ++ wsX60 ++ wsX50 ++ wsJx4a65c0 ++ wsX00 ++ (vx_atS RX6 58 "java/lang/IllegalStateException" ["java/lang/RuntimeException", "java/lang/Exception"]).filter goodWord ++ (vx_atS RX6 92 "java/lang/IllegalArgumentException" ["java/lang/RuntimeException", "java/lang/Exception"]).filter goodWord ++ (vx_atS RX6 157 "java/lang/IndexOutOfBoundsException" ["java/lang/RuntimeException", "java/lang/Exception"]).filter goodWord)
def wsX6_stitches : List Cond := .code yX6_stitches cX6_stitches 1 (some .int) :: ([.fieldLink RX6 24 "ColourParts" "kept" "LColourParts$Colouring;", .fieldLink RX6 191 "ColourParts$Colouring" "usedInAll" "I"] ++ wsX60 ++ wsX10)
def wsX6_used : List Cond := .code yX6_used cX6_used 3 (some .boolean) :: ([.classLink RX6 153 "java/lang/IndexOutOfBoundsException", .initialized "java/lang/IndexOutOfBoundsException", .fieldLink RX6 24 "ColourParts" "kept" "LColourParts$Colouring;", .fieldLink RX6 194 "ColourParts$Colouring" "stitchCounts" "[I", .fieldLink RX6 199 "ColourParts$Colouring" "usedStitches" "[I", .methodLink RX6 68 yX6_needShape, .instanceMethod yX6_needShape, .selects RX6 yX6_needShape yX6_needShape, .initialized RX6, .code yX6_needShape cX6_needShape 2 none, .fieldLink RX6 10 "ColourParts" "shapes" "Ljava/util/ArrayList;", .methodLink RX6 47 yJx4a65c_size_8abf5, .instanceMethod yJx4a65c_size_8abf5, .selects RJx4a65c yJx4a65c_size_8abf5 yJx4a65c_size_8abf5, .initialized RJx4a65c, .code yJx4a65c_size_8abf5 cJx4a65c_size_8abf5 1 (some .int), .fieldLink RJx4a65c 48 "java/util/ArrayList" "size" "I"] ++ wsX60 ++ wsX10 ++ wsJx4a65c0 ++ (vx_atS RX6 157 "java/lang/IndexOutOfBoundsException" ["java/lang/RuntimeException", "java/lang/Exception"]).filter goodWord)
def wsX6_balance : List Cond := .code yX6_balance cX6_balance 3 (some .long) :: ([.classLink RX6 153 "java/lang/IndexOutOfBoundsException", .initialized "java/lang/IndexOutOfBoundsException", .classLink RX6 88 "java/lang/IllegalArgumentException", .initialized "java/lang/IllegalArgumentException", .fieldLink RX6 24 "ColourParts" "kept" "LColourParts$Colouring;", .fieldLink RX6 204 "ColourParts$Colouring" "pieceCounts" "[I", .fieldLink RX6 207 "ColourParts$Colouring" "areas" "[J", .methodLink RX6 158 yX6_isNoColour, .static yX6_isNoColour, .initialized RX6, .code yX6_isNoColour cX6_isNoColour 1 (some .boolean)] ++ wsX60 ++ wsX10 ++ (vx_atS RX6 157 "java/lang/IndexOutOfBoundsException" ["java/lang/RuntimeException", "java/lang/Exception"]).filter goodWord ++ (vx_atS RX6 92 "java/lang/IllegalArgumentException" ["java/lang/RuntimeException", "java/lang/Exception"]).filter goodWord)
def wsX6_pair_r1 : List Cond := [Cond.classLink RX6 153 "java/lang/IndexOutOfBoundsException", Cond.initialized "java/lang/IndexOutOfBoundsException", Cond.fieldLink RX6 10 "ColourParts" "shapes" "Ljava/util/ArrayList;", Cond.classLink RX6 61 "ColourParts$Shape", Cond.methodLink RX6 100 yX6_needNoneOpen, Cond.instanceMethod yX6_needNoneOpen, Cond.selects RX6 yX6_needNoneOpen yX6_needNoneOpen, Cond.initialized RX6, Cond.code yX6_needNoneOpen cX6_needNoneOpen 2 none, Cond.classLink RX6 54 "java/lang/IllegalStateException", Cond.initialized "java/lang/IllegalStateException", Cond.methodLink RX6 47 yJx4a65c_size_8abf5, Cond.instanceMethod yJx4a65c_size_8abf5, Cond.selects RJx4a65c yJx4a65c_size_8abf5 yJx4a65c_size_8abf5, Cond.initialized RJx4a65c, Cond.code yJx4a65c_size_8abf5 cJx4a65c_size_8abf5 1 (some .int), Cond.fieldLink RJx4a65c 48 "java/util/ArrayList" "size" "I", Cond.methodLink RX6 72 yJx4a65c_get_915e3, Cond.instanceMethod yJx4a65c_get_915e3, Cond.selects RJx4a65c yJx4a65c_get_915e3 yJx4a65c_get_915e3, Cond.code yJx4a65c_get_915e3 cJx4a65c_get_915e3 2 (some (.object "java/lang/Object")), Cond.methodLink RJx4a65c 118 yJ15_checkIndex_7cf53, Cond.static yJ15_checkIndex_7cf53, Cond.initialized RJ15]
def wsX6_pair_r2 : List Cond := [Cond.code yJ15_checkIndex_7cf53 cJ15_checkIndex_7cf53 2 (some .int), Cond.methodLink RJ15 105 yJ3_checkIndex_8e157, Cond.static yJ3_checkIndex_8e157, Cond.initialized RJ3, Cond.code yJ3_checkIndex_8e157 cJ3_checkIndex_8e157 3 (some .int), Cond.methodLink RJx4a65c 123 yJx4a65c_elementData_915e3, Cond.instanceMethod yJx4a65c_elementData_915e3, Cond.selects RJx4a65c yJx4a65c_elementData_915e3 yJx4a65c_elementData_915e3, Cond.code yJx4a65c_elementData_915e3 cJx4a65c_elementData_915e3 2 (some (.object "java/lang/Object")), Cond.fieldLink RJx4a65c 9 "java/util/ArrayList" "elementData" "[Ljava/lang/Object;", Cond.methodLink RX6 221 yX5_isOpen, Cond.instanceMethod yX5_isOpen, Cond.selects RX5 yX5_isOpen yX5_isOpen, Cond.initialized RX5, Cond.code yX5_isOpen cX5_isOpen 1 (some .boolean), Cond.fieldLink RX5 36 "ColourParts$Shape" "half" "Z", Cond.fieldLink RX5 12 "ColourParts$Shape" "boxes" "Ljava/util/ArrayList;", Cond.methodLink RX5 46 yJx4a65c_isEmpty_aae02, Cond.instanceMethod yJx4a65c_isEmpty_aae02, Cond.selects RJx4a65c yJx4a65c_isEmpty_aae02 yJx4a65c_isEmpty_aae02, Cond.code yJx4a65c_isEmpty_aae02 cJx4a65c_isEmpty_aae02 1 (some .boolean), Cond.methodLink RX6 213 yX5_isNearShape, Cond.instanceMethod yX5_isNearShape, Cond.selects RX5 yX5_isNearShape yX5_isNearShape]
def wsX6_pair_r3 : List Cond := [Cond.code yX5_isNearShape cX5_isNearShape 2 (some .boolean), Cond.fieldLink RX5 33 "ColourParts$Shape" "nearShapes" "I"]
def wsX6_pair : List Cond := .code yX6_pair cX6_pair 6 (some .int) :: ((wsX6_pair_r1 ++ (wsX6_pair_r2 ++ wsX6_pair_r3)) ++ wsX60 ++ wsJx4a65c0 ++ wsX50 ++ (vx_atS RX6 157 "java/lang/IndexOutOfBoundsException" ["java/lang/RuntimeException", "java/lang/Exception"]).filter goodWord ++ (vx_atS RX6 58 "java/lang/IllegalStateException" ["java/lang/RuntimeException", "java/lang/Exception"]).filter goodWord)
def wsX6_closed : List Cond := .code yX6_closed cX6_closed 1 (some .boolean) :: ([.fieldLink RX6 28 "ColourParts" "latestClosed" "Z"] ++ wsX60)
def wsJx4a65c_clear_da8c8 : List Cond := .code yJx4a65c_clear_da8c8 cJx4a65c_clear_da8c8 4 none :: ([.fieldLink RJx4a65c 63 "java/util/ArrayList" "modCount" "I", .sameField "java/util/ArrayList" "java/util/AbstractList" "modCount" "I", .fieldLink RJx4a65c 9 "java/util/ArrayList" "elementData" "[Ljava/lang/Object;", .fieldLink RJx4a65c 48 "java/util/ArrayList" "size" "I"] ++ wsJx4a65c0)
def wsX6_clear : List Cond := .code yX6_clear cX6_clear 1 none :: ([.fieldLink RX6 10 "ColourParts" "shapes" "Ljava/util/ArrayList;", .fieldLink RX6 24 "ColourParts" "kept" "LColourParts$Colouring;", .fieldLink RX6 20 "ColourParts" "ringLength" "I", .fieldLink RX6 28 "ColourParts" "latestClosed" "Z", .methodLink RX6 216 yJx4a65c_clear_da8c8, .instanceMethod yJx4a65c_clear_da8c8, .selects RJx4a65c yJx4a65c_clear_da8c8 yJx4a65c_clear_da8c8, .initialized RJx4a65c, .code yJx4a65c_clear_da8c8 cJx4a65c_clear_da8c8 4 none, .fieldLink RJx4a65c 63 "java/util/ArrayList" "modCount" "I", .sameField "java/util/ArrayList" "java/util/AbstractList" "modCount" "I", .fieldLink RJx4a65c 9 "java/util/ArrayList" "elementData" "[Ljava/lang/Object;", .fieldLink RJx4a65c 48 "java/util/ArrayList" "size" "I"] ++ wsX60 ++ wsJx4a65c0)
def wsX7_init_r1 : List Cond := [Cond.methodLink RX7 1 objectInit, Cond.instanceMethod objectInit, Cond.code objectInit ⟨#[0xb1]⟩ 1 none, Cond.arrayClass .long, Cond.fieldLink RX7 7 "ColourPartsModel" "cornerX" "[J", Cond.fieldLink RX7 13 "ColourPartsModel" "cornerY" "[J", Cond.arrayClass .int, Cond.fieldLink RX7 16 "ColourPartsModel" "corners" "[I", Cond.fieldLink RX7 20 "ColourPartsModel" "told" "[I", Cond.fieldLink RX7 23 "ColourPartsModel" "cuts" "[J", Cond.fieldLink RX7 26 "ColourPartsModel" "cutCounts" "[I", Cond.arrayClass .boolean, Cond.fieldLink RX7 29 "ColourPartsModel" "standing" "[Z", Cond.fieldLink RX7 33 "ColourPartsModel" "pieceShapes" "[I", Cond.fieldLink RX7 36 "ColourPartsModel" "pieceNumbers" "[I", Cond.fieldLink RX7 39 "ColourPartsModel" "nears" "[Z", Cond.fieldLink RX7 42 "ColourPartsModel" "one" "[J", Cond.fieldLink RX7 45 "ColourPartsModel" "two" "[J", Cond.fieldLink RX7 48 "ColourPartsModel" "colours" "[I", Cond.fieldLink RX7 51 "ColourPartsModel" "keptShapes" "[I", Cond.fieldLink RX7 54 "ColourPartsModel" "keptColours" "[I", Cond.fieldLink RX7 57 "ColourPartsModel" "keptAreas" "[J", Cond.fieldLink RX7 60 "ColourPartsModel" "walk" "[I", Cond.fieldLink RX7 63 "ColourPartsModel" "ringShapes" "[I"]
def wsX7_init_r2 : List Cond := [Cond.constantLong RX7 66 (65536), Cond.fieldLink RX7 68 "ColourPartsModel" "distance" "J"]
def wsX7_init : List Cond := .code yX7_init cX7_init 3 none :: ((wsX7_init_r1 ++ wsX7_init_r2) ++ wsX70)
def wsX7_thrown : List Cond := .code yX7_thrown cX7_thrown 1 (some .int) :: ([.fieldLink RX7 72 "ColourPartsModel" "code" "I"] ++ wsX70)
def wsX7_isShape : List Cond := .code yX7_isShape cX7_isShape 2 (some .boolean) :: ([.fieldLink RX7 76 "ColourPartsModel" "shapes" "I"] ++ wsX70)
def wsX7_isOpen : List Cond := .code yX7_isOpen cX7_isOpen 3 (some .boolean) :: ([.fieldLink RX7 76 "ColourPartsModel" "shapes" "I", .fieldLink RX7 16 "ColourPartsModel" "corners" "[I"] ++ wsX70)
def wsX7_allPieces : List Cond := .code yX7_allPieces cX7_allPieces 3 (some .int) :: ([.fieldLink RX7 76 "ColourPartsModel" "shapes" "I", .fieldLink RX7 26 "ColourPartsModel" "cutCounts" "[I"] ++ wsX70)
def wsX7_shape : List Cond := .code yX7_shape cX7_shape 1 (some .int) :: ([.fieldLink RX7 76 "ColourPartsModel" "shapes" "I", .fieldLink RX7 72 "ColourPartsModel" "code" "I", .fieldLink RX7 16 "ColourPartsModel" "corners" "[I", .fieldLink RX7 20 "ColourPartsModel" "told" "[I", .fieldLink RX7 26 "ColourPartsModel" "cutCounts" "[I", .methodLink RX7 79 yX7_allPieces, .instanceMethod yX7_allPieces, .selects RX7 yX7_allPieces yX7_allPieces, .initialized RX7, .code yX7_allPieces cX7_allPieces 3 (some .int)] ++ wsX70)
def wsX7_corner : List Cond := .code yX7_corner cX7_corner 6 (some .boolean) :: ([.fieldLink RX7 16 "ColourPartsModel" "corners" "[I", .fieldLink RX7 26 "ColourPartsModel" "cutCounts" "[I", .constantLong RX7 87 (-1000000), .constantLong RX7 89 (1000000), .fieldLink RX7 72 "ColourPartsModel" "code" "I", .fieldLink RX7 7 "ColourPartsModel" "cornerX" "[J", .fieldLink RX7 13 "ColourPartsModel" "cornerY" "[J", .methodLink RX7 83 yX7_isShape, .instanceMethod yX7_isShape, .selects RX7 yX7_isShape yX7_isShape, .initialized RX7, .code yX7_isShape cX7_isShape 2 (some .boolean), .fieldLink RX7 76 "ColourPartsModel" "shapes" "I"] ++ wsX70)
def wsX7_clear : List Cond := .code yX7_clear cX7_clear 1 none :: ([.fieldLink RX7 72 "ColourPartsModel" "code" "I", .fieldLink RX7 76 "ColourPartsModel" "shapes" "I", .fieldLink RX7 91 "ColourPartsModel" "kept" "Z", .fieldLink RX7 95 "ColourPartsModel" "ringLength" "I", .fieldLink RX7 98 "ColourPartsModel" "closed" "Z"] ++ wsX70)
def wsX7_low : List Cond := .code yX7_low cX7_low 4 (some .long) :: ([])
def wsX7_high : List Cond := .code yX7_high cX7_high 4 (some .long) :: ([])
def wsX7_boxes : List Cond := .code yX7_boxes cX7_boxes 2 (some .int) :: ([.fieldLink RX7 26 "ColourPartsModel" "cutCounts" "[I", .fieldLink RX7 16 "ColourPartsModel" "corners" "[I"] ++ wsX70)
def wsX7_load : List Cond := .code yX7_load cX7_load 14 none :: ([.fieldLink RX7 7 "ColourPartsModel" "cornerX" "[J", .fieldLink RX7 13 "ColourPartsModel" "cornerY" "[J", .fieldLink RX7 26 "ColourPartsModel" "cutCounts" "[I", .fieldLink RX7 29 "ColourPartsModel" "standing" "[Z", .fieldLink RX7 23 "ColourPartsModel" "cuts" "[J", .fieldLink RX7 42 "ColourPartsModel" "one" "[J", .fieldLink RX7 45 "ColourPartsModel" "two" "[J", .methodLink RX7 101 yX7_low, .static yX7_low, .initialized RX7, .code yX7_low cX7_low 4 (some .long), .methodLink RX7 105 yX7_high, .static yX7_high, .code yX7_high cX7_high 4 (some .long)] ++ wsX70)
def wsX7_isNearBox : List Cond := .code yX7_isNearBox cX7_isNearBox 5 (some .boolean) :: ([.fieldLink RX7 42 "ColourPartsModel" "one" "[J", .fieldLink RX7 45 "ColourPartsModel" "two" "[J", .fieldLink RX7 68 "ColourPartsModel" "distance" "J", .methodLink RX7 105 yX7_high, .static yX7_high, .initialized RX7, .code yX7_high cX7_high 4 (some .long), .methodLink RX7 101 yX7_low, .static yX7_low, .code yX7_low cX7_low 4 (some .long)] ++ wsX70)
def wsX7_isNearPiece_r1 : List Cond := [Cond.methodLink RX7 108 yX7_boxes, Cond.instanceMethod yX7_boxes, Cond.selects RX7 yX7_boxes yX7_boxes, Cond.initialized RX7, Cond.code yX7_boxes cX7_boxes 2 (some .int), Cond.fieldLink RX7 26 "ColourPartsModel" "cutCounts" "[I", Cond.fieldLink RX7 16 "ColourPartsModel" "corners" "[I", Cond.methodLink RX7 112 yX7_load, Cond.instanceMethod yX7_load, Cond.selects RX7 yX7_load yX7_load, Cond.code yX7_load cX7_load 14 none, Cond.fieldLink RX7 7 "ColourPartsModel" "cornerX" "[J", Cond.fieldLink RX7 13 "ColourPartsModel" "cornerY" "[J", Cond.fieldLink RX7 29 "ColourPartsModel" "standing" "[Z", Cond.fieldLink RX7 23 "ColourPartsModel" "cuts" "[J", Cond.fieldLink RX7 42 "ColourPartsModel" "one" "[J", Cond.fieldLink RX7 45 "ColourPartsModel" "two" "[J", Cond.methodLink RX7 101 yX7_low, Cond.static yX7_low, Cond.code yX7_low cX7_low 4 (some .long), Cond.methodLink RX7 105 yX7_high, Cond.static yX7_high, Cond.code yX7_high cX7_high 4 (some .long), Cond.methodLink RX7 116 yX7_isNearBox]
def wsX7_isNearPiece_r2 : List Cond := [Cond.instanceMethod yX7_isNearBox, Cond.selects RX7 yX7_isNearBox yX7_isNearBox, Cond.code yX7_isNearBox cX7_isNearBox 5 (some .boolean), Cond.fieldLink RX7 68 "ColourPartsModel" "distance" "J"]
def wsX7_isNearPiece : List Cond := .code yX7_isNearPiece cX7_isNearPiece 8 (some .boolean) :: ((wsX7_isNearPiece_r1 ++ wsX7_isNearPiece_r2) ++ wsX70)
def wsX7_isNear_r1 : List Cond := [Cond.fieldLink RX7 26 "ColourPartsModel" "cutCounts" "[I", Cond.methodLink RX7 120 yX7_isNearPiece, Cond.instanceMethod yX7_isNearPiece, Cond.selects RX7 yX7_isNearPiece yX7_isNearPiece, Cond.initialized RX7, Cond.code yX7_isNearPiece cX7_isNearPiece 8 (some .boolean), Cond.methodLink RX7 108 yX7_boxes, Cond.instanceMethod yX7_boxes, Cond.selects RX7 yX7_boxes yX7_boxes, Cond.code yX7_boxes cX7_boxes 2 (some .int), Cond.fieldLink RX7 16 "ColourPartsModel" "corners" "[I", Cond.methodLink RX7 112 yX7_load, Cond.instanceMethod yX7_load, Cond.selects RX7 yX7_load yX7_load, Cond.code yX7_load cX7_load 14 none, Cond.fieldLink RX7 7 "ColourPartsModel" "cornerX" "[J", Cond.fieldLink RX7 13 "ColourPartsModel" "cornerY" "[J", Cond.fieldLink RX7 29 "ColourPartsModel" "standing" "[Z", Cond.fieldLink RX7 23 "ColourPartsModel" "cuts" "[J", Cond.fieldLink RX7 42 "ColourPartsModel" "one" "[J", Cond.fieldLink RX7 45 "ColourPartsModel" "two" "[J", Cond.methodLink RX7 101 yX7_low, Cond.static yX7_low, Cond.code yX7_low cX7_low 4 (some .long)]
def wsX7_isNear_r2 : List Cond := [Cond.methodLink RX7 105 yX7_high, Cond.static yX7_high, Cond.code yX7_high cX7_high 4 (some .long), Cond.methodLink RX7 116 yX7_isNearBox, Cond.instanceMethod yX7_isNearBox, Cond.selects RX7 yX7_isNearBox yX7_isNearBox, Cond.code yX7_isNearBox cX7_isNearBox 5 (some .boolean), Cond.fieldLink RX7 68 "ColourPartsModel" "distance" "J"]
def wsX7_isNear : List Cond := .code yX7_isNear cX7_isNear 6 (some .boolean) :: ((wsX7_isNear_r1 ++ wsX7_isNear_r2) ++ wsX70)
def wsX7_near_r1 : List Cond := [Cond.fieldLink RX7 72 "ColourPartsModel" "code" "I", Cond.fieldLink RX7 76 "ColourPartsModel" "shapes" "I", Cond.methodLink RX7 124 yX7_isOpen, Cond.instanceMethod yX7_isOpen, Cond.selects RX7 yX7_isOpen yX7_isOpen, Cond.initialized RX7, Cond.code yX7_isOpen cX7_isOpen 3 (some .boolean), Cond.fieldLink RX7 16 "ColourPartsModel" "corners" "[I", Cond.methodLink RX7 127 yX7_isNear, Cond.instanceMethod yX7_isNear, Cond.selects RX7 yX7_isNear yX7_isNear, Cond.code yX7_isNear cX7_isNear 6 (some .boolean), Cond.fieldLink RX7 26 "ColourPartsModel" "cutCounts" "[I", Cond.methodLink RX7 120 yX7_isNearPiece, Cond.instanceMethod yX7_isNearPiece, Cond.selects RX7 yX7_isNearPiece yX7_isNearPiece, Cond.code yX7_isNearPiece cX7_isNearPiece 8 (some .boolean), Cond.methodLink RX7 108 yX7_boxes, Cond.instanceMethod yX7_boxes, Cond.selects RX7 yX7_boxes yX7_boxes, Cond.code yX7_boxes cX7_boxes 2 (some .int), Cond.methodLink RX7 112 yX7_load, Cond.instanceMethod yX7_load, Cond.selects RX7 yX7_load yX7_load]
def wsX7_near_r2 : List Cond := [Cond.code yX7_load cX7_load 14 none, Cond.fieldLink RX7 7 "ColourPartsModel" "cornerX" "[J", Cond.fieldLink RX7 13 "ColourPartsModel" "cornerY" "[J", Cond.fieldLink RX7 29 "ColourPartsModel" "standing" "[Z", Cond.fieldLink RX7 23 "ColourPartsModel" "cuts" "[J", Cond.fieldLink RX7 42 "ColourPartsModel" "one" "[J", Cond.fieldLink RX7 45 "ColourPartsModel" "two" "[J", Cond.methodLink RX7 101 yX7_low, Cond.static yX7_low, Cond.code yX7_low cX7_low 4 (some .long), Cond.methodLink RX7 105 yX7_high, Cond.static yX7_high, Cond.code yX7_high cX7_high 4 (some .long), Cond.methodLink RX7 116 yX7_isNearBox, Cond.instanceMethod yX7_isNearBox, Cond.selects RX7 yX7_isNearBox yX7_isNearBox, Cond.code yX7_isNearBox cX7_isNearBox 5 (some .boolean), Cond.fieldLink RX7 68 "ColourPartsModel" "distance" "J"]
def wsX7_near : List Cond := .code yX7_near cX7_near 4 (some .int) :: ((wsX7_near_r1 ++ wsX7_near_r2) ++ wsX70)
def wsX7_pair_r1 : List Cond := [Cond.fieldLink RX7 72 "ColourPartsModel" "code" "I", Cond.fieldLink RX7 76 "ColourPartsModel" "shapes" "I", Cond.methodLink RX7 124 yX7_isOpen, Cond.instanceMethod yX7_isOpen, Cond.selects RX7 yX7_isOpen yX7_isOpen, Cond.initialized RX7, Cond.code yX7_isOpen cX7_isOpen 3 (some .boolean), Cond.fieldLink RX7 16 "ColourPartsModel" "corners" "[I", Cond.methodLink RX7 127 yX7_isNear, Cond.instanceMethod yX7_isNear, Cond.selects RX7 yX7_isNear yX7_isNear, Cond.code yX7_isNear cX7_isNear 6 (some .boolean), Cond.fieldLink RX7 26 "ColourPartsModel" "cutCounts" "[I", Cond.methodLink RX7 120 yX7_isNearPiece, Cond.instanceMethod yX7_isNearPiece, Cond.selects RX7 yX7_isNearPiece yX7_isNearPiece, Cond.code yX7_isNearPiece cX7_isNearPiece 8 (some .boolean), Cond.methodLink RX7 108 yX7_boxes, Cond.instanceMethod yX7_boxes, Cond.selects RX7 yX7_boxes yX7_boxes, Cond.code yX7_boxes cX7_boxes 2 (some .int), Cond.methodLink RX7 112 yX7_load, Cond.instanceMethod yX7_load, Cond.selects RX7 yX7_load yX7_load]
def wsX7_pair_r2 : List Cond := [Cond.code yX7_load cX7_load 14 none, Cond.fieldLink RX7 7 "ColourPartsModel" "cornerX" "[J", Cond.fieldLink RX7 13 "ColourPartsModel" "cornerY" "[J", Cond.fieldLink RX7 29 "ColourPartsModel" "standing" "[Z", Cond.fieldLink RX7 23 "ColourPartsModel" "cuts" "[J", Cond.fieldLink RX7 42 "ColourPartsModel" "one" "[J", Cond.fieldLink RX7 45 "ColourPartsModel" "two" "[J", Cond.methodLink RX7 101 yX7_low, Cond.static yX7_low, Cond.code yX7_low cX7_low 4 (some .long), Cond.methodLink RX7 105 yX7_high, Cond.static yX7_high, Cond.code yX7_high cX7_high 4 (some .long), Cond.methodLink RX7 116 yX7_isNearBox, Cond.instanceMethod yX7_isNearBox, Cond.selects RX7 yX7_isNearBox yX7_isNearBox, Cond.code yX7_isNearBox cX7_isNearBox 5 (some .boolean), Cond.fieldLink RX7 68 "ColourPartsModel" "distance" "J"]
def wsX7_pair : List Cond := .code yX7_pair cX7_pair 6 (some .int) :: ((wsX7_pair_r1 ++ wsX7_pair_r2) ++ wsX70)
def wsX7_pre : List Cond := .code yX7_pre cX7_pre 3 (some .boolean) :: ([.fieldLink RX7 72 "ColourPartsModel" "code" "I", .fieldLink RX7 20 "ColourPartsModel" "told" "[I", .methodLink RX7 83 yX7_isShape, .instanceMethod yX7_isShape, .selects RX7 yX7_isShape yX7_isShape, .initialized RX7, .code yX7_isShape cX7_isShape 2 (some .boolean), .fieldLink RX7 76 "ColourPartsModel" "shapes" "I", .methodLink RX7 124 yX7_isOpen, .instanceMethod yX7_isOpen, .selects RX7 yX7_isOpen yX7_isOpen, .code yX7_isOpen cX7_isOpen 3 (some .boolean), .fieldLink RX7 16 "ColourPartsModel" "corners" "[I"] ++ wsX70)
def wsX7_hasCut : List Cond := .code yX7_hasCut cX7_hasCut 7 (some .boolean) :: ([.fieldLink RX7 26 "ColourPartsModel" "cutCounts" "[I", .fieldLink RX7 29 "ColourPartsModel" "standing" "[Z", .fieldLink RX7 23 "ColourPartsModel" "cuts" "[J"] ++ wsX70)
def wsX7_isWithin : List Cond := .code yX7_isWithin cX7_isWithin 9 (some .boolean) :: ([.fieldLink RX7 7 "ColourPartsModel" "cornerX" "[J", .fieldLink RX7 13 "ColourPartsModel" "cornerY" "[J", .methodLink RX7 101 yX7_low, .static yX7_low, .initialized RX7, .code yX7_low cX7_low 4 (some .long), .methodLink RX7 105 yX7_high, .static yX7_high, .code yX7_high cX7_high 4 (some .long)] ++ wsX70)
def wsX7_stitch_r1 : List Cond := [Cond.fieldLink RX7 72 "ColourPartsModel" "code" "I", Cond.fieldLink RX7 16 "ColourPartsModel" "corners" "[I", Cond.fieldLink RX7 26 "ColourPartsModel" "cutCounts" "[I", Cond.fieldLink RX7 29 "ColourPartsModel" "standing" "[Z", Cond.fieldLink RX7 23 "ColourPartsModel" "cuts" "[J", Cond.methodLink RX7 83 yX7_isShape, Cond.instanceMethod yX7_isShape, Cond.selects RX7 yX7_isShape yX7_isShape, Cond.initialized RX7, Cond.code yX7_isShape cX7_isShape 2 (some .boolean), Cond.fieldLink RX7 76 "ColourPartsModel" "shapes" "I", Cond.methodLink RX7 124 yX7_isOpen, Cond.instanceMethod yX7_isOpen, Cond.selects RX7 yX7_isOpen yX7_isOpen, Cond.code yX7_isOpen cX7_isOpen 3 (some .boolean), Cond.methodLink RX7 131 yX7_hasCut, Cond.instanceMethod yX7_hasCut, Cond.selects RX7 yX7_hasCut yX7_hasCut, Cond.code yX7_hasCut cX7_hasCut 7 (some .boolean), Cond.methodLink RX7 79 yX7_allPieces, Cond.instanceMethod yX7_allPieces, Cond.selects RX7 yX7_allPieces yX7_allPieces, Cond.code yX7_allPieces cX7_allPieces 3 (some .int), Cond.methodLink RX7 135 yX7_isWithin]
def wsX7_stitch_r2 : List Cond := [Cond.instanceMethod yX7_isWithin, Cond.selects RX7 yX7_isWithin yX7_isWithin, Cond.code yX7_isWithin cX7_isWithin 9 (some .boolean), Cond.fieldLink RX7 7 "ColourPartsModel" "cornerX" "[J", Cond.fieldLink RX7 13 "ColourPartsModel" "cornerY" "[J", Cond.methodLink RX7 101 yX7_low, Cond.static yX7_low, Cond.code yX7_low cX7_low 4 (some .long), Cond.methodLink RX7 105 yX7_high, Cond.static yX7_high, Cond.code yX7_high cX7_high 4 (some .long)]
def wsX7_stitch : List Cond := .code yX7_stitch cX7_stitch 7 (some .boolean) :: ((wsX7_stitch_r1 ++ wsX7_stitch_r2) ++ wsX70)
def wsX7_part_r1 : List Cond := [Cond.fieldLink RX7 138 "ColourPartsModel" "pieces" "I", Cond.fieldLink RX7 76 "ColourPartsModel" "shapes" "I", Cond.fieldLink RX7 26 "ColourPartsModel" "cutCounts" "[I", Cond.fieldLink RX7 33 "ColourPartsModel" "pieceShapes" "[I", Cond.fieldLink RX7 36 "ColourPartsModel" "pieceNumbers" "[I", Cond.fieldLink RX7 39 "ColourPartsModel" "nears" "[Z", Cond.methodLink RX7 120 yX7_isNearPiece, Cond.instanceMethod yX7_isNearPiece, Cond.selects RX7 yX7_isNearPiece yX7_isNearPiece, Cond.initialized RX7, Cond.code yX7_isNearPiece cX7_isNearPiece 8 (some .boolean), Cond.methodLink RX7 108 yX7_boxes, Cond.instanceMethod yX7_boxes, Cond.selects RX7 yX7_boxes yX7_boxes, Cond.code yX7_boxes cX7_boxes 2 (some .int), Cond.fieldLink RX7 16 "ColourPartsModel" "corners" "[I", Cond.methodLink RX7 112 yX7_load, Cond.instanceMethod yX7_load, Cond.selects RX7 yX7_load yX7_load, Cond.code yX7_load cX7_load 14 none, Cond.fieldLink RX7 7 "ColourPartsModel" "cornerX" "[J", Cond.fieldLink RX7 13 "ColourPartsModel" "cornerY" "[J", Cond.fieldLink RX7 29 "ColourPartsModel" "standing" "[Z", Cond.fieldLink RX7 23 "ColourPartsModel" "cuts" "[J"]
def wsX7_part_r2 : List Cond := [Cond.fieldLink RX7 42 "ColourPartsModel" "one" "[J", Cond.fieldLink RX7 45 "ColourPartsModel" "two" "[J", Cond.methodLink RX7 101 yX7_low, Cond.static yX7_low, Cond.code yX7_low cX7_low 4 (some .long), Cond.methodLink RX7 105 yX7_high, Cond.static yX7_high, Cond.code yX7_high cX7_high 4 (some .long), Cond.methodLink RX7 116 yX7_isNearBox, Cond.instanceMethod yX7_isNearBox, Cond.selects RX7 yX7_isNearBox yX7_isNearBox, Cond.code yX7_isNearBox cX7_isNearBox 5 (some .boolean), Cond.fieldLink RX7 68 "ColourPartsModel" "distance" "J"]
def wsX7_part : List Cond := .code yX7_part cX7_part 3 none :: ((wsX7_part_r1 ++ wsX7_part_r2) ++ wsX70)
def wsX7_usedUpTo : List Cond := .code yX7_usedUpTo cX7_usedUpTo 4 (some .int) :: ([.fieldLink RX7 33 "ColourPartsModel" "pieceShapes" "[I", .fieldLink RX7 48 "ColourPartsModel" "colours" "[I"] ++ wsX70)
def wsX7_fits : List Cond := .code yX7_fits cX7_fits 6 (some .boolean) :: ([.fieldLink RX7 20 "ColourPartsModel" "told" "[I", .fieldLink RX7 33 "ColourPartsModel" "pieceShapes" "[I", .fieldLink RX7 48 "ColourPartsModel" "colours" "[I", .fieldLink RX7 39 "ColourPartsModel" "nears" "[Z", .methodLink RX7 141 yX7_usedUpTo, .instanceMethod yX7_usedUpTo, .selects RX7 yX7_usedUpTo yX7_usedUpTo, .initialized RX7, .code yX7_usedUpTo cX7_usedUpTo 4 (some .int)] ++ wsX70)
def wsX7_isFound : List Cond := .code yX7_isFound cX7_isFound 4 (some .boolean) :: ([.fieldLink RX7 48 "ColourPartsModel" "colours" "[I", .fieldLink RX7 138 "ColourPartsModel" "pieces" "I", .methodLink RX7 144 yX7_fits, .instanceMethod yX7_fits, .selects RX7 yX7_fits yX7_fits, .initialized RX7, .code yX7_fits cX7_fits 6 (some .boolean), .fieldLink RX7 20 "ColourPartsModel" "told" "[I", .fieldLink RX7 33 "ColourPartsModel" "pieceShapes" "[I", .fieldLink RX7 39 "ColourPartsModel" "nears" "[Z", .methodLink RX7 141 yX7_usedUpTo, .instanceMethod yX7_usedUpTo, .selects RX7 yX7_usedUpTo yX7_usedUpTo, .code yX7_usedUpTo cX7_usedUpTo 4 (some .int)] ++ wsX70)
def wsX7_areaOf_r1 : List Cond := [Cond.fieldLink RX7 33 "ColourPartsModel" "pieceShapes" "[I", Cond.fieldLink RX7 36 "ColourPartsModel" "pieceNumbers" "[I", Cond.fieldLink RX7 42 "ColourPartsModel" "one" "[J", Cond.methodLink RX7 108 yX7_boxes, Cond.instanceMethod yX7_boxes, Cond.selects RX7 yX7_boxes yX7_boxes, Cond.initialized RX7, Cond.code yX7_boxes cX7_boxes 2 (some .int), Cond.fieldLink RX7 26 "ColourPartsModel" "cutCounts" "[I", Cond.fieldLink RX7 16 "ColourPartsModel" "corners" "[I", Cond.methodLink RX7 112 yX7_load, Cond.instanceMethod yX7_load, Cond.selects RX7 yX7_load yX7_load, Cond.code yX7_load cX7_load 14 none, Cond.fieldLink RX7 7 "ColourPartsModel" "cornerX" "[J", Cond.fieldLink RX7 13 "ColourPartsModel" "cornerY" "[J", Cond.fieldLink RX7 29 "ColourPartsModel" "standing" "[Z", Cond.fieldLink RX7 23 "ColourPartsModel" "cuts" "[J", Cond.fieldLink RX7 45 "ColourPartsModel" "two" "[J", Cond.methodLink RX7 101 yX7_low, Cond.static yX7_low, Cond.code yX7_low cX7_low 4 (some .long), Cond.methodLink RX7 105 yX7_high, Cond.static yX7_high]
def wsX7_areaOf_r2 : List Cond := [Cond.code yX7_high cX7_high 4 (some .long)]
def wsX7_areaOf : List Cond := .code yX7_areaOf cX7_areaOf 5 (some .long) :: ((wsX7_areaOf_r1 ++ wsX7_areaOf_r2) ++ wsX70)
def wsX7_keep_r1 : List Cond := [Cond.fieldLink RX7 91 "ColourPartsModel" "kept" "Z", Cond.fieldLink RX7 138 "ColourPartsModel" "pieces" "I", Cond.fieldLink RX7 147 "ColourPartsModel" "keptPieces" "I", Cond.fieldLink RX7 150 "ColourPartsModel" "keptStitches" "I", Cond.fieldLink RX7 51 "ColourPartsModel" "keptShapes" "[I", Cond.fieldLink RX7 33 "ColourPartsModel" "pieceShapes" "[I", Cond.fieldLink RX7 54 "ColourPartsModel" "keptColours" "[I", Cond.fieldLink RX7 48 "ColourPartsModel" "colours" "[I", Cond.fieldLink RX7 57 "ColourPartsModel" "keptAreas" "[J", Cond.methodLink RX7 141 yX7_usedUpTo, Cond.instanceMethod yX7_usedUpTo, Cond.selects RX7 yX7_usedUpTo yX7_usedUpTo, Cond.initialized RX7, Cond.code yX7_usedUpTo cX7_usedUpTo 4 (some .int), Cond.methodLink RX7 153 yX7_areaOf, Cond.instanceMethod yX7_areaOf, Cond.selects RX7 yX7_areaOf yX7_areaOf, Cond.code yX7_areaOf cX7_areaOf 5 (some .long), Cond.fieldLink RX7 36 "ColourPartsModel" "pieceNumbers" "[I", Cond.fieldLink RX7 42 "ColourPartsModel" "one" "[J", Cond.methodLink RX7 108 yX7_boxes, Cond.instanceMethod yX7_boxes, Cond.selects RX7 yX7_boxes yX7_boxes, Cond.code yX7_boxes cX7_boxes 2 (some .int)]
def wsX7_keep_r2 : List Cond := [Cond.fieldLink RX7 26 "ColourPartsModel" "cutCounts" "[I", Cond.fieldLink RX7 16 "ColourPartsModel" "corners" "[I", Cond.methodLink RX7 112 yX7_load, Cond.instanceMethod yX7_load, Cond.selects RX7 yX7_load yX7_load, Cond.code yX7_load cX7_load 14 none, Cond.fieldLink RX7 7 "ColourPartsModel" "cornerX" "[J", Cond.fieldLink RX7 13 "ColourPartsModel" "cornerY" "[J", Cond.fieldLink RX7 29 "ColourPartsModel" "standing" "[Z", Cond.fieldLink RX7 23 "ColourPartsModel" "cuts" "[J", Cond.fieldLink RX7 45 "ColourPartsModel" "two" "[J", Cond.methodLink RX7 101 yX7_low, Cond.static yX7_low, Cond.code yX7_low cX7_low 4 (some .long), Cond.methodLink RX7 105 yX7_high, Cond.static yX7_high, Cond.code yX7_high cX7_high 4 (some .long)]
def wsX7_keep : List Cond := .code yX7_keep cX7_keep 2 none :: ((wsX7_keep_r1 ++ wsX7_keep_r2) ++ wsX70)
def wsX7_isStep : List Cond := .code yX7_isStep cX7_isStep 6 (some .boolean) :: ([.fieldLink RX7 60 "ColourPartsModel" "walk" "[I", .fieldLink RX7 39 "ColourPartsModel" "nears" "[Z"] ++ wsX70)
def wsX7_isRing : List Cond := .code yX7_isRing cX7_isRing 3 (some .boolean) :: ([.fieldLink RX7 60 "ColourPartsModel" "walk" "[I", .fieldLink RX7 138 "ColourPartsModel" "pieces" "I", .methodLink RX7 157 yX7_isStep, .instanceMethod yX7_isStep, .selects RX7 yX7_isStep yX7_isStep, .initialized RX7, .code yX7_isStep cX7_isStep 6 (some .boolean), .fieldLink RX7 39 "ColourPartsModel" "nears" "[Z"] ++ wsX70)
def wsX7_findRing : List Cond := .code yX7_findRing cX7_findRing 3 none :: ([.fieldLink RX7 138 "ColourPartsModel" "pieces" "I", .fieldLink RX7 95 "ColourPartsModel" "ringLength" "I", .fieldLink RX7 63 "ColourPartsModel" "ringShapes" "[I", .fieldLink RX7 33 "ColourPartsModel" "pieceShapes" "[I", .fieldLink RX7 60 "ColourPartsModel" "walk" "[I", .methodLink RX7 160 yX7_isRing, .instanceMethod yX7_isRing, .selects RX7 yX7_isRing yX7_isRing, .initialized RX7, .code yX7_isRing cX7_isRing 3 (some .boolean), .methodLink RX7 157 yX7_isStep, .instanceMethod yX7_isStep, .selects RX7 yX7_isStep yX7_isStep, .code yX7_isStep cX7_isStep 6 (some .boolean), .fieldLink RX7 39 "ColourPartsModel" "nears" "[Z"] ++ wsX70)
def wsX7_run_r1 : List Cond := [Cond.fieldLink RX7 72 "ColourPartsModel" "code" "I", Cond.fieldLink RX7 98 "ColourPartsModel" "closed" "Z", Cond.fieldLink RX7 91 "ColourPartsModel" "kept" "Z", Cond.fieldLink RX7 95 "ColourPartsModel" "ringLength" "I", Cond.methodLink RX7 124 yX7_isOpen, Cond.instanceMethod yX7_isOpen, Cond.selects RX7 yX7_isOpen yX7_isOpen, Cond.initialized RX7, Cond.code yX7_isOpen cX7_isOpen 3 (some .boolean), Cond.fieldLink RX7 76 "ColourPartsModel" "shapes" "I", Cond.fieldLink RX7 16 "ColourPartsModel" "corners" "[I", Cond.methodLink RX7 79 yX7_allPieces, Cond.instanceMethod yX7_allPieces, Cond.selects RX7 yX7_allPieces yX7_allPieces, Cond.code yX7_allPieces cX7_allPieces 3 (some .int), Cond.fieldLink RX7 26 "ColourPartsModel" "cutCounts" "[I", Cond.methodLink RX7 163 yX7_part, Cond.instanceMethod yX7_part, Cond.selects RX7 yX7_part yX7_part, Cond.code yX7_part cX7_part 3 none, Cond.fieldLink RX7 138 "ColourPartsModel" "pieces" "I", Cond.fieldLink RX7 33 "ColourPartsModel" "pieceShapes" "[I", Cond.fieldLink RX7 36 "ColourPartsModel" "pieceNumbers" "[I", Cond.fieldLink RX7 39 "ColourPartsModel" "nears" "[Z"]
def wsX7_run_r2 : List Cond := [Cond.methodLink RX7 120 yX7_isNearPiece, Cond.instanceMethod yX7_isNearPiece, Cond.selects RX7 yX7_isNearPiece yX7_isNearPiece, Cond.code yX7_isNearPiece cX7_isNearPiece 8 (some .boolean), Cond.methodLink RX7 108 yX7_boxes, Cond.instanceMethod yX7_boxes, Cond.selects RX7 yX7_boxes yX7_boxes, Cond.code yX7_boxes cX7_boxes 2 (some .int), Cond.methodLink RX7 112 yX7_load, Cond.instanceMethod yX7_load, Cond.selects RX7 yX7_load yX7_load, Cond.code yX7_load cX7_load 14 none, Cond.fieldLink RX7 7 "ColourPartsModel" "cornerX" "[J", Cond.fieldLink RX7 13 "ColourPartsModel" "cornerY" "[J", Cond.fieldLink RX7 29 "ColourPartsModel" "standing" "[Z", Cond.fieldLink RX7 23 "ColourPartsModel" "cuts" "[J", Cond.fieldLink RX7 42 "ColourPartsModel" "one" "[J", Cond.fieldLink RX7 45 "ColourPartsModel" "two" "[J", Cond.methodLink RX7 101 yX7_low, Cond.static yX7_low, Cond.code yX7_low cX7_low 4 (some .long), Cond.methodLink RX7 105 yX7_high, Cond.static yX7_high, Cond.code yX7_high cX7_high 4 (some .long)]
def wsX7_run_r3 : List Cond := [Cond.methodLink RX7 116 yX7_isNearBox, Cond.instanceMethod yX7_isNearBox, Cond.selects RX7 yX7_isNearBox yX7_isNearBox, Cond.code yX7_isNearBox cX7_isNearBox 5 (some .boolean), Cond.fieldLink RX7 68 "ColourPartsModel" "distance" "J", Cond.methodLink RX7 166 yX7_isFound, Cond.instanceMethod yX7_isFound, Cond.selects RX7 yX7_isFound yX7_isFound, Cond.code yX7_isFound cX7_isFound 4 (some .boolean), Cond.fieldLink RX7 48 "ColourPartsModel" "colours" "[I", Cond.methodLink RX7 144 yX7_fits, Cond.instanceMethod yX7_fits, Cond.selects RX7 yX7_fits yX7_fits, Cond.code yX7_fits cX7_fits 6 (some .boolean), Cond.fieldLink RX7 20 "ColourPartsModel" "told" "[I", Cond.methodLink RX7 141 yX7_usedUpTo, Cond.instanceMethod yX7_usedUpTo, Cond.selects RX7 yX7_usedUpTo yX7_usedUpTo, Cond.code yX7_usedUpTo cX7_usedUpTo 4 (some .int), Cond.methodLink RX7 169 yX7_keep, Cond.instanceMethod yX7_keep, Cond.selects RX7 yX7_keep yX7_keep, Cond.code yX7_keep cX7_keep 2 none, Cond.fieldLink RX7 147 "ColourPartsModel" "keptPieces" "I"]
def wsX7_run_r4 : List Cond := [Cond.fieldLink RX7 150 "ColourPartsModel" "keptStitches" "I", Cond.fieldLink RX7 51 "ColourPartsModel" "keptShapes" "[I", Cond.fieldLink RX7 54 "ColourPartsModel" "keptColours" "[I", Cond.fieldLink RX7 57 "ColourPartsModel" "keptAreas" "[J", Cond.methodLink RX7 153 yX7_areaOf, Cond.instanceMethod yX7_areaOf, Cond.selects RX7 yX7_areaOf yX7_areaOf, Cond.code yX7_areaOf cX7_areaOf 5 (some .long), Cond.methodLink RX7 172 yX7_findRing, Cond.instanceMethod yX7_findRing, Cond.selects RX7 yX7_findRing yX7_findRing, Cond.code yX7_findRing cX7_findRing 3 none, Cond.fieldLink RX7 63 "ColourPartsModel" "ringShapes" "[I", Cond.fieldLink RX7 60 "ColourPartsModel" "walk" "[I", Cond.methodLink RX7 160 yX7_isRing, Cond.instanceMethod yX7_isRing, Cond.selects RX7 yX7_isRing yX7_isRing, Cond.code yX7_isRing cX7_isRing 3 (some .boolean), Cond.methodLink RX7 157 yX7_isStep, Cond.instanceMethod yX7_isStep, Cond.selects RX7 yX7_isStep yX7_isStep, Cond.code yX7_isStep cX7_isStep 6 (some .boolean)]
def wsX7_run : List Cond := .code yX7_run cX7_run 5 (some .int) :: ((wsX7_run_r1 ++ (wsX7_run_r2 ++ (wsX7_run_r3 ++ wsX7_run_r4))) ++ wsX70)
def wsX7_firstOf : List Cond := .code yX7_firstOf cX7_firstOf 3 (some .int) :: ([.fieldLink RX7 147 "ColourPartsModel" "keptPieces" "I", .fieldLink RX7 91 "ColourPartsModel" "kept" "Z", .fieldLink RX7 51 "ColourPartsModel" "keptShapes" "[I"] ++ wsX70)
def wsX7_colour : List Cond := .code yX7_colour cX7_colour 3 (some .int) :: ([.fieldLink RX7 72 "ColourPartsModel" "code" "I", .fieldLink RX7 54 "ColourPartsModel" "keptColours" "[I", .methodLink RX7 83 yX7_isShape, .instanceMethod yX7_isShape, .selects RX7 yX7_isShape yX7_isShape, .initialized RX7, .code yX7_isShape cX7_isShape 2 (some .boolean), .fieldLink RX7 76 "ColourPartsModel" "shapes" "I", .methodLink RX7 175 yX7_firstOf, .instanceMethod yX7_firstOf, .selects RX7 yX7_firstOf yX7_firstOf, .code yX7_firstOf cX7_firstOf 3 (some .int), .fieldLink RX7 147 "ColourPartsModel" "keptPieces" "I", .fieldLink RX7 91 "ColourPartsModel" "kept" "Z", .fieldLink RX7 51 "ColourPartsModel" "keptShapes" "[I"] ++ wsX70)
def wsX7_ring : List Cond := .code yX7_ring cX7_ring 2 (some .int) :: ([.fieldLink RX7 95 "ColourPartsModel" "ringLength" "I", .fieldLink RX7 72 "ColourPartsModel" "code" "I", .fieldLink RX7 63 "ColourPartsModel" "ringShapes" "[I"] ++ wsX70)
def wsX7_length : List Cond := .code yX7_length cX7_length 1 (some .int) :: ([.fieldLink RX7 72 "ColourPartsModel" "code" "I", .fieldLink RX7 95 "ColourPartsModel" "ringLength" "I"] ++ wsX70)
def wsX7_stitches : List Cond := .code yX7_stitches cX7_stitches 1 (some .int) :: ([.fieldLink RX7 72 "ColourPartsModel" "code" "I", .fieldLink RX7 91 "ColourPartsModel" "kept" "Z", .fieldLink RX7 150 "ColourPartsModel" "keptStitches" "I"] ++ wsX70)
def wsX7_used : List Cond := .code yX7_used cX7_used 5 (some .boolean) :: ([.fieldLink RX7 26 "ColourPartsModel" "cutCounts" "[I", .fieldLink RX7 147 "ColourPartsModel" "keptPieces" "I", .fieldLink RX7 51 "ColourPartsModel" "keptShapes" "[I", .fieldLink RX7 72 "ColourPartsModel" "code" "I", .fieldLink RX7 54 "ColourPartsModel" "keptColours" "[I", .methodLink RX7 83 yX7_isShape, .instanceMethod yX7_isShape, .selects RX7 yX7_isShape yX7_isShape, .initialized RX7, .code yX7_isShape cX7_isShape 2 (some .boolean), .fieldLink RX7 76 "ColourPartsModel" "shapes" "I", .methodLink RX7 175 yX7_firstOf, .instanceMethod yX7_firstOf, .selects RX7 yX7_firstOf yX7_firstOf, .code yX7_firstOf cX7_firstOf 3 (some .int), .fieldLink RX7 91 "ColourPartsModel" "kept" "Z"] ++ wsX70)
def wsX7_balance : List Cond := .code yX7_balance cX7_balance 6 (some .long) :: ([.fieldLink RX7 72 "ColourPartsModel" "code" "I", .fieldLink RX7 147 "ColourPartsModel" "keptPieces" "I", .fieldLink RX7 91 "ColourPartsModel" "kept" "Z", .fieldLink RX7 54 "ColourPartsModel" "keptColours" "[I", .fieldLink RX7 57 "ColourPartsModel" "keptAreas" "[J"] ++ wsX70)
def wsX7_closed : List Cond := .code yX7_closed cX7_closed 1 (some .boolean) :: ([.fieldLink RX7 72 "ColourPartsModel" "code" "I", .fieldLink RX7 98 "ColourPartsModel" "closed" "Z"] ++ wsX70)
def wsJ9_max_7cf53 : List Cond := .code yJ9_max_7cf53 cJ9_max_7cf53 2 (some .int) :: ([])
def wsJ9_max_f86c9 : List Cond := .code yJ9_max_f86c9 cJ9_max_f86c9 4 (some .long) :: ([])
def wsJ9_min_7cf53 : List Cond := .code yJ9_min_7cf53 cJ9_min_7cf53 2 (some .int) :: ([])
def wsJ9_min_f86c9 : List Cond := .code yJ9_min_f86c9 cJ9_min_f86c9 4 (some .long) :: ([])
abbrev vwCl : List vw_C := [(RJx4a65c, TJx4a65c, 3), (RX0, TX0, 4), (RX1, TX1, 6), (RX2, TX2, 4), (RX3, TX3, 1), (RX4, TX4, 9), (RX5, TX5, 9), (RX6, TX6, 6), (RX7, TX7, 27)]
end
section
/-! THE CLEAN LAYER. hm_R: a map h from addresses to what the cells hold; J: the machine, at pc with locals L and stack st, comes to Q. One row an instruction. -/
abbrev JC : Type := Program × Launch × Env × Room × State × MethodId × Array Value × List Frame × Method × Code
def jx_p (X : JC) : Program := X.1
def jx_l (X : JC) : Launch := X.2.1
def jx_e (X : JC) : Env := X.2.2.1
def jx_R (X : JC) : Room := X.2.2.2.1
def jx_s (X : JC) : State := X.2.2.2.2.1
def jx_m (X : JC) : MethodId := X.2.2.2.2.2.1
def jx_a (X : JC) : Array Value := X.2.2.2.2.2.2.1
def jx_b (X : JC) : List Frame := X.2.2.2.2.2.2.2.1
def jx_t (X : JC) : Method := X.2.2.2.2.2.2.2.2.1
def jx_c (X : JC) : Code := X.2.2.2.2.2.2.2.2.2
abbrev HO : Type := (FieldType × vp_A) ⊕ (Nat × List Value)
abbrev HM : Type := Nat → Option HO
abbrev hI (n : Nat) (f : Nat → Int32) : HO := .inl (.int, (n, .inl f))
abbrev hJ (n : Nat) (f : Nat → Int64) : HO := .inl (.long, (n, .inr (.inl f)))
abbrev hZ (n : Nat) (f : Nat → Int32) : HO := .inl (.boolean, (n, .inl f))
abbrev hQ (n : Nat) (f : Nat → Option Nat) : HO := .inl (.object "java/lang/Object", (n, .inr (.inr (.inr (.inr f)))))
abbrev hO (ci : Nat) (fs : List Value) : HO := .inr (ci, fs)
def hput (h : HM) (a : Nat) (o : HO) : HM := fun q => if q = a then some o else h q
theorem hput_eq (h : HM) (a : Nat) (o : HO) : hput h a o a = some o := if_pos rfl
theorem hput_ne {h : HM} {a q : Nat} (o : HO) (hq : q ≠ a) : hput h a o q = h q := if_neg hq
def hm_at (U : State) (D : va_G) (a : Nat) (o : HO) (H : Heap) : Prop := match o with
  | .inl x => ∃ cA : ClassId, ArrOfT U cA x.1 ∧ va_RA U cA x.1 ∧ H[a]? = some (vp_cell cA x.2)
  | .inr x => va_at D vwCl (a, .inr x) H
def hm_ro (o : HO) : Prop := match o with
  | .inl x => x.2.1 = 0
  | .inr _ => False
def hm_R (U : State) (B : Nat) (D : va_G) (h : HM) (H : Heap) : Prop := ∀ (a : Nat) (o : HO), h a = some o → hm_at U D a o H ∧ (hm_ro o ∨ B ≤ a)
theorem hm_at.moved {u U : State} {D : va_G} {a : Nat} {o : HO} {H : Heap} (hvm : u.vm.Alike U.vm) (h : hm_at u D a o H) : hm_at U D a o H := by
  cases o with
  | inl x => obtain ⟨cA, h1, h2, h3⟩ := h; exact ⟨cA, arrOfT_moved hvm h1, h2.moved hvm, h3⟩
  | inr x => exact h
theorem hm_at.kept {U : State} {D : va_G} {a : Nat} {o : HO} {H H1 : Heap} (h : hm_at U D a o H) (hq : H1[a]? = H[a]?) : hm_at U D a o H1 := by
  cases o with
  | inl x => obtain ⟨cA, h1, h2, h3⟩ := h; exact ⟨cA, h1, h2, hq.trans h3⟩
  | inr x => exact va_at.kept (q := (a, .inr x)) h hq
theorem hm_at.lt {U : State} {D : va_G} {a : Nat} {o : HO} {H : Heap} (h : hm_at U D a o H) : a < H.size := by
  cases o with
  | inl x => obtain ⟨cA, h1, h2, h3⟩ := h; exact (Array.getElem?_eq_some_iff.mp h3).1
  | inr x => exact va_at.lt (q := (a, .inr x)) h
theorem hm_R.moved {u U : State} {B : Nat} {D : va_G} {h : HM} {H : Heap} (hvm : u.vm.Alike U.vm) (hR : hm_R u B D h H) : hm_R U B D h H := fun a o e => ⟨(hR a o e).1.moved hvm, (hR a o e).2⟩
theorem hm_R.grow {U : State} {B : Nat} {D : va_G} {h : HM} {H H1 : Heap} (hR : hm_R U B D h H) (hq : ∀ q : Nat, q < H.size → H1[q]? = H[q]?) : hm_R U B D h H1 := fun a o e => ⟨(hR a o e).1.kept (hq a (hR a o e).1.lt), (hR a o e).2⟩
theorem hm_R.set {U : State} {B : Nat} {D : va_G} {h : HM} {H H1 : Heap} {a : Nat} {o : HO} (hR : hm_R U B D h H) (hB : B ≤ a) (ho : hm_at U D a o H1) (hq : ∀ q : Nat, q ≠ a → H1[q]? = H[q]?) : hm_R U B D (hput h a o) H1 := by
  intro q o1 e
  by_cases hqa : q = a
  · subst hqa
    rw [hput_eq] at e
    cases e
    exact ⟨ho, Or.inr hB⟩
  · rw [hput_ne o hqa] at e
    exact ⟨(hR q o1 e).1.kept (hq q hqa), (hR q o1 e).2⟩
theorem hm_R.push {U : State} {B : Nat} {D : va_G} {h : HM} {H H1 : Heap} {o : HO} (hR : hm_R U B D h H) (hB : B ≤ H.size) (ho : hm_at U D H.size o H1) (hq : ∀ q : Nat, q < H.size → H1[q]? = H[q]?) : hm_R U B D (hput h H.size o) H1 := by
  intro q o1 e
  by_cases hqa : q = H.size
  · subst hqa
    rw [hput_eq] at e
    cases e
    exact ⟨ho, Or.inr hB⟩
  · rw [hput_ne o hqa] at e
    exact ⟨(hR q o1 e).1.kept (hq q (hR q o1 e).1.lt), (hR q o1 e).2⟩
theorem hm_R.none {U : State} {B : Nat} {D : va_G} {h : HM} {H : Heap} (hR : hm_R U B D h H) : h H.size = none := by
  cases e : h H.size with
  | none => rfl
  | some o => exact absurd (hR _ o e).1.lt (Nat.lt_irrefl _)
theorem hm_R.B {U : State} {B : Nat} {D : va_G} {h : HM} {H : Heap} {a ci : Nat} {fs : List Value} (hR : hm_R U B D h H) (e : h a = some (hO ci fs)) : B ≤ a := (hR a _ e).2.elim (fun h => h.elim) id
theorem hm_R.BA {U : State} {B : Nat} {D : va_G} {h : HM} {H : Heap} {a n k : Nat} {ty : FieldType} {f} (hR : hm_R U B D h H) (e : h a = some (.inl (ty, (n, f)))) (hk : k < n) : B ≤ a := (hR a _ e).2.elim (fun h => absurd (show n = 0 from h) (by omega)) id
def jl_get (L : List (Nat × Value)) (i : Nat) : Option Value := match L with
  | [] => none
  | (j, v) :: t => if i = j then some v else jl_get t i
theorem jl_mem : ∀ {L : List (Nat × Value)} {i : Nat} {v : Value}, jl_get L i = some v → (i, v) ∈ L
  | [], i, v, h => by simp [jl_get] at h
  | (j, w) :: t, i, v, h => by
    unfold jl_get at h
    by_cases e : i = j
    · rw [if_pos e] at h; cases h; rw [e]; exact List.mem_cons_self
    · rw [if_neg e] at h; exact List.mem_cons_of_mem _ (jl_mem h)
theorem jl_at {ls : Array Slot} {nL : Nat} {L : List (Nat × Value)} {i : Nat} {v : Value} (h : lv_has ls nL L) (e : jl_get L i = some v) : ls[i]? = some (.val v) := h.2.2 (i, v) (jl_mem e)
def jl_set (i : Nat) (v : Value) (L : List (Nat × Value)) : List (Nat × Value) := (i, v) :: L.filter (fun q => !(q.1 == i) && !(q.1 + 1 == i && q.2.category == 2))
def jl_set2 (i : Nat) (v : Value) (L : List (Nat × Value)) : List (Nat × Value) := (i, v) :: L.filter (fun q => !(q.1 == i) && (!(q.1 == i + 1) && !(q.1 + 1 == i && q.2.category == 2)))
def jl_sub (L' L : List (Nat × Value)) : Prop := match L' with
  | [] => True
  | q :: t => jl_get L q.1 = some q.2 ∧ jl_sub t L
theorem jl_sub_ok : ∀ {L' L : List (Nat × Value)}, jl_sub L' L → ∀ q ∈ L', q ∈ L
  | [], _, _, q, h => by cases h
  | p :: t, L, h, q, hq => by
    rcases List.mem_cons.mp hq with e | e
    · rw [e]; exact jl_mem h.1
    · exact jl_sub_ok h.2 q e
abbrev rmv (v mc ms : Nat) : Room := { frames := v, cells := mc, slots := ms, locals := 64 * v }
/-- what stays of a world's start: the classes, the constants -/
def PWs (B E0 : Nat) (D : va_G) (U : State) (H : Heap) : Prop :=
  va_Z "java/util/ArrayList" "DEFAULTCAPACITY_EMPTY_ELEMENTDATA" "[Ljava/lang/Object;" (.ref E0) (fun q => B ≤ q) U H ∧
  vx_Zq Bundle.tN "UNASSIGNED_STACK" Bundle.steD (fun q => B ≤ q) U H ∧ vx_Zq Bundle.tN "SUPPRESSED_SENTINEL" Bundle.listD (fun q => B ≤ q) U H
def jstr : List (Nat × String) := [(56, "no more shapes"), (219, "no such shape"), (82, "no more corners"), (90, "too far"), (224, "a shape is open"), (112, "no such colours or steps"), (155, "no such place in the ring"), (162, "no such colour"), (167, "more boxes than one"), (173, "no more stitches"), (180, "not strictly within"), (185, "others are the other way"), (197, "no such stitch"), (202, "no such part"), (211, "no such pair or side")]
def PWx (U : State) : Prop := (∃ mi : Nat, va_Mi "[Ljava/lang/Object;" mi U) ∧ va_Dc U ∧ va_AO "java/lang/Object" U ∧ va_Nw (.methodLinkNest "ColourParts" 63 ⟨"ColourParts$Shape", "<init>", "()V"⟩ "ColourParts") U ∧ va_Nw (.methodLinkNest "ColourParts" 237 ⟨"ColourParts$Pieces", "<init>", "()V"⟩ "ColourParts") U
theorem PWx.warm {u U : State} (hW : u.WarmedH U.vm) (h : PWx u) : PWx U := ⟨h.1.elim fun mi q => ⟨mi, q.moved hW.alike⟩, h.2.1.moved hW.alike, h.2.2.1.moved hW.alike, va_Nw.warmM hW h.2.2.2.1, va_Nw.warmM hW h.2.2.2.2⟩
theorem va_Nw.sameV {w : Cond} (hw : w.onTables = true) {u U : State} (h : U.vm = u.vm) (hZ : va_Nw w u) : va_Nw w U := va_tabs hw h.symm hZ
theorem PWx.same {u U : State} (hv : U.vm = u.vm) (h : PWx u) : PWx U := by
  have ha : u.vm.Alike U.vm := by rw [hv]; exact Vm.Alike.refl _
  exact ⟨h.1.elim fun mi q => ⟨mi, q.moved ha⟩, h.2.1.moved ha, h.2.2.1.moved ha, va_Nw.sameV rfl hv h.2.2.2.1, va_Nw.sameV rfl hv h.2.2.2.2⟩
def PWv (l : Launch) (D : va_G) (U : State) : Prop := l.stackTraces = false ∧ va_K D vwCl [] U ∧ (∀ (ci : Nat) (q : vw_C), vwCl[ci]? = some q → va_Nw (.castable q.1 "java/lang/Object") U) ∧ (∀ q ∈ jstr, ∃ a, vk_R "ColourParts" q.1 q.2 a U) ∧ PWx U
def PW (l : Launch) (B E0 : Nat) (D : va_G) (U : State) : Prop := PWv l D U ∧ B ≤ U.heap.size ∧ PWs B E0 D U U.heap
theorem PWs.moved {B E0 : Nat} {D : va_G} {u U : State} {H : Heap} (hvm : u.vm.Alike U.vm) (h : PWs B E0 D u H) : PWs B E0 D U H := ⟨h.1.moved hvm, h.2.1.moved hvm, h.2.2.moved hvm⟩
theorem PWs.kept {B E0 : Nat} {D : va_G} {U : State} {H H1 : Heap} (h : PWs B E0 D U H) (hq : ∀ a : Nat, a < H.size → ¬ B ≤ a → H1[a]? = H[a]?) : PWs B E0 D U H1 := ⟨h.1.kept hq, h.2.1.kept hq, h.2.2.kept hq⟩
theorem PWv.warm {l : Launch} {D : va_G} {u U : State} (hW : u.WarmedH U.vm) (h : PWv l D u) : PWv l D U :=
  ⟨h.1, va_K.moved hW.alike h.2.1, fun ci q e => va_Nw.warmC hW (h.2.2.1 ci q e), fun q hq => (h.2.2.2.1 q hq).elim fun a ha => ⟨a, ha.warm hW⟩, h.2.2.2.2.warm hW⟩
theorem PWv.same {l : Launch} {D : va_G} {u U : State} (hv : U.vm = u.vm) (h : PWv l D u) : PWv l D U :=
  ⟨h.1, va_K.moved (by rw [hv]; exact Vm.Alike.refl _) h.2.1, fun ci q e => va_Nw.sameV rfl hv (h.2.2.1 ci q e), fun q hq => (h.2.2.2.1 q hq).elim fun a ha => ⟨a, ha.same hv⟩, h.2.2.2.2.same hv⟩
/-- what a method's walk has at hand -/
abbrev JE (X : JC) (own : String) (cc : ByteArray) (nL : Nat) (ws : List Cond) (ret : Option FieldType) (B E0 : Nat) (D : va_G) (l : Launch) (v mc ms : Nat) : Prop :=
  (jx_p X).tables.exec = Jvm.exec ∧ (jx_c X).code = cc ∧ (jx_c X).maxLocals = nL ∧ (jx_s X).vm.findClass own = some (jx_m X).cls ∧ (∀ w ∈ ws, w.before (jx_a X) (jx_s X) = true) ∧ (jx_t X).locks = false ∧ (jx_t X).sig.returnType = ret ∧ PW l B E0 D (jx_s X) ∧ jx_R X = rmv v mc ms ∧ jx_l X = l
def J (X : JC) (B : Nat) (D : va_G) (nL : Nat) (Q : State → Prop) (h : HM) (k n pc : Nat) (L : List (Nat × Value)) (st : List Value) : Prop :=
  ∀ (H : Heap) (locs : List Loc) (ls : Array Slot), hm_R (jx_s X) B D h H → va_S (fun q => B ≤ q) (jx_s X).heap H locs → lv_has ls nL L →
    W (jx_p X) (jx_l X) (jx_e X) (jx_R X) (jx_s X) (jx_m X) (jx_a X) (jx_b X) (jx_t X) (jx_c X) H locs k n Q (F0 (jx_m X) pc ls st)
def cP (l : Launch) (B E0 : Nat) (D : va_G) (As : List Value) (h : HM) : Array Value → State → Prop := va_Pc As (fun U => PW l B E0 D U ∧ hm_R U B D h U.heap)
def cQ (B : Nat) (D : va_G) (post : Option Value → HM → Prop) : Array Value → State → Outcome → State → Prop := fun _ st o t => (∃ (r : Option Value) (h1 : HM), o = .returned r ∧ post r h1 ∧ hm_R t B D h1 t.heap) ∧ va_F (fun q => B ≤ q) st t
def cX (B : Nat) (D : va_G) (px : String → HM → Prop) : String → State → State → Prop := fun E st t => (∃ h1 : HM, px E h1 ∧ hm_R t B D h1 t.heap) ∧ va_F (fun q => B ≤ q) st t
/-- a method's contract: from the map h it returns; 'post' says what, and the map behind -/
def CM (l : Launch) (B E0 : Nat) (D : va_G) (y : MethodName) (ws : List Cond) (v mc ms : Nat) (As : List Value) (h : HM) (post : Option Value → HM → Prop) : Prop :=
  Met l y ws (rmv v mc ms) (cP l B E0 D As h) (cQ B D post) mc ms (fun q => B ≤ q)
/-- .. or throws -/
def CX (l : Launch) (B E0 : Nat) (D : va_G) (y : MethodName) (ws : List Cond) (v mc ms : Nat) (As : List Value) (h : HM) (post : Option Value → HM → Prop) (px : String → HM → Prop) : Prop :=
  vx_Met l y ws (rmv v mc ms) (cP l B E0 D As h) (cQ B D post) (cX B D px) mc ms (fun q => B ≤ q)
theorem cP_blind {l : Launch} {B E0 : Nat} {D : va_G} {As : List Value} {h : HM} : FrameBlind (cP l B E0 D As h) := by
  intro a U g mk q
  obtain ⟨h1, ⟨h2, h3, h4⟩, h5⟩ := q
  exact ⟨h1, ⟨PWv.same (u := U) (U := U.calling g mk a) rfl h2, h3, PWs.moved (u := U) (U := U.calling g mk a) (Vm.Alike.refl U.vm) h4⟩, hm_R.moved (u := U) (U := U.calling g mk a) (Vm.Alike.refl U.vm) h5⟩
def jQ (X : JC) (B : Nat) (D : va_G) (mc ms : Nat) (post : Option Value → HM → Prop) : State → Prop := MQ (jx_b X) (cQ B D post) (jx_a X) (jx_s X) mc ms (fun q => B ≤ q)
def jX (X : JC) (B : Nat) (D : va_G) (mc ms : Nat) (post : Option Value → HM → Prop) (px : String → HM → Prop) : State → Prop := vx_MQ (jx_b X) (cQ B D post) (cX B D px) (jx_a X) (jx_s X) mc ms (fun q => B ≤ q)
theorem CM.of {l : Launch} {B E0 : Nat} {D : va_G} {y : MethodName} {ws ws' : List Cond} {cc : ByteArray} {maxL : Nat} {ret : Option FieldType} {v mc ms : Nat} {As : List Value} {h : HM} {post : Option Value → HM → Prop} (hy : plainName y.cls = true) (hw : ws = Cond.code y cc maxL ret :: ws') (hn : (lg_sl As).length ≤ maxL)
    (body : ∀ X : JC, JE X y.cls cc maxL ws ret B E0 D l v mc ms → (jx_t X).name = y.name → J X B D maxL (jQ X B D mc ms post) h 0 0 0 (lv_args 0 As) []) : CM l B E0 D y ws v mc ms As h post := by
  refine Met.ofW (cc := cc) (maxL := maxL) (ret := ret) hy hw ?_
  intro p e s m args below meth c s₁ Bd hml hv
  obtain ⟨rfl, hPW, hR⟩ := hv
  have hl := lv_entry As (n := maxL) hn
  have key := body (p, l, e, rmv v mc ms, s, m, As.toArray, below, meth, c) ⟨Bd.exec, Bd.bytes, hml, findClass_of_methodNamed Bd.named, atoms_spec (ws := ws) Bd.pre, Bd.notSynchronized, Bd.returns, hPW, rfl, rfl⟩ (name_of_methodNamed Bd.named Bd.method).1
  have k2 := key s.heap [] _ hR va_S.rf hl
  rw [lg_entry_eq]
  exact k2
theorem CX.of {l : Launch} {B E0 : Nat} {D : va_G} {y : MethodName} {ws ws' : List Cond} {cc : ByteArray} {maxL : Nat} {ret : Option FieldType} {v mc ms : Nat} {As : List Value} {h : HM} {post : Option Value → HM → Prop} {px : String → HM → Prop} (hy : plainName y.cls = true) (hw : ws = Cond.code y cc maxL ret :: ws') (hn : (lg_sl As).length ≤ maxL)
    (body : ∀ X : JC, JE X y.cls cc maxL ws ret B E0 D l v mc ms → (∀ x ∈ (jx_c X).exceptionTable.toList, False) → J X B D maxL (jX X B D mc ms post px) h 0 0 0 (lv_args 0 As) []) : CX l B E0 D y ws v mc ms As h post px := by
  refine vx_ofW (cc := cc) (maxL := maxL) (ret := ret) hy hw ?_
  intro p e s m args below meth c s₁ Bd hml htab hv
  obtain ⟨rfl, hPW, hR⟩ := hv
  have hl := lv_entry As (n := maxL) hn
  have key := body (p, l, e, rmv v mc ms, s, m, As.toArray, below, meth, c) ⟨Bd.exec, Bd.bytes, hml, findClass_of_methodNamed Bd.named, atoms_spec (ws := ws) Bd.pre, Bd.notSynchronized, Bd.returns, hPW, rfl, rfl⟩ htab
  have k2 := key s.heap [] _ hR va_S.rf hl
  rw [lg_entry_eq]
  exact k2
section JR
variable {X : JC} {own : String} {cc : ByteArray} {nL : Nat} {ws : List Cond} {ret : Option FieldType} {B E0 : Nat} {D : va_G} {l : Launch} {v mc ms : Nat} {Q : State → Prop} {h : HM} {k n pc : Nat} {L : List (Nat × Value)} {st : List Value}
theorem J.sub (L' : List (Nat × Value)) (hs : jl_sub L' L) (kk : J X B D nL Q h k n pc L' st) : J X B D nL Q h k n pc L st := fun H locs ls hR hS hl => kk H locs ls hR hS ⟨hl.1, hl.2.1, fun q hq => hl.2.2 q (jl_sub_ok hs q hq)⟩
theorem J.wide {k' n' : Nat} (hk : k ≤ k') (hn : n ≤ n') (kk : J X B D nL Q h k' n' pc L st) : J X B D nL Q h k n pc L st := fun H locs ls hR hS hl => W.widen hk hn (kk H locs ls hR hS hl)
theorem J.stk {st' : List Value} (e : st = st') (kk : J X B D nL Q h k n pc L st') : J X B D nL Q h k n pc L st := e ▸ kk
theorem J.top {x x' : Value} (e : x = x') (kk : J X B D nL Q h k n pc L (x' :: st)) : J X B D nL Q h k n pc L (x :: st) := e ▸ kk
theorem J.topi {x x' : Int32} (e : x = x') (kk : J X B D nL Q h k n pc L (.int x' :: st)) : J X B D nL Q h k n pc L (.int x :: st) := e ▸ kk
theorem J.topl {x x' : Int64} (e : x = x') (kk : J X B D nL Q h k n pc L (.long x' :: st)) : J X B D nL Q h k n pc L (.long x :: st) := e ▸ kk
theorem J.hp {h' : HM} (e : h = h') (kk : J X B D nL Q h' k n pc L st) : J X B D nL Q h k n pc L st := e ▸ kk

theorem j_iconst (E : JE X own cc nL ws ret B E0 D l v mc ms) {i : Int} {x : Int32} (d : decode cc pc = .ok (.iconst i, 1)) (hv : Int32.ofInt i = x) (kk : J X B D nL Q h k n (pc + 1) L (.int x :: st)) : J X B D nL Q h k n pc L st := fun H locs ls hR hS hl => lv_iconst E.1 E.2.1 d hv (kk H locs ls hR hS hl)
theorem j_bipush (E : JE X own cc nL ws ret B E0 D l v mc ms) {i : Int} {x : Int32} (d : decode cc pc = .ok (.bipush i, 2)) (hv : (Int8.ofInt i).toInt32 = x) (kk : J X B D nL Q h k n (pc + 2) L (.int x :: st)) : J X B D nL Q h k n pc L st := fun H locs ls hR hS hl => lv_bipush E.1 E.2.1 d hv (kk H locs ls hR hS hl)
theorem j_sipush (E : JE X own cc nL ws ret B E0 D l v mc ms) {i : Int} {x : Int32} (d : decode cc pc = .ok (.sipush i, 3)) (hv : (Int16.ofInt i).toInt32 = x) (kk : J X B D nL Q h k n (pc + 3) L (.int x :: st)) : J X B D nL Q h k n pc L st := fun H locs ls hR hS hl => lv_sipush E.1 E.2.1 d hv (kk H locs ls hR hS hl)
theorem j_lconst (E : JE X own cc nL ws ret B E0 D l v mc ms) {i : Fin 2} {x : Int64} (d : decode cc pc = .ok (.lconst i, 1)) (hv : Int64.ofNat (i : Nat) = x) (kk : J X B D nL Q h k n (pc + 1) L (.long x :: st)) : J X B D nL Q h k n pc L st := fun H locs ls hR hS hl => lv_lconst E.1 E.2.1 d hv (kk H locs ls hR hS hl)
theorem j_null (E : JE X own cc nL ws ret B E0 D l v mc ms)  (d : decode cc pc = .ok (.aconst_null, 1))  (kk : J X B D nL Q h k n (pc + 1) L (.null :: st)) : J X B D nL Q h k n pc L st := fun H locs ls hR hS hl => lv_null E.1 E.2.1 d (kk H locs ls hR hS hl)
theorem j_ldc (E : JE X own cc nL ws ret B E0 D l v mc ms) {i : Nat} {x : Int32} (d : decode cc pc = .ok (.ldc i, 2)) (hc : (Jvm.Cond.constant own i x) ∈ ws) (kk : J X B D nL Q h k n (pc + 2) L (.int x :: st)) : J X B D nL Q h k n pc L st := fun H locs ls hR hS hl => lv_ldc E.1 E.2.1 E.2.2.2.1 (E.2.2.2.2.1 _ hc) d (kk H locs ls hR hS hl)
theorem j_ldcw (E : JE X own cc nL ws ret B E0 D l v mc ms) {i : Nat} {x : Int32} (d : decode cc pc = .ok (.ldc_w i, 3)) (hc : (Jvm.Cond.constant own i x) ∈ ws) (kk : J X B D nL Q h k n (pc + 3) L (.int x :: st)) : J X B D nL Q h k n pc L st := fun H locs ls hR hS hl => lv_ldcw E.1 E.2.1 E.2.2.2.1 (E.2.2.2.2.1 _ hc) d (kk H locs ls hR hS hl)
theorem j_ldc2 (E : JE X own cc nL ws ret B E0 D l v mc ms) {i : Nat} {x : Int64} (d : decode cc pc = .ok (.ldc2_w i, 3)) (hc : (Jvm.Cond.constantLong own i x) ∈ ws) (kk : J X B D nL Q h k n (pc + 3) L (.long x :: st)) : J X B D nL Q h k n pc L st := fun H locs ls hR hS hl => lv_ldc2 E.1 E.2.1 E.2.2.2.1 (E.2.2.2.2.1 _ hc) d (kk H locs ls hR hS hl)
theorem j_iload_n (E : JE X own cc nL ws ret B E0 D l v mc ms) {q : Fin 4} {x : Int32} (d : decode cc pc = .ok (.iload_n q, 1)) (hx : jl_get L q = some (.int x)) (kk : J X B D nL Q h k n (pc + 1) L (.int x :: st)) : J X B D nL Q h k n pc L st := fun H locs ls hR hS hl => lv_iload_n E.1 E.2.1 d rfl (jl_at hl hx) (kk H locs ls hR hS hl)
theorem j_iload (E : JE X own cc nL ws ret B E0 D l v mc ms) {q : Nat} {x : Int32} (d : decode cc pc = .ok (.iload q, 2)) (hx : jl_get L q = some (.int x)) (kk : J X B D nL Q h k n (pc + 2) L (.int x :: st)) : J X B D nL Q h k n pc L st := fun H locs ls hR hS hl => lv_iload E.1 E.2.1 d (jl_at hl hx) (kk H locs ls hR hS hl)
theorem j_lload_n (E : JE X own cc nL ws ret B E0 D l v mc ms) {q : Fin 4} {x : Int64} (d : decode cc pc = .ok (.lload_n q, 1)) (hx : jl_get L q = some (.long x)) (kk : J X B D nL Q h k n (pc + 1) L (.long x :: st)) : J X B D nL Q h k n pc L st := fun H locs ls hR hS hl => lv_lload_n E.1 E.2.1 d rfl (jl_at hl hx) (kk H locs ls hR hS hl)
theorem j_lload (E : JE X own cc nL ws ret B E0 D l v mc ms) {q : Nat} {x : Int64} (d : decode cc pc = .ok (.lload q, 2)) (hx : jl_get L q = some (.long x)) (kk : J X B D nL Q h k n (pc + 2) L (.long x :: st)) : J X B D nL Q h k n pc L st := fun H locs ls hR hS hl => lv_lload E.1 E.2.1 d (jl_at hl hx) (kk H locs ls hR hS hl)
theorem j_aload_n (E : JE X own cc nL ws ret B E0 D l v mc ms) {q : Fin 4} {x : Nat} (d : decode cc pc = .ok (.aload_n q, 1)) (hx : jl_get L q = some (.ref x)) (kk : J X B D nL Q h k n (pc + 1) L (.ref x :: st)) : J X B D nL Q h k n pc L st := fun H locs ls hR hS hl => lv_aload_n E.1 E.2.1 d rfl (jl_at hl hx) (kk H locs ls hR hS hl)
theorem j_aload (E : JE X own cc nL ws ret B E0 D l v mc ms) {q : Nat} {x : Nat} (d : decode cc pc = .ok (.aload q, 2)) (hx : jl_get L q = some (.ref x)) (kk : J X B D nL Q h k n (pc + 2) L (.ref x :: st)) : J X B D nL Q h k n pc L st := fun H locs ls hR hS hl => lv_aload E.1 E.2.1 d (jl_at hl hx) (kk H locs ls hR hS hl)
theorem j_istore_n (E : JE X own cc nL ws ret B E0 D l v mc ms) {q : Fin 4} {x : Int32} (d : decode cc pc = .ok (.istore_n q, 1)) (hn : (q : Nat) < nL) (kk : J X B D nL Q h k n (pc + 1) (jl_set q (.int x) L) st) : J X B D nL Q h k n pc L (.int x :: st) := fun H locs ls hR hS hl => lv_istore_n E.1 E.2.1 d rfl hl hn rfl (fun ls hl => kk H locs ls hR hS hl)
theorem j_istore (E : JE X own cc nL ws ret B E0 D l v mc ms) {q : Nat} {x : Int32} (d : decode cc pc = .ok (.istore q, 2)) (hn : (q : Nat) < nL) (kk : J X B D nL Q h k n (pc + 2) (jl_set q (.int x) L) st) : J X B D nL Q h k n pc L (.int x :: st) := fun H locs ls hR hS hl => lv_istore E.1 E.2.1 d hl hn rfl (fun ls hl => kk H locs ls hR hS hl)
theorem j_lstore_n (E : JE X own cc nL ws ret B E0 D l v mc ms) {q : Fin 4} {x : Int64} (d : decode cc pc = .ok (.lstore_n q, 1)) (hn : (q : Nat) + 1 < nL) (kk : J X B D nL Q h k n (pc + 1) (jl_set2 q (.long x) L) st) : J X B D nL Q h k n pc L (.long x :: st) := fun H locs ls hR hS hl => lv_lstore_n E.1 E.2.1 d rfl hl hn rfl (fun ls hl => kk H locs ls hR hS hl)
theorem j_lstore (E : JE X own cc nL ws ret B E0 D l v mc ms) {q : Nat} {x : Int64} (d : decode cc pc = .ok (.lstore q, 2)) (hn : (q : Nat) + 1 < nL) (kk : J X B D nL Q h k n (pc + 2) (jl_set2 q (.long x) L) st) : J X B D nL Q h k n pc L (.long x :: st) := fun H locs ls hR hS hl => lv_lstore E.1 E.2.1 d hl hn rfl (fun ls hl => kk H locs ls hR hS hl)
theorem j_astore_n (E : JE X own cc nL ws ret B E0 D l v mc ms) {q : Fin 4} {x : Nat} (d : decode cc pc = .ok (.astore_n q, 1)) (hn : (q : Nat) < nL) (kk : J X B D nL Q h k n (pc + 1) (jl_set q (.ref x) L) st) : J X B D nL Q h k n pc L (.ref x :: st) := fun H locs ls hR hS hl => lv_astore_n E.1 E.2.1 d rfl hl hn rfl (fun ls hl => kk H locs ls hR hS hl)
theorem j_astore (E : JE X own cc nL ws ret B E0 D l v mc ms) {q : Nat} {x : Nat} (d : decode cc pc = .ok (.astore q, 2)) (hn : (q : Nat) < nL) (kk : J X B D nL Q h k n (pc + 2) (jl_set q (.ref x) L) st) : J X B D nL Q h k n pc L (.ref x :: st) := fun H locs ls hR hS hl => lv_astore E.1 E.2.1 d hl hn rfl (fun ls hl => kk H locs ls hR hS hl)
theorem j_iinc (E : JE X own cc nL ws ret B E0 D l v mc ms) {q : Nat} {i : Int} {x y : Int32} (d : decode cc pc = .ok (.iinc q i, 3)) (hx : jl_get L q = some (.int x)) (hy : x + Int32.ofInt i = y) (hn : q < nL) (kk : J X B D nL Q h k n (pc + 3) (jl_set q (.int y) L) st) : J X B D nL Q h k n pc L st := by
  intro H locs ls hR hS hl
  obtain ⟨i0, hi0⟩ := List.getElem?_of_mem (jl_mem hx)
  exact lv_iinc E.1 E.2.1 d hl hi0 hy hn rfl (fun ls hl => kk H locs ls hR hS hl)
theorem j_dup (E : JE X own cc nL ws ret B E0 D l v mc ms) {x : Value} (d : decode cc pc = .ok (.dup, 1)) (hx : x.category = 1) (kk : J X B D nL Q h k n (pc + 1) L (x :: x :: st)) : J X B D nL Q h k n pc L (x :: st) := fun H locs ls hR hS hl => lv_dup E.1 E.2.1 d hx (kk H locs ls hR hS hl)
theorem j_pop (E : JE X own cc nL ws ret B E0 D l v mc ms) {x : Value} (d : decode cc pc = .ok (.pop, 1)) (hx : x.category = 1) (kk : J X B D nL Q h k n (pc + 1) L st) : J X B D nL Q h k n pc L (x :: st) := fun H locs ls hR hS hl => lv_pop E.1 E.2.1 d hx (kk H locs ls hR hS hl)
theorem j_dup_x1 (E : JE X own cc nL ws ret B E0 D l v mc ms) {x y : Value} (d : decode cc pc = .ok (.dup_x1, 1)) (hx : x.category = 1) (hy : y.category = 1) (kk : J X B D nL Q h k n (pc + 1) L (x :: y :: x :: st)) : J X B D nL Q h k n pc L (x :: y :: st) := fun H locs ls hR hS hl => lv_dup_x1 E.1 E.2.1 d hx hy (kk H locs ls hR hS hl)
theorem j_dup2 (E : JE X own cc nL ws ret B E0 D l v mc ms) {x y : Value} (d : decode cc pc = .ok (.dup2, 1)) (hx : x.category = 1) (hy : y.category = 1) (kk : J X B D nL Q h k n (pc + 1) L (x :: y :: x :: y :: st)) : J X B D nL Q h k n pc L (x :: y :: st) := fun H locs ls hR hS hl => lv_dup2_11 E.1 E.2.1 d hx hy (kk H locs ls hR hS hl)
theorem j_iadd (E : JE X own cc nL ws ret B E0 D l v mc ms) {x y : Int32} (d : decode cc pc = .ok (.iadd, 1))  (kk : J X B D nL Q h k n (pc + 1) L (.int (x + y) :: st)) : J X B D nL Q h k n pc L (.int y :: .int x :: st) := fun H locs ls hR hS hl => lv_iadd E.1 E.2.1 d (kk H locs ls hR hS hl)
theorem j_isub (E : JE X own cc nL ws ret B E0 D l v mc ms) {x y : Int32} (d : decode cc pc = .ok (.isub, 1))  (kk : J X B D nL Q h k n (pc + 1) L (.int (x - y) :: st)) : J X B D nL Q h k n pc L (.int y :: .int x :: st) := fun H locs ls hR hS hl => lv_isub E.1 E.2.1 d (kk H locs ls hR hS hl)
theorem j_imul (E : JE X own cc nL ws ret B E0 D l v mc ms) {x y : Int32} (d : decode cc pc = .ok (.imul, 1))  (kk : J X B D nL Q h k n (pc + 1) L (.int (x * y) :: st)) : J X B D nL Q h k n pc L (.int y :: .int x :: st) := fun H locs ls hR hS hl => lv_imul E.1 E.2.1 d (kk H locs ls hR hS hl)
theorem j_iand (E : JE X own cc nL ws ret B E0 D l v mc ms) {x y : Int32} (d : decode cc pc = .ok (.iand, 1))  (kk : J X B D nL Q h k n (pc + 1) L (.int (x &&& y) :: st)) : J X B D nL Q h k n pc L (.int y :: .int x :: st) := fun H locs ls hR hS hl => lv_iand E.1 E.2.1 d (kk H locs ls hR hS hl)
theorem j_ior (E : JE X own cc nL ws ret B E0 D l v mc ms) {x y : Int32} (d : decode cc pc = .ok (.ior, 1))  (kk : J X B D nL Q h k n (pc + 1) L (.int (x ||| y) :: st)) : J X B D nL Q h k n pc L (.int y :: .int x :: st) := fun H locs ls hR hS hl => lv_ior E.1 E.2.1 d (kk H locs ls hR hS hl)
theorem j_ixor (E : JE X own cc nL ws ret B E0 D l v mc ms) {x y : Int32} (d : decode cc pc = .ok (.ixor, 1))  (kk : J X B D nL Q h k n (pc + 1) L (.int (x ^^^ y) :: st)) : J X B D nL Q h k n pc L (.int y :: .int x :: st) := fun H locs ls hR hS hl => lv_ixor E.1 E.2.1 d (kk H locs ls hR hS hl)
theorem j_ishl (E : JE X own cc nL ws ret B E0 D l v mc ms) {x y : Int32} (d : decode cc pc = .ok (.ishl, 1))  (kk : J X B D nL Q h k n (pc + 1) L (.int (x <<< (y &&& 31)) :: st)) : J X B D nL Q h k n pc L (.int y :: .int x :: st) := fun H locs ls hR hS hl => lv_ishl E.1 E.2.1 d (kk H locs ls hR hS hl)
theorem j_ishr (E : JE X own cc nL ws ret B E0 D l v mc ms) {x y : Int32} (d : decode cc pc = .ok (.ishr, 1))  (kk : J X B D nL Q h k n (pc + 1) L (.int (x >>> (y &&& 31)) :: st)) : J X B D nL Q h k n pc L (.int y :: .int x :: st) := fun H locs ls hR hS hl => lv_ishr E.1 E.2.1 d (kk H locs ls hR hS hl)
theorem j_iushr (E : JE X own cc nL ws ret B E0 D l v mc ms) {x y z : Int32} (d : decode cc pc = .ok (.iushr, 1)) (hv : (x.toUInt32 >>> (y.toUInt32 &&& Int32.toUInt32 31)).toInt32 = z) (kk : J X B D nL Q h k n (pc + 1) L (.int z :: st)) : J X B D nL Q h k n pc L (.int y :: .int x :: st) := fun H locs ls hR hS hl => lv_iushr E.1 E.2.1 d hv (kk H locs ls hR hS hl)
theorem j_idiv (E : JE X own cc nL ws ret B E0 D l v mc ms) {x y : Int32} (d : decode cc pc = .ok (.idiv, 1)) (hne : ¬ y = 0) (kk : J X B D nL Q h k n (pc + 1) L (.int (x / y) :: st)) : J X B D nL Q h k n pc L (.int y :: .int x :: st) := fun H locs ls hR hS hl => lv_idiv E.1 E.2.1 d hne (kk H locs ls hR hS hl)
theorem j_irem (E : JE X own cc nL ws ret B E0 D l v mc ms) {x y : Int32} (d : decode cc pc = .ok (.irem, 1)) (hne : ¬ y = 0) (kk : J X B D nL Q h k n (pc + 1) L (.int (x - x / y * y) :: st)) : J X B D nL Q h k n pc L (.int y :: .int x :: st) := fun H locs ls hR hS hl => lv_irem E.1 E.2.1 d hne (kk H locs ls hR hS hl)
theorem j_ladd (E : JE X own cc nL ws ret B E0 D l v mc ms) {x y : Int64} (d : decode cc pc = .ok (.ladd, 1))  (kk : J X B D nL Q h k n (pc + 1) L (.long (x + y) :: st)) : J X B D nL Q h k n pc L (.long y :: .long x :: st) := fun H locs ls hR hS hl => lv_ladd E.1 E.2.1 d (kk H locs ls hR hS hl)
theorem j_lsub (E : JE X own cc nL ws ret B E0 D l v mc ms) {x y : Int64} (d : decode cc pc = .ok (.lsub, 1))  (kk : J X B D nL Q h k n (pc + 1) L (.long (x - y) :: st)) : J X B D nL Q h k n pc L (.long y :: .long x :: st) := fun H locs ls hR hS hl => lv_lsub E.1 E.2.1 d (kk H locs ls hR hS hl)
theorem j_lmul (E : JE X own cc nL ws ret B E0 D l v mc ms) {x y : Int64} (d : decode cc pc = .ok (.lmul, 1))  (kk : J X B D nL Q h k n (pc + 1) L (.long (x * y) :: st)) : J X B D nL Q h k n pc L (.long y :: .long x :: st) := fun H locs ls hR hS hl => lv_lmul E.1 E.2.1 d (kk H locs ls hR hS hl)
theorem j_land (E : JE X own cc nL ws ret B E0 D l v mc ms) {x y : Int64} (d : decode cc pc = .ok (.land, 1))  (kk : J X B D nL Q h k n (pc + 1) L (.long (x &&& y) :: st)) : J X B D nL Q h k n pc L (.long y :: .long x :: st) := fun H locs ls hR hS hl => lv_land E.1 E.2.1 d (kk H locs ls hR hS hl)
theorem j_lor (E : JE X own cc nL ws ret B E0 D l v mc ms) {x y : Int64} (d : decode cc pc = .ok (.lor, 1))  (kk : J X B D nL Q h k n (pc + 1) L (.long (x ||| y) :: st)) : J X B D nL Q h k n pc L (.long y :: .long x :: st) := fun H locs ls hR hS hl => lv_lor E.1 E.2.1 d (kk H locs ls hR hS hl)
theorem j_lshl (E : JE X own cc nL ws ret B E0 D l v mc ms) {x z : Int64} {y : Int32} (d : decode cc pc = .ok (.lshl, 1)) (hv : x <<< (y.toInt64 &&& 63) = z) (kk : J X B D nL Q h k n (pc + 1) L (.long z :: st)) : J X B D nL Q h k n pc L (.int y :: .long x :: st) := fun H locs ls hR hS hl => lv_lshl E.1 E.2.1 d hv (kk H locs ls hR hS hl)
theorem j_lcmp (E : JE X own cc nL ws ret B E0 D l v mc ms) {x y : Int64} (d : decode cc pc = .ok (.lcmp, 1))  (kk : J X B D nL Q h k n (pc + 1) L (.int (lg_cmp x y) :: st)) : J X B D nL Q h k n pc L (.long y :: .long x :: st) := fun H locs ls hR hS hl => W.lcmp E.1 E.2.1 d (kk H locs ls hR hS hl)
theorem j_i2l (E : JE X own cc nL ws ret B E0 D l v mc ms) {x : Int32} (d : decode cc pc = .ok (.i2l, 1))  (kk : J X B D nL Q h k n (pc + 1) L (.long x.toInt64 :: st)) : J X B D nL Q h k n pc L (.int x :: st) := fun H locs ls hR hS hl => lv_i2l E.1 E.2.1 d rfl (kk H locs ls hR hS hl)
theorem j_goto (E : JE X own cc nL ws ret B E0 D l v mc ms) {off : Int} {tgt : Nat} (d : decode cc pc = .ok (.goto off, 3)) (ht : (pc : Int) + off = (tgt : Int)) (kk : J X B D nL Q h k n tgt L st) : J X B D nL Q h k n pc L st := fun H locs ls hR hS hl => lv_goto E.1 E.2.1 d ht (kk H locs ls hR hS hl)
theorem j_if_eq (E : JE X own cc nL ws ret B E0 D l v mc ms) {x : Int32} {off : Int} {tgt : Nat} (d : decode cc pc = .ok (.ifCond .eq off, 3)) (ht : (pc : Int) + off = (tgt : Int)) (kt : x = 0 → J X B D nL Q h k n tgt L st) (kf : ¬ x = 0 → J X B D nL Q h k n (pc + 3) L st) : J X B D nL Q h k n pc L (.int x :: st) := fun H locs ls hR hS hl => lv_if_eq E.1 E.2.1 d ht (fun c => kt c H locs ls hR hS hl) (fun c => kf c H locs ls hR hS hl)
theorem j_if_ne (E : JE X own cc nL ws ret B E0 D l v mc ms) {x : Int32} {off : Int} {tgt : Nat} (d : decode cc pc = .ok (.ifCond .ne off, 3)) (ht : (pc : Int) + off = (tgt : Int)) (kt : ¬ x = 0 → J X B D nL Q h k n tgt L st) (kf : x = 0 → J X B D nL Q h k n (pc + 3) L st) : J X B D nL Q h k n pc L (.int x :: st) := fun H locs ls hR hS hl => lv_if_ne E.1 E.2.1 d ht (fun c => kt c H locs ls hR hS hl) (fun c => kf c H locs ls hR hS hl)
theorem j_if_lt (E : JE X own cc nL ws ret B E0 D l v mc ms) {x : Int32} {off : Int} {tgt : Nat} (d : decode cc pc = .ok (.ifCond .lt off, 3)) (ht : (pc : Int) + off = (tgt : Int)) (kt : x < 0 → J X B D nL Q h k n tgt L st) (kf : ¬ x < 0 → J X B D nL Q h k n (pc + 3) L st) : J X B D nL Q h k n pc L (.int x :: st) := fun H locs ls hR hS hl => lv_if_lt E.1 E.2.1 d ht (fun c => kt c H locs ls hR hS hl) (fun c => kf c H locs ls hR hS hl)
theorem j_if_ge (E : JE X own cc nL ws ret B E0 D l v mc ms) {x : Int32} {off : Int} {tgt : Nat} (d : decode cc pc = .ok (.ifCond .ge off, 3)) (ht : (pc : Int) + off = (tgt : Int)) (kt : 0 ≤ x → J X B D nL Q h k n tgt L st) (kf : ¬ 0 ≤ x → J X B D nL Q h k n (pc + 3) L st) : J X B D nL Q h k n pc L (.int x :: st) := fun H locs ls hR hS hl => lv_if_ge E.1 E.2.1 d ht (fun c => kt c H locs ls hR hS hl) (fun c => kf c H locs ls hR hS hl)
theorem j_if_gt (E : JE X own cc nL ws ret B E0 D l v mc ms) {x : Int32} {off : Int} {tgt : Nat} (d : decode cc pc = .ok (.ifCond .gt off, 3)) (ht : (pc : Int) + off = (tgt : Int)) (kt : 0 < x → J X B D nL Q h k n tgt L st) (kf : ¬ 0 < x → J X B D nL Q h k n (pc + 3) L st) : J X B D nL Q h k n pc L (.int x :: st) := fun H locs ls hR hS hl => lv_if_gt E.1 E.2.1 d ht (fun c => kt c H locs ls hR hS hl) (fun c => kf c H locs ls hR hS hl)
theorem j_if_le (E : JE X own cc nL ws ret B E0 D l v mc ms) {x : Int32} {off : Int} {tgt : Nat} (d : decode cc pc = .ok (.ifCond .le off, 3)) (ht : (pc : Int) + off = (tgt : Int)) (kt : x ≤ 0 → J X B D nL Q h k n tgt L st) (kf : ¬ x ≤ 0 → J X B D nL Q h k n (pc + 3) L st) : J X B D nL Q h k n pc L (.int x :: st) := fun H locs ls hR hS hl => lv_if_le E.1 E.2.1 d ht (fun c => kt c H locs ls hR hS hl) (fun c => kf c H locs ls hR hS hl)
theorem j_icmp_eq (E : JE X own cc nL ws ret B E0 D l v mc ms) {x y : Int32} {off : Int} {tgt : Nat} (d : decode cc pc = .ok (.if_icmp .eq off, 3)) (ht : (pc : Int) + off = (tgt : Int)) (kt : x = y → J X B D nL Q h k n tgt L st) (kf : ¬ x = y → J X B D nL Q h k n (pc + 3) L st) : J X B D nL Q h k n pc L (.int y :: .int x :: st) := fun H locs ls hR hS hl => lv_icmp_eq E.1 E.2.1 d ht (fun c => kt c H locs ls hR hS hl) (fun c => kf c H locs ls hR hS hl)
theorem j_icmp_ne (E : JE X own cc nL ws ret B E0 D l v mc ms) {x y : Int32} {off : Int} {tgt : Nat} (d : decode cc pc = .ok (.if_icmp .ne off, 3)) (ht : (pc : Int) + off = (tgt : Int)) (kt : ¬ x = y → J X B D nL Q h k n tgt L st) (kf : x = y → J X B D nL Q h k n (pc + 3) L st) : J X B D nL Q h k n pc L (.int y :: .int x :: st) := fun H locs ls hR hS hl => lv_icmp_ne E.1 E.2.1 d ht (fun c => kt c H locs ls hR hS hl) (fun c => kf c H locs ls hR hS hl)
theorem j_icmp_lt (E : JE X own cc nL ws ret B E0 D l v mc ms) {x y : Int32} {off : Int} {tgt : Nat} (d : decode cc pc = .ok (.if_icmp .lt off, 3)) (ht : (pc : Int) + off = (tgt : Int)) (kt : x < y → J X B D nL Q h k n tgt L st) (kf : ¬ x < y → J X B D nL Q h k n (pc + 3) L st) : J X B D nL Q h k n pc L (.int y :: .int x :: st) := fun H locs ls hR hS hl => lv_icmp_lt E.1 E.2.1 d ht (fun c => kt c H locs ls hR hS hl) (fun c => kf c H locs ls hR hS hl)
theorem j_icmp_ge (E : JE X own cc nL ws ret B E0 D l v mc ms) {x y : Int32} {off : Int} {tgt : Nat} (d : decode cc pc = .ok (.if_icmp .ge off, 3)) (ht : (pc : Int) + off = (tgt : Int)) (kt : y ≤ x → J X B D nL Q h k n tgt L st) (kf : ¬ y ≤ x → J X B D nL Q h k n (pc + 3) L st) : J X B D nL Q h k n pc L (.int y :: .int x :: st) := fun H locs ls hR hS hl => lv_icmp_ge E.1 E.2.1 d ht (fun c => kt c H locs ls hR hS hl) (fun c => kf c H locs ls hR hS hl)
theorem j_icmp_gt (E : JE X own cc nL ws ret B E0 D l v mc ms) {x y : Int32} {off : Int} {tgt : Nat} (d : decode cc pc = .ok (.if_icmp .gt off, 3)) (ht : (pc : Int) + off = (tgt : Int)) (kt : y < x → J X B D nL Q h k n tgt L st) (kf : ¬ y < x → J X B D nL Q h k n (pc + 3) L st) : J X B D nL Q h k n pc L (.int y :: .int x :: st) := fun H locs ls hR hS hl => lv_icmp_gt E.1 E.2.1 d ht (fun c => kt c H locs ls hR hS hl) (fun c => kf c H locs ls hR hS hl)
theorem j_icmp_le (E : JE X own cc nL ws ret B E0 D l v mc ms) {x y : Int32} {off : Int} {tgt : Nat} (d : decode cc pc = .ok (.if_icmp .le off, 3)) (ht : (pc : Int) + off = (tgt : Int)) (kt : x ≤ y → J X B D nL Q h k n tgt L st) (kf : ¬ x ≤ y → J X B D nL Q h k n (pc + 3) L st) : J X B D nL Q h k n pc L (.int y :: .int x :: st) := fun H locs ls hR hS hl => lv_icmp_le E.1 E.2.1 d ht (fun c => kt c H locs ls hR hS hl) (fun c => kf c H locs ls hR hS hl)
theorem j_ifnonnull (E : JE X own cc nL ws ret B E0 D l v mc ms) {x : Nat} {off : Int} {tgt : Nat} (d : decode cc pc = .ok (.ifnonnull off, 3)) (ht : (pc : Int) + off = (tgt : Int)) (kk : J X B D nL Q h k n tgt L st) : J X B D nL Q h k n pc L (.ref x :: st) := fun H locs ls hR hS hl => lv_ifnonnull E.1 E.2.1 d ht (kk H locs ls hR hS hl)
theorem j_ifnull (E : JE X own cc nL ws ret B E0 D l v mc ms) {x : Nat} {off : Int} (d : decode cc pc = .ok (.ifnull off, 3)) (kk : J X B D nL Q h k n (pc + 3) L st) : J X B D nL Q h k n pc L (.ref x :: st) := fun H locs ls hR hS hl => lv_ifnull E.1 E.2.1 d (kk H locs ls hR hS hl)
theorem j_ifnonnullN (E : JE X own cc nL ws ret B E0 D l v mc ms) {off : Int} (d : decode cc pc = .ok (.ifnonnull off, 3)) (kk : J X B D nL Q h k n (pc + 3) L st) : J X B D nL Q h k n pc L (.null :: st) := fun H locs ls hR hS hl => lv_ifnonnullN E.1 E.2.1 d (kk H locs ls hR hS hl)
theorem j_ifnullN (E : JE X own cc nL ws ret B E0 D l v mc ms) {off : Int} {tgt : Nat} (d : decode cc pc = .ok (.ifnull off, 3)) (ht : (pc : Int) + off = (tgt : Int)) (kk : J X B D nL Q h k n tgt L st) : J X B D nL Q h k n pc L (.null :: st) := fun H locs ls hR hS hl => lv_ifnullN E.1 E.2.1 d ht (kk H locs ls hR hS hl)
theorem j_acmp_ne (E : JE X own cc nL ws ret B E0 D l v mc ms) {x y : Nat} {off : Int} {tgt : Nat} (d : decode cc pc = .ok (.if_acmp .ne off, 3)) (ht : (pc : Int) + off = (tgt : Int)) (kt : ¬ x = y → J X B D nL Q h k n tgt L st) (kf : x = y → J X B D nL Q h k n (pc + 3) L st) : J X B D nL Q h k n pc L (.ref y :: .ref x :: st) := fun H locs ls hR hS hl => lv_acmp_ne (rx := some x) (ry := some y) E.1 E.2.1 d ht (fun c => kt (fun e => c (congrArg some e)) H locs ls hR hS hl) (fun c => kf (Option.some.inj c) H locs ls hR hS hl)
theorem j_acmp_eq (E : JE X own cc nL ws ret B E0 D l v mc ms) {x y : Nat} {off : Int} {tgt : Nat} (d : decode cc pc = .ok (.if_acmp .eq off, 3)) (ht : (pc : Int) + off = (tgt : Int)) (kt : x = y → J X B D nL Q h k n tgt L st) (kf : ¬ x = y → J X B D nL Q h k n (pc + 3) L st) : J X B D nL Q h k n pc L (.ref y :: .ref x :: st) := fun H locs ls hR hS hl => lv_acmp_eq (rx := some x) (ry := some y) E.1 E.2.1 d ht (fun c => kt (Option.some.inj c) H locs ls hR hS hl) (fun c => kf (fun e => c (congrArg some e)) H locs ls hR hS hl)
theorem j_table (E : JE X own cc nL ws ret B E0 D l v mc ms) {dflt lo hi : Int} {offs : Array Int} {len : Nat} {x : Int32} {off : Int} {tgt : Nat} (d : decode cc pc = .ok (.tableswitch dflt lo hi offs, len)) (h1 : ¬ x.toInt < lo) (h2 : ¬ hi < x.toInt) (ho : offs[(x.toInt - lo).toNat]? = some off) (ht : (pc : Int) + off = (tgt : Int)) (kk : J X B D nL Q h k n tgt L st) : J X B D nL Q h k n pc L (.int x :: st) := fun H locs ls hR hS hl => lv_tableIn E.1 E.2.1 d h1 h2 ho ht (kk H locs ls hR hS hl)
theorem j_tableD (E : JE X own cc nL ws ret B E0 D l v mc ms) {dflt lo hi : Int} {offs : Array Int} {len : Nat} {x : Int32} {tgt : Nat} (d : decode cc pc = .ok (.tableswitch dflt lo hi offs, len)) (h1 : x.toInt < lo ∨ hi < x.toInt) (ht : (pc : Int) + dflt = (tgt : Int)) (kk : J X B D nL Q h k n tgt L st) : J X B D nL Q h k n pc L (.int x :: st) := fun H locs ls hR hS hl => lv_tableOut E.1 E.2.1 d h1 ht (kk H locs ls hR hS hl)
theorem jx_at {E : JE X own cc nL ws ret B E0 D l v mc ms} {U : State} : True := trivial
theorem je_K (E : JE X own cc nL ws ret B E0 D l v mc ms) : va_K D vwCl [] (jx_s X) := E.2.2.2.2.2.2.2.1.1.2.1
theorem je_B (E : JE X own cc nL ws ret B E0 D l v mc ms) : B ≤ (jx_s X).heap.size := E.2.2.2.2.2.2.2.1.2.1
theorem je_R (E : JE X own cc nL ws ret B E0 D l v mc ms) : jx_R X = rmv v mc ms := E.2.2.2.2.2.2.2.2.1
theorem je_K1 (E : JE X own cc nL ws ret B E0 D l v mc ms) {cA : ClassId} {ty : FieldType} (h1 : ArrOfT (jx_s X) cA ty) (h2 : va_RA (jx_s X) cA ty) : va_K D vwCl [(cA, ty)] (jx_s X) := ⟨(je_K E).1, fun k q hk => by
  cases k with
  | zero => cases hk; exact ⟨h1, h2⟩
  | succ k => simp at hk⟩
theorem hm_P1 {D : va_G} {a : Nat} {e : va_E} {H : Heap} (h : va_at D vwCl (a, e) H) : va_P D vwCl [(a, e)] H := fun k q hk => by
  cases k with
  | zero => cases hk; exact h
  | succ k => simp at hk
theorem va_Sgrow {A : Nat → Prop} {H0 H H1 : Heap} {locs : List Loc} (hS : va_S A H0 H locs) (z : H.size ≤ H1.size) (hq : ∀ q : Nat, q < H.size → H1[q]? = H[q]?) : va_S A H0 H1 locs := ⟨Nat.le_trans hS.1 z, fun x h1 h2 => (hq x (Nat.lt_of_lt_of_le h1 hS.1)).trans (hS.2.1 x h1 h2), hS.2.2⟩
/-- getfield -/
theorem j_getfield (E : JE X own cc nL ws ret B E0 D l v mc ms) {ref C : String} {T : u_T} {N ci index a : Nat} {fs : List Value} {x : Value} (q : Nat) (d : decode cc pc = .ok (.getfield index, 3)) (hin : ∀ w ∈ u_ws C T N, w ∈ ws) (hc : vwCl[ci]? = some (C, T, N)) (hq : q < N) (hlink : Cond.fieldLink own index ref (T q).2.1 (T q).2.2.1 ∈ ws) (href : (T q).1 = ref) (ha : h a = some (hO ci fs)) (hx : fs[q]? = some x) (kk : J X B D nL Q h k n (pc + 3) L (x :: st)) : J X B D nL Q h k n pc L (.ref a :: st) := fun H locs ls hR hS hl =>
  va_get (D := D) (cl := vwCl) (tys := []) (ws := [(a, .inr (ci, fs))]) E.1 E.2.1 E.2.2.2.2.1 hin E.2.2.2.1 (je_K E) (hm_P1 (hR a _ ha).1) 0 rfl hc q hq (E.2.2.2.2.1 _ hlink) (by subst href; exact fun _ h9 => h9) hx d (kk H locs ls hR hS hl)
/-- .. a field inherited -/
theorem j_getfieldU (E : JE X own cc nL ws ret B E0 D l v mc ms) {ref C : String} {T : u_T} {N ci index a : Nat} {fs : List Value} {x : Value} (q : Nat) (d : decode cc pc = .ok (.getfield index, 3)) (hin : ∀ w ∈ u_ws C T N, w ∈ ws) (hc : vwCl[ci]? = some (C, T, N)) (hq : q < N) (hlink : Cond.fieldLink own index ref (T q).2.1 (T q).2.2.1 ∈ ws) (href : Cond.sameField ref (T q).1 (T q).2.1 (T q).2.2.1 ∈ ws) (ha : h a = some (hO ci fs)) (hx : fs[q]? = some x) (kk : J X B D nL Q h k n (pc + 3) L (x :: st)) : J X B D nL Q h k n pc L (.ref a :: st) := fun H locs ls hR hS hl =>
  va_get (D := D) (cl := vwCl) (tys := []) (ws := [(a, .inr (ci, fs))]) E.1 E.2.1 E.2.2.2.2.1 hin E.2.2.2.1 (je_K E) (hm_P1 (hR a _ ha).1) 0 rfl hc q hq (E.2.2.2.2.1 _ hlink) (u_same (E.2.2.2.2.1 _ href)) hx d (kk H locs ls hR hS hl)
/-- putfield -/
theorem j_put0 (E : JE X own cc nL ws ret B E0 D l v mc ms) {ref C : String} {T : u_T} {N ci index a : Nat} {fs : List Value} {x : Value} (q : Nat) (d : decode cc pc = .ok (.putfield index, 3)) (hin : ∀ w ∈ u_ws C T N, w ∈ ws) (ty0 : Nat → FieldType) (hty : ∀ k, k < N → parseFieldDescriptor (T k).2.2.1 = some (ty0 k)) (hnm : ∀ a, a < N → ∀ b, b < N → a ≠ b → (T a).2.1 ≠ (T b).2.1) (hc : vwCl[ci]? = some (C, T, N)) (hq : q < N) (hlink : Cond.fieldLink own index ref (T q).2.1 (T q).2.2.1 ∈ ws) (hsame : ∀ x, (jx_s X).fieldFound? (T q).1 (T q).2.1 (T q).2.2.1 = some x → (jx_s X).fieldFound? ref (T q).2.1 (T q).2.2.1 = some x) (hfin : (T q).2.2.2 = false) (hn : narrow (ty0 q) x = x) (hf : fits (ty0 q) x = true) (ha : h a = some (hO ci fs)) (hl0 : q < fs.length) (kk : J X B D nL Q (hput h a (hO ci (fs.set q x))) k n (pc + 3) L st) : J X B D nL Q h k n pc L (x :: .ref a :: st) := by
  intro H locs ls hR hS hl
  have hts := E.2.2.2.2.1
  have hap := va_apart (own := own) (D := D) (cl := vwCl) (tys := []) hts hin ty0 hty hnm (je_K E) hc
  obtain ⟨r, h1, cell, q1, q2, q3, q4⟩ := (hR a _ ha).1
  have hr : r = (C, T, N) := Option.some.inj (h1.symm.trans hc)
  subst hr
  obtain ⟨hSl, hfc, kC, hkC, hkind⟩ := (je_K E).1 ci _ hc
  obtain ⟨cf, kf, fi, f, hi, hsl⟩ := hSl q hq
  have hlay := hts _ (hin _ (u_in_lay hq))
  unfold u_lay at hlay
  rw [if_neg (by rw [hfin]; decide)] at hlay
  have hst := (u_facts hfc hkC (u_lays hts hin hq) hi).1
  have h6 := u_store hfc hkC hkind hlay hi (hty q hq) hn hf
  refine W.putK E.1 E.2.1 (f := f) ⟨E.2.2.2.1, hts _ hlink, ⟨_, _, _, hsame _ hi⟩, hst⟩ (by rw [q2]; exact h6) q1 q3 (by rw [hsl]; exact k2_hasslot (q4 q hq)) rfl rfl d fun H' e1 e2 e3 => ?_
  rw [hsl] at e1 ⊢
  have hB := hR.B ha
  exact kk H' _ ls (hR.set hB (show va_at D vwCl (a, .inr (ci, fs.set q x)) H' from ⟨_, hc, t_OB.to (V := updV (vp_V fs) q x) ⟨_, e1, q2, q3, t_set q4 hap hq x⟩ (fun j _ => vp_updV_set hl0 x j)⟩) e3) (hS.put e2 e3 hB) hl
theorem j_putfield (E : JE X own cc nL ws ret B E0 D l v mc ms) {ref C : String} {T : u_T} {N ci index a : Nat} {fs : List Value} {x : Value} (q : Nat) (d : decode cc pc = .ok (.putfield index, 3)) (hin : ∀ w ∈ u_ws C T N, w ∈ ws) (ty0 : Nat → FieldType) (hty : ∀ k, k < N → parseFieldDescriptor (T k).2.2.1 = some (ty0 k)) (hnm : ∀ a, a < N → ∀ b, b < N → a ≠ b → (T a).2.1 ≠ (T b).2.1) (hc : vwCl[ci]? = some (C, T, N)) (hq : q < N) (hlink : Cond.fieldLink own index ref (T q).2.1 (T q).2.2.1 ∈ ws) (href : (T q).1 = ref) (hfin : (T q).2.2.2 = false) (hn : narrow (ty0 q) x = x) (hf : fits (ty0 q) x = true) (ha : h a = some (hO ci fs)) (hl0 : q < fs.length) (kk : J X B D nL Q (hput h a (hO ci (fs.set q x))) k n (pc + 3) L st) : J X B D nL Q h k n pc L (x :: .ref a :: st) :=
  j_put0 E q d hin ty0 hty hnm hc hq hlink (by subst href; exact fun _ h9 => h9) hfin hn hf ha hl0 kk
theorem j_putfieldU (E : JE X own cc nL ws ret B E0 D l v mc ms) {ref C : String} {T : u_T} {N ci index a : Nat} {fs : List Value} {x : Value} (q : Nat) (d : decode cc pc = .ok (.putfield index, 3)) (hin : ∀ w ∈ u_ws C T N, w ∈ ws) (ty0 : Nat → FieldType) (hty : ∀ k, k < N → parseFieldDescriptor (T k).2.2.1 = some (ty0 k)) (hnm : ∀ a, a < N → ∀ b, b < N → a ≠ b → (T a).2.1 ≠ (T b).2.1) (hc : vwCl[ci]? = some (C, T, N)) (hq : q < N) (hlink : Cond.fieldLink own index ref (T q).2.1 (T q).2.2.1 ∈ ws) (href : Cond.sameField ref (T q).1 (T q).2.1 (T q).2.2.1 ∈ ws) (hfin : (T q).2.2.2 = false) (hn : narrow (ty0 q) x = x) (hf : fits (ty0 q) x = true) (ha : h a = some (hO ci fs)) (hl0 : q < fs.length) (kk : J X B D nL Q (hput h a (hO ci (fs.set q x))) k n (pc + 3) L st) : J X B D nL Q h k n pc L (x :: .ref a :: st) :=
  j_put0 E q d hin ty0 hty hnm hc hq hlink (u_same (E.2.2.2.2.1 _ href)) hfin hn hf ha hl0 kk
/-- .. of a final field, in the constructor -/
theorem j_putfin (E : JE X own cc nL ws ret B E0 D l v mc ms) {ref C : String} {T : u_T} {N ci index a : Nat} {fs : List Value} {x : Value} (q : Nat) (d : decode cc pc = .ok (.putfield index, 3)) (hin : ∀ w ∈ u_ws C T N, w ∈ ws) (ty0 : Nat → FieldType) (hty : ∀ k, k < N → parseFieldDescriptor (T k).2.2.1 = some (ty0 k)) (hnm : ∀ a, a < N → ∀ b, b < N → a ≠ b → (T a).2.1 ≠ (T b).2.1) (hc : vwCl[ci]? = some (C, T, N)) (hq : q < N) (hlink : Cond.fieldLink own index ref (T q).2.1 (T q).2.2.1 ∈ ws) (href : (T q).1 = ref) (hfin : (T q).2.2.2 = true) (hini : (jx_t X).name = "<init>") (hdecl : (T q).1 = own) (hn : narrow (ty0 q) x = x) (hf : fits (ty0 q) x = true) (ha : h a = some (hO ci fs)) (hl0 : q < fs.length) (kk : J X B D nL Q (hput h a (hO ci (fs.set q x))) k n (pc + 3) L st) : J X B D nL Q h k n pc L (x :: .ref a :: st) := by
  intro H locs ls hR hS hl
  have hts := E.2.2.2.2.1
  have hap := va_apart (own := own) (D := D) (cl := vwCl) (tys := []) hts hin ty0 hty hnm (je_K E) hc
  obtain ⟨r, h1, cell, q1, q2, q3, q4⟩ := (hR a _ ha).1
  have hr : r = (C, T, N) := Option.some.inj (h1.symm.trans hc)
  subst hr
  obtain ⟨hSl, hfc, kC, hkC, hkind⟩ := (je_K E).1 ci _ hc
  obtain ⟨cf, kf, fi, f, hi, hsl⟩ := hSl q hq
  have hlay := hts _ (hin _ (u_in_lay hq))
  unfold u_lay at hlay
  rw [if_pos hfin] at hlay
  have hst := (u_facts hfc hkC (u_lays hts hin hq) hi).1
  have hcf : (jx_m X).cls = cf := by
    obtain ⟨_, _, c', _, _, _, -, -, hf', -, -, -, hown2, -⟩ := Cond.laysFinal_spec hlay
    have e1 : c' = cf := by have := hi.symm.trans hf'; simp at this; exact this.1.symm
    rw [hdecl] at hown2
    rw [← e1]; exact Option.some.inj (E.2.2.2.1.symm.trans hown2)
  have h6 := u_fits hfc hkC hkind (Or.inr hlay) hi (hty q hq) hn hf
  refine W.putFinK E.1 E.2.1 E.2.2.2.1 (hts _ hlink) (by subst href; exact hi) hst hcf hini (by rw [q2]; exact h6) q1 q3 (by rw [hsl]; exact k2_hasslot (q4 q hq)) rfl rfl d fun H' e1 e2 e3 => ?_
  rw [hsl] at e1 ⊢
  have hB := hR.B ha
  exact kk H' _ ls (hR.set hB (show va_at D vwCl (a, .inr (ci, fs.set q x)) H' from ⟨_, hc, t_OB.to (V := updV (vp_V fs) q x) ⟨_, e1, q2, q3, t_set q4 hap hq x⟩ (fun j _ => vp_updV_set hl0 x j)⟩) e3) (hS.put e2 e3 hB) hl

theorem j_iaload (E : JE X own cc nL ws ret B E0 D l v mc ms) {a N : Nat} {f : Nat → Int32} {x : Int32} (i : Nat) (d : decode cc pc = .ok (.iaload, 1)) (ha : h a = some (hI N f)) (hx : x = nI i) (hi : i < N) (hN : N < 2 ^ 31) (kk : J X B D nL Q h k n (pc + 1) L (.int (f i) :: st)) : J X B D nL Q h k n pc L (.int x :: .ref a :: st) := by
  intro H locs ls hR hS hl
  obtain ⟨cA, k1, k2, k3⟩ := (hR a _ ha).1
  subst hx
  have hin : vp_in (nI i) N := vp_in_nI hi hN
  have key := kk H locs ls hR hS hl
  rw [← nI_clamp (n := i) (by omega)] at key
  exact va_iald (D := D) (cl := vwCl) (ws := [(a, .inl (cA, _))]) E.1 E.2.1 (je_K1 E k1 k2) (hm_P1 k3) 0 0 rfl rfl hin d key
theorem j_laload (E : JE X own cc nL ws ret B E0 D l v mc ms) {a N : Nat} {f : Nat → Int64} {x : Int32} (i : Nat) (d : decode cc pc = .ok (.laload, 1)) (ha : h a = some (hJ N f)) (hx : x = nI i) (hi : i < N) (hN : N < 2 ^ 31) (kk : J X B D nL Q h k n (pc + 1) L (.long (f i) :: st)) : J X B D nL Q h k n pc L (.int x :: .ref a :: st) := by
  intro H locs ls hR hS hl
  obtain ⟨cA, k1, k2, k3⟩ := (hR a _ ha).1
  subst hx
  have hin : vp_in (nI i) N := vp_in_nI hi hN
  have key := kk H locs ls hR hS hl
  rw [← nI_clamp (n := i) (by omega)] at key
  exact va_lald (D := D) (cl := vwCl) (ws := [(a, .inl (cA, _))]) E.1 E.2.1 (je_K1 E k1 k2) (hm_P1 k3) 0 0 rfl rfl hin d key
theorem j_zaload (E : JE X own cc nL ws ret B E0 D l v mc ms) {a N : Nat} {f : Nat → Int32} {x : Int32} (i : Nat) (d : decode cc pc = .ok (.baload, 1)) (ha : h a = some (hZ N f)) (hx : x = nI i) (hi : i < N) (hN : N < 2 ^ 31) (kk : J X B D nL Q h k n (pc + 1) L (.int (f i) :: st)) : J X B D nL Q h k n pc L (.int x :: .ref a :: st) := by
  intro H locs ls hR hS hl
  obtain ⟨cA, k1, k2, k3⟩ := (hR a _ ha).1
  subst hx
  have hin : vp_in (nI i) N := vp_in_nI hi hN
  have key := kk H locs ls hR hS hl
  rw [← nI_clamp (n := i) (by omega)] at key
  exact va_zald (D := D) (cl := vwCl) (ws := [(a, .inl (cA, _))]) E.1 E.2.1 (je_K1 E k1 k2) (hm_P1 k3) 0 0 rfl rfl hin d key
theorem j_aaload (E : JE X own cc nL ws ret B E0 D l v mc ms) {a N : Nat} {f : Nat → Option Nat} {x : Int32} {y : Option Nat} (i : Nat) (d : decode cc pc = .ok (.aaload, 1)) (ha : h a = some (hQ N f)) (hx : x = nI i) (hi : i < N) (hN : N < 2 ^ 31) (hy : f i = y) (kk : J X B D nL Q h k n (pc + 1) L (va_rf y :: st)) : J X B D nL Q h k n pc L (.int x :: .ref a :: st) := by
  intro H locs ls hR hS hl
  obtain ⟨cA, k1, k2, k3⟩ := (hR a _ ha).1
  subst hx hy
  have hin : vp_in (nI i) N := vp_in_nI hi hN
  have key := kk H locs ls hR hS hl
  rw [← nI_clamp (n := i) (by omega)] at key
  exact va_aldq (D := D) (cl := vwCl) (ws := [(a, .inl (cA, _))]) E.1 E.2.1 (je_K1 E k1 k2) (hm_P1 k3) 0 0 rfl rfl hin d key
theorem j_alen (E : JE X own cc nL ws ret B E0 D l v mc ms) {a N : Nat} {ty : FieldType} {f} (d : decode cc pc = .ok (.arraylength, 1)) (ha : h a = some (.inl (ty, (N, f)))) (kk : J X B D nL Q h k n (pc + 1) L (.int (nI N) :: st)) : J X B D nL Q h k n pc L (.ref a :: st) := by
  intro H locs ls hR hS hl
  obtain ⟨cA, k1, k2, k3⟩ := (hR a _ ha).1
  exact va_alen (D := D) (cl := vwCl) (ws := [(a, .inl (cA, _))]) E.1 E.2.1 (je_K1 E k1 k2) (hm_P1 k3) 0 0 rfl rfl rfl d (kk H locs ls hR hS hl)
theorem j_iastore (E : JE X own cc nL ws ret B E0 D l v mc ms) {a N : Nat} {f : Nat → Int32} {x : Int32} {y : Int32} (i : Nat) (d : decode cc pc = .ok (.iastore, 1)) (ha : h a = some (hI N f)) (hx : x = nI i) (hi : i < N) (hN : N < 2 ^ 31) (kk : J X B D nL Q (hput h a (hI N (upd f i y))) k n (pc + 1) L st) : J X B D nL Q h k n pc L (.int y :: .int x :: .ref a :: st) := by
  intro H locs ls hR hS hl
  obtain ⟨cA, k1, k2, k3⟩ := (hR a _ ha).1
  subst hx
  have hin : vp_in (nI i) N := vp_in_nI hi hN
  have ei : (nI i).toNatClampNeg = i := nI_clamp (by omega)
  have hB := hR.BA ha hi
  refine W.iast E.1 E.2.1 k3 (k1 N (fun j => .int (f j))) (fun q => by cases q) (by show ¬ (nI i < 0 ∨ (arrV _ _ _).slots.size ≤ _); rw [arrV_size]; exact hin) rfl rfl d fun H1 e z oq => ?_
  refine kk H1 _ ls (hR.set hB ⟨cA, k1, k2, ?_⟩ oq) (hS.put z oq hB) hl
  rw [e, ei]
  rw [vp_cell_i, vp_cell_i, arrV_store]
  congr 2
  funext q
  by_cases hq : q = i
  · subst hq
    simp [updV, upd]
  · simp [updV, upd, hq]
theorem j_lastore (E : JE X own cc nL ws ret B E0 D l v mc ms) {a N : Nat} {f : Nat → Int64} {x : Int32} {y : Int64} (i : Nat) (d : decode cc pc = .ok (.lastore, 1)) (ha : h a = some (hJ N f)) (hx : x = nI i) (hi : i < N) (hN : N < 2 ^ 31) (kk : J X B D nL Q (hput h a (hJ N (vp_updL f i y))) k n (pc + 1) L st) : J X B D nL Q h k n pc L (.long y :: .int x :: .ref a :: st) := by
  intro H locs ls hR hS hl
  obtain ⟨cA, k1, k2, k3⟩ := (hR a _ ha).1
  subst hx
  have hin : vp_in (nI i) N := vp_in_nI hi hN
  have ei : (nI i).toNatClampNeg = i := nI_clamp (by omega)
  have hB := hR.BA ha hi
  refine W.last E.1 E.2.1 k3 (k1 N (fun j => .long (f j))) (fun q => by cases q) (by show ¬ (nI i < 0 ∨ (arrV _ _ _).slots.size ≤ _); rw [arrV_size]; exact hin) rfl rfl d fun H1 e z oq => ?_
  refine kk H1 _ ls (hR.set hB ⟨cA, k1, k2, ?_⟩ oq) (hS.put z oq hB) hl
  rw [e, ei]
  rw [vp_cell_l, vp_cell_l, arrV_store]
  congr 2
  funext q
  by_cases hq : q = i
  · subst hq
    simp [updV, vp_updL]
  · simp [updV, vp_updL, hq]
theorem j_zastore (E : JE X own cc nL ws ret B E0 D l v mc ms) {a N : Nat} {f : Nat → Int32} {x y : Int32} (i : Nat) (d : decode cc pc = .ok (.bastore, 1)) (ha : h a = some (hZ N f)) (hx : x = nI i) (hi : i < N) (hN : N < 2 ^ 31) (hn : narrow .boolean (.int y) = .int y) (kk : J X B D nL Q (hput h a (hZ N (upd f i y))) k n (pc + 1) L st) : J X B D nL Q h k n pc L (.int y :: .int x :: .ref a :: st) := by
  intro H locs ls hR hS hl
  obtain ⟨cA, k1, k2, k3⟩ := (hR a _ ha).1
  subst hx
  have hin : vp_in (nI i) N := vp_in_nI hi hN
  have ei : (nI i).toNatClampNeg = i := nI_clamp (by omega)
  have hB := hR.BA ha hi
  refine W.zast E.1 E.2.1 k3 (k1 N (fun j => .int (f j))) (fun q => by cases q) (by show ¬ (nI i < 0 ∨ (arrV _ _ _).slots.size ≤ _); rw [arrV_size]; exact hin) rfl rfl d fun H1 e z oq => ?_
  refine kk H1 _ ls (hR.set hB ⟨cA, k1, k2, ?_⟩ oq) (hS.put z oq hB) hl
  rw [e, ei, hn]
  rw [vp_cell_i, vp_cell_i, arrV_store]
  congr 2
  funext q
  by_cases hq : q = i
  · subst hq
    simp [updV, upd]
  · simp [updV, upd, hq]
theorem j_aastore (E : JE X own cc nL ws ret B E0 D l v mc ms) {a N y ci : Nat} {fs : List Value} {r : vw_C} {f : Nat → Option Nat} {x : Int32} (i : Nat) (d : decode cc pc = .ok (.aastore, 1)) (ha : h a = some (hQ N f)) (hx : x = nI i) (hi : i < N) (hN : N < 2 ^ 31) (hy : h y = some (hO ci fs)) (hc : vwCl[ci]? = some r) (kk : J X B D nL Q (hput h a (hQ N (va_up f i (some y)))) k n (pc + 1) L st) : J X B D nL Q h k n pc L (.ref y :: .int x :: .ref a :: st) := by
  intro H locs ls hR hS hl
  obtain ⟨cA, k1, k2, k3⟩ := (hR a _ ha).1
  subst hx
  have ei : (nI i).toNatClampNeg = i := nI_clamp (by omega)
  have hB := hR.BA ha hi
  obtain ⟨r', hr', cellV, g1, g2, g3, -⟩ := (hR y _ hy).1
  cases hc.symm.trans hr'
  have hcls := ((je_K E).1 ci r hc).2
  obtain ⟨kA, comp, c1, c2, c3, c4⟩ := k2
  obtain ⟨kE, hkE, -⟩ := Vm.findClass_spec c3
  obtain ⟨c0, t1, f1, f2, f3⟩ := Cond.castable_spec (va_Nw.use (A := jx_a X) rfl (E.2.2.2.2.2.2.2.1.1.2.2.1 ci r hc))
  cases hcls.1.symm.trans f1
  cases c3.symm.trans f2
  obtain ⟨kC, hkC, -⟩ := hcls.2
  refine W.aast E.1 E.2.1 k3 (fun q h => by cases h) (fun h => by cases h) c1 c2 rfl hkE ⟨nI_pos (by omega), by show _ < (arrV _ _ _).slots.size; rw [arrV_size, ei]; exact hi⟩ g1 (fun q h => by rw [g3] at h; cases h) (by rw [g2]; exact hkC) (by rw [g2]; exact f3) rfl rfl d fun H1 e z oq => ?_
  refine kk H1 _ ls (hR.set hB ⟨cA, k1, ⟨kA, comp, c1, c2, c3, c4⟩, ?_⟩ oq) (hS.put z oq hB) hl
  rw [e, ei]
  rw [vp_cell_q, vp_cell_q, arrV_store]
  congr 2
  funext q
  by_cases hq : q = i
  · subst hq
    simp [updV, va_up, va_rf]
  · simp [updV, va_up, hq]
theorem j_aastoreN (E : JE X own cc nL ws ret B E0 D l v mc ms) {a N : Nat} {f : Nat → Option Nat} {x : Int32} (i : Nat) (d : decode cc pc = .ok (.aastore, 1)) (ha : h a = some (hQ N f)) (hx : x = nI i) (hi : i < N) (hN : N < 2 ^ 31) (kk : J X B D nL Q (hput h a (hQ N (va_up f i none))) k n (pc + 1) L st) : J X B D nL Q h k n pc L (.null :: .int x :: .ref a :: st) := by
  intro H locs ls hR hS hl
  obtain ⟨cA, k1, k2, k3⟩ := (hR a _ ha).1
  subst hx
  have hin : vp_in (nI i) N := vp_in_nI hi hN
  have ei : (nI i).toNatClampNeg = i := nI_clamp (by omega)
  have hB := hR.BA ha hi
  refine va_WaastN (C := "java/lang/Object") E.1 E.2.1 k3 (k1 N (fun j => va_rf (f j))) (fun h => by cases h) (by show ¬ (nI i < 0 ∨ (arrV _ _ _).slots.size ≤ _); rw [arrV_size]; exact hin) rfl rfl d fun H1 e z oq => ?_
  refine kk H1 _ ls (hR.set hB ⟨cA, k1, k2, ?_⟩ oq) (hS.put z oq hB) hl
  rw [e, ei]
  rw [vp_cell_q, vp_cell_q, arrV_store]
  congr 2
  funext q
  by_cases hq : q = i
  · subst hq
    simp [updV, va_up, va_rf]
  · simp [updV, va_up, hq]
theorem j_newI (E : JE X own cc nL ws ret B E0 D l v mc ms) {x : Int32} (N : Nat) (d : decode cc pc = .ok (.newarray .int, 2)) (hw : Cond.arrayClass .int ∈ ws) (hx : x = nI N) (hN : N < 1000000) (hk : k + 1 ≤ mc) (hs : n + N ≤ ms) (kk : ∀ q : Nat, h q = none → B ≤ q → J X B D nL Q (hput h q (hI N (fun _ => 0))) (k + 1) (n + N) (pc + 2) L (.ref q :: st)) : J X B D nL Q h k n pc L (.int x :: st) := by
  intro H locs ls hR hS hl
  subst hx
  have hBs : B ≤ H.size := Nat.le_trans (je_B E) hS.1
  refine va_newaK (atype := .int) E.1 E.2.1 (E.2.2.2.2.1 _ hw) rfl d rfl (nI_pos (by omega)) (N := N) (nI_clamp (by omega)) (Nat.le_trans (Nat.mul_le_mul_right _ (Nat.le_of_lt hN)) (by decide)) (by rw [je_R E]; exact hk) (by rw [je_R E]; exact hs) rfl fun H1 cA e1 z1 o1 hAr hNm => ?_
  refine kk H.size hR.none hBs H1 locs ls (hR.push hBs ⟨cA, hAr, hNm, ?_⟩ o1) (va_Sgrow hS (by omega) o1) hl
  rw [vp_cell_i]
  exact e1
theorem j_newJ (E : JE X own cc nL ws ret B E0 D l v mc ms) {x : Int32} (N : Nat) (d : decode cc pc = .ok (.newarray .long, 2)) (hw : Cond.arrayClass .long ∈ ws) (hx : x = nI N) (hN : N < 1000000) (hk : k + 1 ≤ mc) (hs : n + N ≤ ms) (kk : ∀ q : Nat, h q = none → B ≤ q → J X B D nL Q (hput h q (hJ N (fun _ => 0))) (k + 1) (n + N) (pc + 2) L (.ref q :: st)) : J X B D nL Q h k n pc L (.int x :: st) := by
  intro H locs ls hR hS hl
  subst hx
  have hBs : B ≤ H.size := Nat.le_trans (je_B E) hS.1
  refine va_newaK (atype := .long) E.1 E.2.1 (E.2.2.2.2.1 _ hw) rfl d rfl (nI_pos (by omega)) (N := N) (nI_clamp (by omega)) (Nat.le_trans (Nat.mul_le_mul_right _ (Nat.le_of_lt hN)) (by decide)) (by rw [je_R E]; exact hk) (by rw [je_R E]; exact hs) rfl fun H1 cA e1 z1 o1 hAr hNm => ?_
  refine kk H.size hR.none hBs H1 locs ls (hR.push hBs ⟨cA, hAr, hNm, ?_⟩ o1) (va_Sgrow hS (by omega) o1) hl
  rw [vp_cell_l]
  exact e1
theorem j_newZ (E : JE X own cc nL ws ret B E0 D l v mc ms) {x : Int32} (N : Nat) (d : decode cc pc = .ok (.newarray .boolean, 2)) (hw : Cond.arrayClass .boolean ∈ ws) (hx : x = nI N) (hN : N < 1000000) (hk : k + 1 ≤ mc) (hs : n + N ≤ ms) (kk : ∀ q : Nat, h q = none → B ≤ q → J X B D nL Q (hput h q (hZ N (fun _ => 0))) (k + 1) (n + N) (pc + 2) L (.ref q :: st)) : J X B D nL Q h k n pc L (.int x :: st) := by
  intro H locs ls hR hS hl
  subst hx
  have hBs : B ≤ H.size := Nat.le_trans (je_B E) hS.1
  refine va_newaK (atype := .boolean) E.1 E.2.1 (E.2.2.2.2.1 _ hw) rfl d rfl (nI_pos (by omega)) (N := N) (nI_clamp (by omega)) (Nat.le_trans (Nat.mul_le_mul_right _ (Nat.le_of_lt hN)) (by decide)) (by rw [je_R E]; exact hk) (by rw [je_R E]; exact hs) rfl fun H1 cA e1 z1 o1 hAr hNm => ?_
  refine kk H.size hR.none hBs H1 locs ls (hR.push hBs ⟨cA, hAr, hNm, ?_⟩ o1) (va_Sgrow hS (by omega) o1) hl
  rw [vp_cell_i]
  exact e1
theorem j_newQ (E : JE X own cc nL ws ret B E0 D l v mc ms) {x : Int32} {index : Nat} (N : Nat) (d : decode cc pc = .ok (.anewarray index, 3)) (hw : Cond.classLink own index "java/lang/Object" ∈ ws) (hx : x = nI N) (hN : N < 1000000) (hk : k + 1 ≤ mc) (hs : n + N ≤ ms) (kk : ∀ q : Nat, h q = none → B ≤ q → J X B D nL Q (hput h q (hQ N (fun _ => none))) (k + 1) (n + N) (pc + 3) L (.ref q :: st)) : J X B D nL Q h k n pc L (.int x :: st) := by
  intro H locs ls hR hS hl
  subst hx
  have hBs : B ≤ H.size := Nat.le_trans (je_B E) hS.1
  have ei : (nI N).toNatClampNeg = N := nI_clamp (by omega)
  refine W.anew E.1 E.2.1 E.2.2.2.1 (E.2.2.2.2.1 _ hw) (va_AO.use E.2.2.2.2.2.2.2.1.1.2.2.2.2.2.2.1) rfl d rfl (nI_pos (by omega)) (by rw [ei]; omega) (by rw [je_R E]; exact hk) (by rw [je_R E, ei]; exact hs) fun cA kA comp f1 f2 f3 f4 => ?_
  rw [ei]
  generalize hH1 : H.push ({ cls := cA, slots := Array.replicate N .null, vm := .none } : Cell) = H1
  have z1 : H1.size = H.size + 1 := by rw [← hH1, Array.size_push]
  have e1 : H1[H.size]? = some (arrV cA N (fun _ => .null)) := by rw [← hH1, Array.getElem?_push_size, ← arrV_new]
  have o1 : ∀ q : Nat, q < H.size → H1[q]? = H[q]? := fun q hq => by rw [← hH1, Array.getElem?_push, if_neg (Nat.ne_of_lt hq)]
  refine kk H.size hR.none hBs H1 locs ls (hR.push hBs ⟨cA, fun N z => ⟨(fun k h => by cases h), kA, f2, comp, f3⟩, ⟨kA, comp, f2, f3, f4, f1⟩, ?_⟩ o1) (va_Sgrow hS (by omega) o1) hl
  rw [vp_cell_q]
  exact e1
theorem j_new (E : JE X own cc nL ws ret B E0 D l v mc ms) {C : String} {T : u_T} {N ci index : Nat} (fs : List Value) (d : decode cc pc = .ok (.new index, 3)) (hin : ∀ w ∈ u_ws C T N, w ∈ ws) (ty : Nat → FieldType) (hty : ∀ k, k < N → parseFieldDescriptor (T k).2.2.1 = some (ty k)) (hcl : Cond.classLink own index C ∈ ws) (hinst : Cond.instantiable C N ∈ ws) (hini : Cond.initialized C ∈ ws) (hc : vwCl[ci]? = some (C, T, N)) (hfs : ∀ j, j < N → defaultValue (ty j) = vp_V fs j) (hk : k + 1 ≤ mc) (hs : n + N ≤ ms) (kk : ∀ q : Nat, h q = none → B ≤ q → J X B D nL Q (hput h q (hO ci fs)) (k + 1) (n + N) (pc + 3) L (.ref q :: st)) : J X B D nL Q h k n pc L st := by
  intro H locs ls hR hS hl
  have hts := E.2.2.2.2.1
  have hBs : B ≤ H.size := Nat.le_trans (je_B E) hS.1
  have hKn := (je_K E).1 ci _ hc
  refine W.newcK E.1 E.2.1 E.2.2.2.1 (hts _ hcl) (hts _ hinst) (hts _ hini) rfl d (by rw [je_R E]; exact hk) (by rw [je_R E]; exact hs) hKn.2.1 rfl fun H1 kC hkC e1 z1 o1 => ?_
  exact kk H.size hR.none hBs H1 locs ls (hR.push hBs (show va_at D vwCl (H.size, .inr (ci, fs)) H1 from ⟨_, hc, (u_born ty hts hin hKn hkC e1 hty).to hfs⟩) o1) (va_Sgrow hS (by omega) o1) hl
theorem j_getE0 (E : JE X own cc nL ws ret B E0 D l v mc ms) {index : Nat} (d : decode cc pc = .ok (.getstatic index, 3)) (hlink : Cond.fieldLink own index "java/util/ArrayList" "DEFAULTCAPACITY_EMPTY_ELEMENTDATA" "[Ljava/lang/Object;" ∈ ws) (kk : J X B D nL Q h k n (pc + 3) L (.ref E0 :: st)) : J X B D nL Q h k n pc L st := fun H locs ls hR hS hl =>
  va_gets E.1 E.2.1 E.2.2.2.2.2.2.2.1.2.2.1 hS E.2.2.2.1 (E.2.2.2.2.1 _ hlink) (fun _ h => h) d (kk H locs ls hR hS hl)
theorem j_cast (E : JE X own cc nL ws ret B E0 D l v mc ms) {C : String} {T : u_T} {N ci index a : Nat} {fs : List Value} (d : decode cc pc = .ok (.checkcast index, 3)) (hlink : Cond.classLink own index C ∈ ws) (hc : vwCl[ci]? = some (C, T, N)) (ha : h a = some (hO ci fs)) (kk : J X B D nL Q h k n (pc + 3) L (.ref a :: st)) : J X B D nL Q h k n pc L (.ref a :: st) := fun H locs ls hR hS hl =>
  va_castS E.1 E.2.1 E.2.2.2.1 (E.2.2.2.2.1 _ hlink) ((je_K E).1 ci _ hc).2 (va_recv (q := (C, T, N)) (je_K E) (hm_P1 (a := a) (e := .inr (ci, fs)) (hR a _ ha).1) hc (q0 := 0) rfl) d (kk H locs ls hR hS hl)
theorem j_castQ (E : JE X own cc nL ws ret B E0 D l v mc ms) {N index a : Nat} {f : Nat → Option Nat} (d : decode cc pc = .ok (.checkcast index, 3)) (hlink : Cond.classLink own index "[Ljava/lang/Object;" ∈ ws) (ha : h a = some (hQ N f)) (kk : J X B D nL Q h k n (pc + 3) L (.ref a :: st)) : J X B D nL Q h k n pc L (.ref a :: st) := by
  intro H locs ls hR hS hl
  obtain ⟨cA, k1, k2, k3⟩ := (hR a _ ha).1
  exact va_castA E.1 E.2.1 E.2.2.2.1 (E.2.2.2.2.1 _ hlink) (D := D) (cl := vwCl) (ws := [(a, .inl (cA, _))]) (hm_P1 k3) 0 rfl (va_nmO (C := "java/lang/Object") k2 (by decide)) d (kk H locs ls hR hS hl)
theorem j_objInit (E : JE X own cc nL ws ret B E0 D l v mc ms) {index a : Nat} (d : decode cc pc = .ok (.invokespecial index, 3)) (hlink : Cond.methodLink own index Lib.objectInit ∈ ws) (hi : Cond.instanceMethod Lib.objectInit ∈ ws) (hcode : Cond.code Lib.objectInit ⟨#[0xb1]⟩ 1 none ∈ ws) (hv : 1 ≤ v) (hcat : (st.map fun x => x.category).sum ≤ 8) (kk : J X B D nL Q h k n (pc + 3) L st) : J X B D nL Q h k n pc L (.ref a :: st) := by
  intro H locs ls hR hS hl
  have hts := E.2.2.2.2.1
  refine W.objInit E.1 E.2.1 E.2.2.2.1 (hts _ hlink) (hts _ hi) (hts _ hcode) rfl (by rw [E.2.2.1]; exact hl.1) rfl d (by rw [je_R E]; exact hv) (by rw [je_R E]; show 2 * 0 + _ + 12 ≤ 64 * v; omega) ?_
  exact W.eq (g2 := F0 (jx_m X) (pc + 3) ls st) rfl (kk H locs ls hR hS hl)
theorem j_mmaxl (E : JE X own cc nL ws ret B E0 D l v mc ms) {index : Nat} {x y : Int64} (d : decode cc pc = .ok (.invokestatic index, 3)) (hlink : Cond.methodLink own index Lib.MathLoose.max_long.x ∈ ws) (hstat : Cond.static Lib.MathLoose.max_long.x ∈ ws) (hini : Cond.initialized "java/lang/Math" ∈ ws) (hcode : Cond.code Lib.MathLoose.max_long.x Lib.MathLoose.max_long.code 4 (some .long) ∈ ws) (hv : 1 ≤ v) (hcat : (st.map fun x => x.category).sum ≤ 8) (hk : k ≤ mc) (hs : n ≤ ms) (kk : J X B D nL Q h k n (pc + 3) L (.long (if y < x then x else y) :: st)) : J X B D nL Q h k n pc L (.long y :: .long x :: st) := by
  intro H locs ls hR hS hl
  have hts := E.2.2.2.2.1
  exact va_mmax_long E.1 E.2.1 (by rw [E.2.2.1]; exact hl.1.symm) E.2.2.2.1 (hts _ hlink) (hts _ hstat) (hts _ hini) (hts _ hcode) (by rw [je_R E]; exact hv) (by rw [je_R E]; show _ + 15 ≤ 64 * v; omega) (by rw [je_R E]; exact hk) (by rw [je_R E]; exact hs) d (kk H locs ls hR hS hl)
theorem j_mminl (E : JE X own cc nL ws ret B E0 D l v mc ms) {index : Nat} {x y : Int64} (d : decode cc pc = .ok (.invokestatic index, 3)) (hlink : Cond.methodLink own index Lib.MathLoose.min_long.x ∈ ws) (hstat : Cond.static Lib.MathLoose.min_long.x ∈ ws) (hini : Cond.initialized "java/lang/Math" ∈ ws) (hcode : Cond.code Lib.MathLoose.min_long.x Lib.MathLoose.min_long.code 4 (some .long) ∈ ws) (hv : 1 ≤ v) (hcat : (st.map fun x => x.category).sum ≤ 8) (hk : k ≤ mc) (hs : n ≤ ms) (kk : J X B D nL Q h k n (pc + 3) L (.long (if y < x then y else x) :: st)) : J X B D nL Q h k n pc L (.long y :: .long x :: st) := by
  intro H locs ls hR hS hl
  have hts := E.2.2.2.2.1
  exact va_mmin_long E.1 E.2.1 (by rw [E.2.2.1]; exact hl.1.symm) E.2.2.2.1 (hts _ hlink) (hts _ hstat) (hts _ hini) (hts _ hcode) (by rw [je_R E]; exact hv) (by rw [je_R E]; show _ + 15 ≤ 64 * v; omega) (by rw [je_R E]; exact hk) (by rw [je_R E]; exact hs) d (kk H locs ls hR hS hl)
theorem j_mmax (E : JE X own cc nL ws ret B E0 D l v mc ms) {index : Nat} {x y : Int32} (d : decode cc pc = .ok (.invokestatic index, 3)) (hlink : Cond.methodLink own index Lib.Math.max.name ∈ ws) (hstat : Cond.static Lib.Math.max.name ∈ ws) (hini : Cond.initialized "java/lang/Math" ∈ ws) (hcode : Cond.code Lib.Math.max.name Lib.Math.max.code 2 (some .int) ∈ ws) (hv : 1 ≤ v) (hcat : (st.map fun x => x.category).sum ≤ 8) (hk : k ≤ mc) (hs : n ≤ ms) (kk : J X B D nL Q h k n (pc + 3) L (.int (if x < y then y else x) :: st)) : J X B D nL Q h k n pc L (.int y :: .int x :: st) := by
  intro H locs ls hR hS hl
  have hts := E.2.2.2.2.1
  exact va_mmax E.1 E.2.1 (by rw [E.2.2.1]; exact hl.1.symm) E.2.2.2.1 (hts _ hlink) (hts _ hstat) (hts _ hini) (hts _ hcode) (by rw [je_R E]; exact hv) (by rw [je_R E]; show _ + 13 ≤ 64 * v; omega) (by rw [je_R E]; exact hk) (by rw [je_R E]; exact hs) d (kk H locs ls hR hS hl)
theorem j_mmin (E : JE X own cc nL ws ret B E0 D l v mc ms) {index : Nat} {x y : Int32} (d : decode cc pc = .ok (.invokestatic index, 3)) (hlink : Cond.methodLink own index Lib.Math.min.name ∈ ws) (hstat : Cond.static Lib.Math.min.name ∈ ws) (hini : Cond.initialized "java/lang/Math" ∈ ws) (hcode : Cond.code Lib.Math.min.name Lib.Math.min.code 2 (some .int) ∈ ws) (hv : 1 ≤ v) (hcat : (st.map fun x => x.category).sum ≤ 8) (hk : k ≤ mc) (hs : n ≤ ms) (kk : J X B D nL Q h k n (pc + 3) L (.int (if y < x then y else x) :: st)) : J X B D nL Q h k n pc L (.int y :: .int x :: st) := by
  intro H locs ls hR hS hl
  have hts := E.2.2.2.2.1
  exact va_mmin E.1 E.2.1 (by rw [E.2.2.1]; exact hl.1.symm) E.2.2.2.1 (hts _ hlink) (hts _ hstat) (hts _ hini) (hts _ hcode) (by rw [je_R E]; exact hv) (by rw [je_R E]; show _ + 13 ≤ 64 * v; omega) (by rw [je_R E]; exact hk) (by rw [je_R E]; exact hs) d (kk H locs ls hR hS hl)
/-- behind a call that returned -/
theorem j_ofRun (E : JE X own cc nL ws ret B E0 D l v mc ms) {mc' ms' : Nat} {post : Option Value → HM → Prop} {a : Array Value} {st st2 : List Value}
    (hr : ∀ (H : Heap) (locs : List Loc) (ls : Array Slot), hm_R (jx_s X) B D h H → va_S (fun q => B ≤ q) (jx_s X).heap H locs → lv_has ls nL L → va_Run (jx_p X) (jx_l X) (jx_e X) (jx_R X) (jx_s X) (jx_m X) (jx_a X) (jx_b X) (jx_t X) (jx_c X) H locs k n mc' ms' (F0 (jx_m X) pc ls st) st2 (cQ B D post a) (fun q => B ≤ q))
    (kk : ∀ (r : Option Value) (h1 : HM), post r h1 → J X B D nL Q h1 (k + mc') (n + ms') (pc + 3) L (r.toList ++ st2)) : J X B D nL Q h k n pc L st := by
  intro H locs ls hR hS hl T hT X0
  obtain ⟨r, st₀, t, T', Lc, h0, X', hL, e1, e2, ⟨⟨r', h1, hv, hp, hb⟩, hz, hk⟩, stp⟩ := hr H locs ls hR hS hl T hT X0
  cases hv
  rw [h0] at hz hk
  have hal : t.vm.Alike (jx_s X).vm := by rw [← e2]; exact X'.warmed.alike.symm
  have hRn : hm_R (jx_s X) B D h1 T'.heap := by rw [e1]; exact hb.moved hal
  have hSn : va_S (fun q => B ≤ q) (jx_s X).heap T'.heap (locs ++ Lc) := ⟨Nat.le_trans hS.1 (by rw [e1]; exact hz), fun q h1 h2 => by rw [e1, hk q (Nat.lt_of_lt_of_le h1 hS.1) h2]; exact hS.2.1 q h1 h2, fun q hq => by
      rcases List.mem_append.mp hq with h | h
      · exact hS.2.2 q h
      · exact hL q h⟩
  obtain ⟨t2, a1, b1⟩ := kk r h1 hp T'.heap (locs ++ Lc) ls hRn hSn hl T' rfl X'
  exact ⟨t2, stp t2 a1, b1⟩
theorem je_P (E : JE X own cc nL ws ret B E0 D l v mc ms) {As : List Value} {H : Heap} {locs : List Loc} (hR : hm_R (jx_s X) B D h H) (hS : va_S (fun q => B ≤ q) (jx_s X).heap H locs) : ∀ U : State, U.heap = H → (jx_s X).WarmedH U.vm → cP l B E0 D As h As.toArray U := by
  intro U hU hW
  have hp := E.2.2.2.2.2.2.2.1
  exact ⟨rfl, ⟨PWv.warm hW hp.1, by rw [hU]; exact Nat.le_trans hp.2.1 hS.1, by rw [hU]; exact (hp.2.2.kept hS.2.1).moved hW.alike⟩, by rw [hU]; exact hR.moved hW.alike⟩
theorem jx_cr {index n0 maxL v' : Nat} (hv : v' + 1 ≤ v) (hm : maxL ≤ 45) : v' + 1 ≤ v ∧ 8 + (maxL + 11) + 64 * v' ≤ 64 * v := ⟨hv, by omega⟩
theorem j_callV (E : JE X own cc nL ws ret B E0 D l v mc ms) {C : String} {T : u_T} {N ci index np maxL v' mc' ms' b : Nat} {y : MethodName} {wsy ws' : List Cond} {cy : ByteArray} {ry : Option FieldType} {As st2 st : List Value} {fs : List Value} {post : Option Value → HM → Prop}
    (hM : CM l B E0 D y wsy v' mc' ms' (.ref b :: As) h post) (hG : GoodIn ws (wsV own index C y wsy)) (hw : wsy = Cond.code y cy maxL ry :: ws') (hd : y.cls = C ∧ y.cls ≠ "java/lang/invoke/MethodHandle" ∧ y.cls ≠ "java/lang/invoke/VarHandle" ∧ (parseMethodDescriptor y.desc).map (fun d => d.parameters.length) = some np) (d : decode cc pc = .ok (.invokevirtual index, 3)) (hv : v' + 1 ≤ v) (hm : maxL ≤ 45) (hc : vwCl[ci]? = some (C, T, N)) (hb : h b = some (hO ci fs)) (hn : As.length = np) (hst : st = As.reverse ++ .ref b :: st2) (hcat : (st2.map fun x => x.category).sum ≤ 8) (hk : k + mc' ≤ mc) (hs : n + ms' ≤ ms)
    (kk : ∀ (r : Option Value) (h1 : HM), post r h1 → J X B D nL Q h1 (k + mc') (n + ms') (pc + 3) L (r.toList ++ st2)) : J X B D nL Q h k n pc L st := by
  refine j_ofRun (a := (Value.ref b :: As).toArray) E (fun H locs ls hR hS hl => ?_) kk
  have hM' : Met (jx_l X) y wsy (rmv v' mc' ms') (cP l B E0 D (.ref b :: As) h) (cQ B D post) mc' ms' (fun q => B ≤ q) := by rw [E.2.2.2.2.2.2.2.2.2]; exact hM
  exact va_runV ⟨E.1, E.2.1, E.2.2.1, E.2.2.2.1, E.2.2.2.2.1⟩ hM' (cwV np E.2.2.2.2.1 hG hw rfl rfl hd (by rw [je_R E]; exact jx_cr (index := 0) (n0 := 0) hv hm)) ⟨cP_blind, va_recv (q := (C, T, N)) (je_K E) (hm_P1 (a := b) (e := .inr (ci, fs)) (hR b _ hb).1) hc (q0 := 0) rfl, je_P E hR hS⟩ rfl hn hl.1 hst (lv_room hcat) d (by rw [je_R E]; exact ⟨hk, hs⟩)
theorem j_callS (E : JE X own cc nL ws ret B E0 D l v mc ms) {index np maxL v' mc' ms' : Nat} {y : MethodName} {wsy ws' : List Cond} {cy : ByteArray} {ry : Option FieldType} {As st2 st : List Value} {post : Option Value → HM → Prop}
    (hM : CM l B E0 D y wsy v' mc' ms' As h post) (hG : GoodIn ws (va_wsS own index y wsy)) (hw : wsy = Cond.code y cy maxL ry :: ws') (hd : y.cls ≠ "java/lang/invoke/MethodHandle" ∧ y.cls ≠ "java/lang/invoke/VarHandle" ∧ (parseMethodDescriptor y.desc).map (fun d => d.parameters.length) = some np) (d : decode cc pc = .ok (.invokestatic index, 3)) (hv : v' + 1 ≤ v) (hm : maxL ≤ 45) (hn : As.length = np) (hst : st = As.reverse ++ st2) (hcat : (st2.map fun x => x.category).sum ≤ 8) (hk : k + mc' ≤ mc) (hs : n + ms' ≤ ms)
    (kk : ∀ (r : Option Value) (h1 : HM), post r h1 → J X B D nL Q h1 (k + mc') (n + ms') (pc + 3) L (r.toList ++ st2)) : J X B D nL Q h k n pc L st := by
  refine j_ofRun (a := As.toArray) E (fun H locs ls hR hS hl => ?_) kk
  have hM' : Met (jx_l X) y wsy (rmv v' mc' ms') (cP l B E0 D As h) (cQ B D post) mc' ms' (fun q => B ≤ q) := by rw [E.2.2.2.2.2.2.2.2.2]; exact hM
  exact va_runS ⟨E.1, E.2.1, E.2.2.1, E.2.2.2.1, E.2.2.2.2.1⟩ hM' (va_cwS np E.2.2.2.2.1 hG hw rfl rfl hd (by rw [je_R E]; exact jx_cr (index := 0) (n0 := 0) hv hm)) ⟨cP_blind, je_P E hR hS⟩ rfl hn hl.1 hst (lv_room hcat) d (by rw [je_R E]; exact ⟨hk, hs⟩)
theorem j_callI (E : JE X own cc nL ws ret B E0 D l v mc ms) {index np maxL v' mc' ms' b : Nat} {y : MethodName} {wsy ws' : List Cond} {cy : ByteArray} {As st2 st : List Value} {post : Option Value → HM → Prop}
    (hM : CM l B E0 D y wsy v' mc' ms' (.ref b :: As) h post) (hG : GoodIn ws wsy) (hw : wsy = Cond.code y cy maxL none :: ws') (hini : Cond.initialized y.cls ∈ ws) (hlk : Cond.methodLink own index y ∈ ws) (him : Cond.instanceMethod y ∈ ws) (hy1 : y.name = "<init>") (hd : y.cls ≠ "java/lang/invoke/MethodHandle" ∧ y.cls ≠ "java/lang/invoke/VarHandle" ∧ (parseMethodDescriptor y.desc).map (fun d => d.parameters.length) = some np) (d : decode cc pc = .ok (.invokespecial index, 3)) (hv : v' + 1 ≤ v) (hm : maxL ≤ 45) (hn : As.length = np) (hst : st = As.reverse ++ .ref b :: st2) (hcat : (st2.map fun x => x.category).sum ≤ 8) (hk : k + mc' ≤ mc) (hs : n + ms' ≤ ms)
    (kk : ∀ (r : Option Value) (h1 : HM), post r h1 → J X B D nL Q h1 (k + mc') (n + ms') (pc + 3) L (r.toList ++ st2)) : J X B D nL Q h k n pc L st := by
  refine j_ofRun (a := (Value.ref b :: As).toArray) E (fun H locs ls hR hS hl => ?_) kk
  have hM' : Met (jx_l X) y wsy (rmv v' mc' ms') (cP l B E0 D (.ref b :: As) h) (cQ B D post) mc' ms' (fun q => B ≤ q) := by rw [E.2.2.2.2.2.2.2.2.2]; exact hM
  have hts := E.2.2.2.2.1
  exact va_runI ⟨E.1, E.2.1, E.2.2.1, E.2.2.2.1, E.2.2.2.2.1⟩ hM' (cwI np hts hG hw rfl rfl (hts _ hini) (hts _ hlk) (hts _ him) hy1 hd (by rw [je_R E]; exact jx_cr (index := 0) (n0 := 0) hv hm)) ⟨cP_blind, je_P E hR hS⟩ rfl hn hl.1 hst (lv_room hcat) d (by rw [je_R E]; exact ⟨hk, hs⟩)
theorem j_callIN (E : JE X own cc nL ws ret B E0 D l v mc ms) {host : String} {index np maxL v' mc' ms' b : Nat} {y : MethodName} {wsy ws' : List Cond} {cy : ByteArray} {As st2 st : List Value} {post : Option Value → HM → Prop}
    (hM : CM l B E0 D y wsy v' mc' ms' (.ref b :: As) h post) (hG : GoodIn ws wsy) (hw : wsy = Cond.code y cy maxL none :: ws') (hini : Cond.initialized y.cls ∈ ws) (hlk : va_Nw (.methodLinkNest own index y host) (jx_s X)) (him : Cond.instanceMethod y ∈ ws) (hy1 : y.name = "<init>") (hd : y.cls ≠ "java/lang/invoke/MethodHandle" ∧ y.cls ≠ "java/lang/invoke/VarHandle" ∧ (parseMethodDescriptor y.desc).map (fun d => d.parameters.length) = some np) (d : decode cc pc = .ok (.invokespecial index, 3)) (hv : v' + 1 ≤ v) (hm : maxL ≤ 45) (hn : As.length = np) (hst : st = As.reverse ++ .ref b :: st2) (hcat : (st2.map fun x => x.category).sum ≤ 8) (hk : k + mc' ≤ mc) (hs : n + ms' ≤ ms)
    (kk : ∀ (r : Option Value) (h1 : HM), post r h1 → J X B D nL Q h1 (k + mc') (n + ms') (pc + 3) L (r.toList ++ st2)) : J X B D nL Q h k n pc L st := by
  refine j_ofRun (a := (Value.ref b :: As).toArray) E (fun H locs ls hR hS hl => ?_) kk
  have hM' : Met (jx_l X) y wsy (rmv v' mc' ms') (cP l B E0 D (.ref b :: As) h) (cQ B D post) mc' ms' (fun q => B ≤ q) := by rw [E.2.2.2.2.2.2.2.2.2]; exact hM
  have hts := E.2.2.2.2.1
  exact va_runIN ⟨E.1, E.2.1, E.2.2.1, E.2.2.2.1, E.2.2.2.2.1⟩ hM' ⟨va_cnB np hts hG hw rfl rfl hlk (hts _ hini) hd (by rw [je_R E]; exact jx_cr (index := 0) (n0 := 0) hv hm), hy1, hts _ him⟩ ⟨cP_blind, je_P E hR hS⟩ rfl hn hl.1 hst (lv_room hcat) d (by rw [je_R E]; exact ⟨hk, hs⟩)
/-- thrown over the frame at pc -/
def JT (X : JC) (B : Nat) (D : va_G) (nL : Nat) (Q : State → Prop) (E : String) (h : HM) (k n pc : Nat) (L : List (Nat × Value)) (st : List Value) : Prop :=
  ∀ (H : Heap) (locs : List Loc) (ls : Array Slot) (q : Addr) (ce : Cell), hm_R (jx_s X) B D h H → va_S (fun q => B ≤ q) (jx_s X).heap H locs → lv_has ls nL L → H[q]? = some ce → ce.vm = .none → (jx_s X).vm.findClass E = some ce.cls →
    vx_W (jx_p X) (jx_l X) (jx_e X) (jx_R X) (jx_s X) (jx_m X) (jx_a X) (jx_b X) (jx_t X) (jx_c X) H locs k n Q (F0 (jx_m X) pc ls st) q
/-- a call of a method that returns or throws -/
theorem j_callX (E : JE X own cc nL ws ret B E0 D l v mc ms) {C : String} {T : u_T} {N ci index np maxL v' mc' ms' b : Nat} {y : MethodName} {wsy ws' : List Cond} {cy : ByteArray} {ry : Option FieldType} {As st2 st : List Value} {fs : List Value} {post : Option Value → HM → Prop} {px : String → HM → Prop}
    (hM : CX l B E0 D y wsy v' mc' ms' (.ref b :: As) h post px) (hG : GoodIn ws (wsV own index C y wsy)) (hw : wsy = Cond.code y cy maxL ry :: ws') (hd : y.cls = C ∧ y.cls ≠ "java/lang/invoke/MethodHandle" ∧ y.cls ≠ "java/lang/invoke/VarHandle" ∧ (parseMethodDescriptor y.desc).map (fun d => d.parameters.length) = some np) (d : decode cc pc = .ok (.invokevirtual index, 3)) (hv : v' + 1 ≤ v) (hm : maxL ≤ 45) (hc : vwCl[ci]? = some (C, T, N)) (hb : h b = some (hO ci fs)) (hn : As.length = np) (hst : st = As.reverse ++ .ref b :: st2) (hcat : (st2.map fun x => x.category).sum ≤ 8) (hk : k + mc' ≤ mc) (hs : n + ms' ≤ ms)
    (kx : ∀ (Ex : String) (h1 : HM), px Ex h1 → JT X B D nL Q Ex h1 (k + mc') (n + ms') pc L st2)
    (kk : ∀ (r : Option Value) (h1 : HM), post r h1 → J X B D nL Q h1 (k + mc') (n + ms') (pc + 3) L (r.toList ++ st2)) : J X B D nL Q h k n pc L st := by
  intro H locs ls hR hS hl T0 hT X0
  have hM' : vx_Met (jx_l X) y wsy (rmv v' mc' ms') (cP l B E0 D (.ref b :: As) h) (cQ B D post) (cX B D px) mc' ms' (fun q => B ≤ q) := by rw [E.2.2.2.2.2.2.2.2.2]; exact hM
  have hr := vx_runV (p := jx_p X) (l := jx_l X) (e := jx_e X) (R := jx_R X) (s := jx_s X) (m := jx_m X) (args := jx_a X) (below := jx_b X) (meth := jx_t X) (c := jx_c X) (H := H) (rest := st2) (locs := locs) (cells := k) (slots := n) (g := F0 (jx_m X) pc ls st) ⟨E.1, E.2.1, E.2.2.1, E.2.2.2.1, E.2.2.2.2.1⟩ hM' (cwV np E.2.2.2.2.1 hG hw rfl rfl hd (by rw [je_R E]; exact jx_cr (index := 0) (n0 := 0) hv hm)) ⟨cP_blind, va_recv (q := (C, T, N)) (je_K E) (hm_P1 (a := b) (e := .inr (ci, fs)) (hR b _ hb).1) hc (q0 := 0) rfl, je_P E hR hS⟩ rfl hn hl.1 hst (lv_room hcat) d (by rw [je_R E]; exact ⟨hk, hs⟩)
  rcases hr T0 hT X0 with ⟨r, st₀, t, T', Lc, h0, X', hL, e1, e2, ⟨⟨r', h1, hv2, hp, hb2⟩, hz, hk2⟩, stp⟩ | ⟨q, st₀, t, T', Lc, Ex, ce, h0, X', hL, e1, e2, ⟨⟨h1, hp, hb2⟩, hz, hk2⟩, hce, hcv, hcl, stp⟩
  · cases hv2
    rw [h0] at hz hk2
    have hal : t.vm.Alike (jx_s X).vm := by rw [← e2]; exact X'.warmed.alike.symm
    have hSn : va_S (fun q => B ≤ q) (jx_s X).heap T'.heap (locs ++ Lc) := ⟨Nat.le_trans hS.1 (by rw [e1]; exact hz), fun q h1 h2 => by rw [e1, hk2 q (Nat.lt_of_lt_of_le h1 hS.1) h2]; exact hS.2.1 q h1 h2, fun q hq => by
      rcases List.mem_append.mp hq with h | h
      · exact hS.2.2 q h
      · exact hL q h⟩
    obtain ⟨t2, a1, b1⟩ := kk r h1 hp T'.heap (locs ++ Lc) ls (by rw [e1]; exact hb2.moved hal) hSn hl T' rfl X'
    exact ⟨t2, stp t2 a1, b1⟩
  · rw [h0] at hz hk2
    have hal : t.vm.Alike (jx_s X).vm := by rw [← e2]; exact X'.warmed.alike.symm
    have hSn : va_S (fun q => B ≤ q) (jx_s X).heap T'.heap (locs ++ Lc) := ⟨Nat.le_trans hS.1 (by rw [e1]; exact hz), fun q h1 h2 => by rw [e1, hk2 q (Nat.lt_of_lt_of_le h1 hS.1) h2]; exact hS.2.1 q h1 h2, fun q hq => by
      rcases List.mem_append.mp hq with h | h
      · exact hS.2.2 q h
      · exact hL q h⟩
    obtain ⟨t2, a1, b1⟩ := kx Ex h1 hp T'.heap (locs ++ Lc) ls q ce (by rw [e1]; exact hb2.moved hal) hSn hl (by rw [e1]; exact hce) hcv hcl T' rfl X'
    exact ⟨t2, stp.trans a1, b1⟩
/-- what was thrown goes on to the caller -/
theorem j_out (E : JE X own cc nL ws ret B E0 D l v mc ms) (htab : ∀ x ∈ (jx_c X).exceptionTable.toList, False) {post : Option Value → HM → Prop} {px : String → HM → Prop} {Ex : String} (hp : px Ex h) (hk : k ≤ mc) (hs : n ≤ ms) : JT X B D nL (jX X B D mc ms post px) Ex h k n pc L st := by
  intro H locs ls q ce hR hS hl hce hcv hcl
  exact vx_out (fun x hx => (htab x hx).elim) E.2.2.2.2.2.1 hce hcv hcl (fun t ht hal => ⟨⟨h, hp, by rw [ht]; exact hR.moved hal⟩, hS.F ht⟩) hS.2.2 hk hs
/-- returns -/
theorem j_iret (E : JE X own cc nL ws ret B E0 D l v mc ms) {post : Option Value → HM → Prop} {x : Int32} (d : decode cc pc = .ok (.ireturn, 1)) {ty : FieldType} (hret : ret = some ty) (hn : narrow ty (.int x) = .int x) (hk : k ≤ mc) (hs : n ≤ ms) (hp : post (some (.int x)) h) : J X B D nL (jQ X B D mc ms post) h k n pc L [.int x] := fun H locs ls hR hS hl =>
  W.widen hk hs (W.zret E.1 E.2.1 (E.2.2.2.2.2.2.1.trans hret) hn (fun t ht hW => ⟨⟨_, h, rfl, hp, by rw [ht]; exact hR.moved hW.alike⟩, hS.F ht⟩) hS.2.2 d E.2.2.2.2.2.1)
theorem j_lret (E : JE X own cc nL ws ret B E0 D l v mc ms) {post : Option Value → HM → Prop} {x : Int64} (d : decode cc pc = .ok (.lreturn, 1)) (hret : ret = some .long) (hk : k ≤ mc) (hs : n ≤ ms) (hp : post (some (.long x)) h) : J X B D nL (jQ X B D mc ms post) h k n pc L [.long x] := fun H locs ls hR hS hl =>
  W.widen hk hs (W.lret E.1 E.2.1 (E.2.2.2.2.2.2.1.trans hret) (fun t ht hW => ⟨⟨_, h, rfl, hp, by rw [ht]; exact hR.moved hW.alike⟩, hS.F ht⟩) hS.2.2 d E.2.2.2.2.2.1)
theorem j_aret (E : JE X own cc nL ws ret B E0 D l v mc ms) {post : Option Value → HM → Prop} {x : Nat} {rt : FieldType} (d : decode cc pc = .ok (.areturn, 1)) (hret : ret = some rt) (hrt : (∃ n, rt = .object n) ∨ ∃ t, rt = .array t) (hk : k ≤ mc) (hs : n ≤ ms) (hp : post (some (.ref x)) h) : J X B D nL (jQ X B D mc ms post) h k n pc L [.ref x] := fun H locs ls hR hS hl =>
  W.widen hk hs (W.aret E.1 E.2.1 (E.2.2.2.2.2.2.1.trans hret) hrt (Or.inr ⟨_, rfl⟩) (fun t ht hW => ⟨⟨_, h, rfl, hp, by rw [ht]; exact hR.moved hW.alike⟩, hS.F ht⟩) hS.2.2 d E.2.2.2.2.2.1)
theorem j_vret (E : JE X own cc nL ws ret B E0 D l v mc ms) {post : Option Value → HM → Prop} (d : decode cc pc = .ok (.return_, 1)) (hret : ret = none) (hk : k ≤ mc) (hs : n ≤ ms) (hp : post none h) : J X B D nL (jQ X B D mc ms post) h k n pc L [] := fun H locs ls hR hS hl =>
  W.widen hk hs (W.vret E.1 E.2.1 (E.2.2.2.2.2.2.1.trans hret) (fun t ht hW => ⟨⟨_, h, rfl, hp, by rw [ht]; exact hR.moved hW.alike⟩, hS.F ht⟩) hS.2.2 d E.2.2.2.2.2.1)
/-- a return in a method that may throw -/
theorem j_x {post : Option Value → HM → Prop} {px : String → HM → Prop} (kk : J X B D nL (jQ X B D mc ms post) h k n pc L st) : J X B D nL (jX X B D mc ms post px) h k n pc L st := fun H locs ls hR hS hl => vx_ret (kk H locs ls hR hS hl)
/-- throw new Ex("text"), in a method of ColourParts -/
theorem j_throw (E : JE X "ColourParts" cc nL ws ret B E0 D l v mc ms) (htab : ∀ x ∈ (jx_c X).exceptionTable.toList, False) {post : Option Value → HM → Prop} {px : String → HM → Prop} {cls text : String} {ik is ic : Nat}
    (d0 : decode cc pc = .ok (.new ik, 3)) (d3 : decode cc (pc + 3) = .ok (.dup, 1)) (d4 : decode cc (pc + 4) = .ok (.ldc is, 2)) (d6 : decode cc (pc + 6) = .ok (.invokespecial ic, 3)) (d9 : decode cc (pc + 9) = .ok (.athrow, 1))
    (hcls : Bundle.fit cls = true) (hk0 : Cond.classLink "ColourParts" ik cls ∈ ws) (hini : Cond.initialized cls ∈ ws) (hstr : (is, text) ∈ jstr) (hat : ∀ w ∈ vx_atS "ColourParts" ic cls ["java/lang/RuntimeException", "java/lang/Exception"], w ∈ ws) (hgood : ∀ w ∈ Cond.classLink "ColourParts" ik cls :: Cond.initialized cls :: vx_atS "ColourParts" ic cls ["java/lang/RuntimeException", "java/lang/Exception"], vx_ot w = true)
    (hv : 6 ≤ v) (hcat : (st.map fun x => x.category).sum ≤ 8) (hk : k + 1 ≤ mc) (hs : n + 6 ≤ ms) (hp : px cls h) : J X B D nL (jX X B D mc ms post px) h k n pc L st := by
  intro H locs ls hR hS hl
  have hts := E.2.2.2.2.1
  have hpw := E.2.2.2.2.2.2.2.1
  obtain ⟨sa, hsa⟩ := hpw.1.2.2.2.1 _ hstr
  exact vx_throwS (names := ["java/lang/RuntimeException", "java/lang/Exception"]) (sa := sa) (text := text) E.1 E.2.1 (by rw [E.2.2.2.2.2.2.2.2.2]; exact hpw.1.1) E.2.2.2.1 hcls (by decide) (hts _ hk0) (hts _ hini) hsa (fun w hw => hts _ (hat w hw)) hgood hpw.2.2.2.1 hpw.2.2.2.2 hS (hl.1.trans E.2.2.1.symm) d0 d3 d4 d6 d9 (fun x hx => (htab x hx).elim) (by rw [je_R E]; show 2 + 3 < v; omega) (by rw [je_R E]; show _ + (13 * (2 + 1) + 43) ≤ 64 * v; omega) (by rw [je_R E]; show k + 1 ≤ mc; omega) (by rw [je_R E]; show n + 6 ≤ ms; omega) E.2.2.2.2.2.1 (fun t hal hz hq => ⟨⟨h, hp, (hR.grow hq).moved hal⟩, Nat.le_trans hS.1 hz, fun q h1 h2 => (hq q (Nat.lt_of_lt_of_le h1 hS.1)).trans (hS.2.1 q h1 h2)⟩) hS.2.2 hk hs
end JR
end
