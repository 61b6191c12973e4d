section
/-! ===== BEGIN words of one list among another's, by their places ===== -/
theorem goodIn_r {big : List Cond} (ws : List Cond) (ps : List Nat) (hp : ws = ps.filterMap (fun i => big[i]?)) (h : ws.all goodWord = true) : GoodIn big ws := by
  intro w hw
  have h1 := List.all_eq_true.mp h w hw
  rw [hp] at hw
  obtain ⟨i, -, hi⟩ := List.mem_filterMap.mp hw
  have hm : w ∈ big := by first | exact List.mem_of_getElem? hi | exact List.getElem?_mem hi
  exact ⟨hm, good_of_word h1⟩
theorem goodIn_app {big a b : List Cond} (ha : GoodIn big a) (hb : GoodIn big b) : GoodIn big (a ++ b) := fun w h => (List.mem_append.mp h).elim (ha w) (hb w)
theorem goodIn_ca {big a b : List Cond} {c : Cond} (ha : GoodIn big (c :: a)) (hb : GoodIn big b) : GoodIn big (c :: (a ++ b)) := fun w h => (List.mem_cons.mp h).elim (fun e => ha w (List.mem_cons.mpr (Or.inl e))) (fun h => (List.mem_append.mp h).elim (fun h => ha w (List.mem_cons.mpr (Or.inr h))) (hb w))
theorem goodIn_sub {big ws : List Cond} (hm : ∀ w ∈ ws, w ∈ big) (h : ws.all goodWord = true) : GoodIn big ws := fun w hw => ⟨hm w hw, good_of_word (List.all_eq_true.mp h w hw)⟩
/-! ===== END ===== -/

/-! ===== BEGIN exceptions that leave a method, and their catching by the caller (launches without stack traces) ===== -/
section VXA
/-! The laws vx_back, vx_callV, vx_callS, vx_callSW, vx_throw0, vx_throwS follow proofs of the library, with one case more: JvmDerived/Free/Laws.lean (Back.of_free), Shelf42/LK1.lean (callV, callS), Shelf/KitTraced.lean (throwNew0V, throwNewS). -/
/-- where a method has thrown q: the class by its name, the cell, what was written, the world -/
def vx_T (XC : String → State → State → Prop) (st : State) (q : Addr) (t : State) (mc ms : Nat) (free : Addr → Prop) : Prop :=
  ∃ (E : String) (ce : Cell) (L : List Loc), XC E st t ∧ t.heap[q]? = some ce ∧ ce.vm = .none ∧ st.vm.findClass E = some ce.cls ∧ st.WarmedH t.vm ∧ st.sameButNew ({ t with vm := st.vm } : State) L mc ms ∧ ∀ z ∈ L, free z.base
def vx_Q (Qc : Array Value → State → Outcome → State → Prop) (XC : String → State → State → Prop) (mc ms : Nat) (free : Addr → Prop) : Array Value → State → Outcome → State → Prop := fun a st o t =>
  (Qc a st o t ∧ ∃ L, FrameEnd st o t L mc ms ∧ ∀ q ∈ L, free q.base) ∨ ∃ q, o = .threw q ∧ vx_T XC st q t mc ms free
/-- a callee that returns or throws -/
def vx_Met (l : Launch) (y : MethodName) (ws : List Cond) (rm : Room) (Pc : Array Value → State → Prop) (Qc : Array Value → State → Outcome → State → Prop) (XC : String → State → State → Prop) (mc ms : Nat) (free : Addr → Prop) : Prop :=
  MetFree l y (headSpec ws rm) Pc (fun _ _ _ _ _ => True) (vx_Q Qc XC mc ms free)
def vx_Post (XC : String → State → State → Prop) (mc ms : Nat) (free : Addr → Prop) : Pt → Array Value → Addr → Pt → Prop := fun A a q B =>
  ∃ (g : JFrame) (mk : MethodId) (t : State) (L : List Loc) (E : String) (ce : Cell), B.U.heap = t.heap ∧ B.U.vm = t.vm ∧ XC E (A.U.calling g mk a) t ∧ t.heap[q]? = some ce ∧ ce.vm = .none ∧ A.U.vm.findClass E = some ce.cls ∧ B.locs = A.locs ++ L ∧ (∀ z ∈ L, free z.base) ∧ B.cells = A.cells + mc ∧ B.slots = A.slots + ms
def vx_Back (l : Launch) (R : Room) (p : Program) (e : Env) (below : List Frame) (s : State) (sargs : Array Value) (y : MethodName) (len W9 : Nat)
    (Pre : Pt → Array Value → Prop) (Post : Pt → Array Value → Option Value → Pt → Prop) (PostX : Pt → Array Value → Addr → Pt → Prop) : Prop :=
  ∀ (m : MethodId) (meth : Method) (c : Code) (A : Pt) (g : JFrame) (ig : Instr) (mk : MethodId) (a : Array Value),
    Stand p l e R s m sargs below meth c A.U A.locs A.cells A.slots → g.method = m → g.locals.size = c.maxLocals → decode c.code g.pc = .ok (ig, len) →
    2 * g.monitorRoom + (g.stack.map fun v => v.category).sum ≤ W9 → A.U.methodNamed? y = some mk → Pre A a →
    (∃ (v : Option Value) (B : Pt), Stand p l e R s m sargs below meth c B.U B.locs B.cells B.slots ∧ Post A a v B ∧
      Steps p.tables e below (doInvoke e (A.U.setTop g) [] mk a).1 (B.U.setTop { g with pc := g.pc + len, stack := v.toList ++ g.stack })) ∨
    (∃ (q : Addr) (B : Pt), Stand p l e R s m sargs below meth c B.U B.locs B.cells B.slots ∧ PostX A a q B ∧
      Steps p.tables e below (doInvoke e (A.U.setTop g) [] mk a).1 ((B.U.setTop g).pushFrame (.throwing q)))
section Payer
variable {l : Launch} {R : Room} {p : Program} {e : Env} {below : List Frame} {s : State} {sargs : Array Value} {y : MethodName} {len W9 : Nat}
theorem vx_back {ws : List Cond} {rm : Room} {Pc : Array Value → State → Prop} {Qc : Array Value → State → Outcome → State → Prop} {XC : String → State → State → Prop} {mc ms : Nat} {free : Addr → Prop} {bytes : ByteArray} {maxL : Nat} {ret : Option FieldType}
    (hM : vx_Met l y ws rm Pc Qc XC mc ms free) (hblind : FrameBlind Pc) (hrc : rm.cells = mc) (hrs : rm.slots = ms)
    (hframes : rm.frames + 1 ≤ R.frames) (hlocals : W9 + (maxL + 11) + rm.locals ≤ R.locals)
    (hws : ∀ w ∈ ws, ∀ a' U, s.WarmedH U.vm → w.before a' U = true) (hcode : Cond.code y bytes maxL ret ∈ ws) (hinit : ∀ a' U, s.WarmedH U.vm → (Cond.initialized y.cls).before a' U = true) :
    vx_Back l R p e below s sargs y len W9 (PreOf R mc ms Pc) (PostOf Qc mc ms free) (vx_Post XC mc ms free) := by
  intro m meth c A g ig mk a X hg hsize hdg hW hn hp
  have h1 : (headSpec ws rm).pre.before a A.U = true := atoms_intro fun w hw => hws w hw _ _ X.warmed
  have h2 : (Cond.code y bytes maxL ret).before a A.U = true := hws _ hcode _ _ X.warmed
  have h3 : (Cond.initialized y.cls).before a A.U = true := hinit _ _ X.warmed
  have h4 : A.cells + (headSpec ws rm).room.cells ≤ R.cells := by rw [show (headSpec ws rm).room.cells = mc from hrc]; exact hp.1
  have h5 : A.slots + (headSpec ws rm).room.slots ≤ R.slots := by rw [show (headSpec ws rm).room.slots = ms from hrs]; exact hp.2.1
  have hPc : Pc a (A.U.calling g mk a) := hblind _ _ _ _ hp.2.2
  obtain ⟨U, Ls, c0, s0⟩ := A
  dsimp only [Pt.U, Pt.locs, Pt.cells, Pt.slots] at h1 h2 h3 h4 h5 X hn hPc ⊢
  obtain ⟨methY, cY, hmY, hcY, -, hlY, -, -, -, -⟩ := Cond.code_spec hn h2
  obtain ⟨kY, hkY, -⟩ := className_of_methodNamed hn
  have hinitY : kY.init = .initialized := Cond.initialized_spec (findClass_of_methodNamed hn) hkY h3
  have h : At U g.method c below := by rw [hg]; exact X.here
  have hlocals9 : W9 + (maxL + 11) + (headSpec ws rm).room.locals ≤ R.locals := hlocals
  have happ : (headSpec ws rm).appliesLoose y e.platform (U.calling g mk a) = true :=
    Spec.appliesLoose_calling (g := g) h hdg hn hkY hinitY
      (X.room_calling (g := g) (R' := (headSpec ws rm).room) hsize hmY hcY hframes (by rw [hlY]; omega) h4 h5) h1
  obtain ⟨mid, hmid⟩ := h.above
  have hfr : (U.setTop g).frames = (.java g :: mid) ++ below := by rw [State.frames_setTop' g h.top, hmid]; rfl
  obtain ⟨o, s₂, hsteps, -, hend, hq⟩ := Steps.callFree hM p X.admits X.cas X.clock (acts := []) hfr happ hPc trivial
  have hq' : vx_Q Qc XC mc ms free a (U.calling g mk a) o s₂ := hq
  rw [State.frames_setTop' g h.top] at hend
  obtain ⟨g₀, hg0⟩ := Option.isSome_iff_exists.mp h.top
  obtain ⟨r, hr⟩ := State.topJava?_eq_some.mp hg0
  have hr' : (({ U with heap := s₂.heap, slotsUsed := s₂.slotsUsed } : State).setVm s₂.vm).frames = .java g₀ :: r := hr
  rcases hq' with ⟨hqc, L, hfe, hL⟩ | ⟨q, rfl, E, ce, L, hx, hce, hcv, hcl, hW₂, hsm, hL⟩
  · obtain ⟨⟨v, rfl⟩, hW₂, e2, q2, q3, q4, q5, q6⟩ := id hfe
    have e3 : s₂ = ({ (U.calling g mk a).setFrames s₂.frames with heap := s₂.heap, slotsUsed := s₂.slotsUsed } : State).setVm s₂.vm := by
      have : s₂ = ({ s₂ with vm := (U.calling g mk a).vm } : State).setVm s₂.vm := rfl
      rw [e2] at this
      exact this
    obtain ⟨c₂, i₂, len₂, hc₂, hd₂, hf₂⟩ := hend
    have hW' : U.WarmedH s₂.vm := hW₂
    have hcc : c₂ = c := by
      have h1 : s₂.code? g.method = U.code? g.method := by
        rw [State.code?_eq, State.code?_eq, hW'.alike.method?]
      exact Option.some.inj (hc₂.symm.trans (h1.trans h.code))
    subst hcc
    have hlen : len₂ = len := by rw [hdg] at hd₂; cases hd₂; rfl
    subst hlen
    have hs₂ : s₂ = (({ U with heap := s₂.heap, slotsUsed := s₂.slotsUsed } : State).setVm s₂.vm).setTop { g with pc := g.pc + len₂, stack := v.toList ++ g.stack } := by
      refine e3.trans ?_
      rw [hf₂, State.calling_eq h.top, State.setFrames_setFrames, State.setTop_of_frames _ hr', hr]
      rfl
    have hsame : U.sameButNew ({ U with heap := s₂.heap, slotsUsed := s₂.slotsUsed } : State) L mc ms := by
      refine ⟨?_, q2, q3, q4, q5, q6⟩
      obtain ⟨t, ht, -⟩ := State.frames_cons hr
      show ({ U with heap := s₂.heap, slotsUsed := s₂.slotsUsed } : State) = { U.setFrames U.frames with heap := s₂.heap, slotsUsed := s₂.slotsUsed }
      rw [State.setFrames_self ht]
    subst hg
    refine Or.inl ⟨v, ⟨(({ U with heap := s₂.heap, slotsUsed := s₂.slotsUsed } : State).setVm s₂.vm), Ls ++ L, c0 + mc, s0 + ms⟩,
      ⟨X.admits, X.cas, X.clock, X.frames, X.room, X.hears, X.method, X.code, (X.here.setHeapUsed s₂.heap s₂.slotsUsed).setVm hW'.alike, X.tail, State.WarmedH.trans X.warmed hW', X.limits, X.bytes, X.same.trans (hsame.setVm s.vm)⟩,
      ⟨g, mk, s₂, L, rfl, rfl, hqc, rfl, hL, rfl, rfl⟩, ?_⟩
    show Steps p.tables e below _ ((({ U with heap := s₂.heap, slotsUsed := s₂.slotsUsed } : State).setVm s₂.vm).setTop { g with pc := g.pc + len₂, stack := v.toList ++ g.stack })
    rw [← hs₂]
    exact hsteps
  · obtain ⟨e2, q2, q3, q4, q5, q6⟩ := id hsm
    have e3 : s₂ = ({ (U.calling g mk a).setFrames s₂.frames with heap := s₂.heap, slotsUsed := s₂.slotsUsed } : State).setVm s₂.vm := by
      have : s₂ = ({ s₂ with vm := (U.calling g mk a).vm } : State).setVm s₂.vm := rfl
      rw [e2] at this
      exact this
    have hf₂ : s₂.frames = .throwing q :: .java g :: U.frames.tail := hend
    have hW' : U.WarmedH s₂.vm := hW₂
    have hs₂ : s₂ = ((({ U with heap := s₂.heap, slotsUsed := s₂.slotsUsed } : State).setVm s₂.vm).setTop g).pushFrame (.throwing q) := by
      refine e3.trans ?_
      rw [hf₂, State.calling_eq h.top, State.setFrames_setFrames, State.pushFrame, State.frames_setTop _ hr', State.setTop_of_frames _ hr', State.setFrames_setFrames, hr]
      rfl
    have hsame : U.sameButNew ({ U with heap := s₂.heap, slotsUsed := s₂.slotsUsed } : State) L mc ms := by
      refine ⟨?_, q2, q3, q4, q5, q6⟩
      obtain ⟨t, ht, -⟩ := State.frames_cons hr
      show ({ U with heap := s₂.heap, slotsUsed := s₂.slotsUsed } : State) = { U.setFrames U.frames with heap := s₂.heap, slotsUsed := s₂.slotsUsed }
      rw [State.setFrames_self ht]
    subst hg
    refine Or.inr ⟨q, ⟨(({ U with heap := s₂.heap, slotsUsed := s₂.slotsUsed } : State).setVm s₂.vm), Ls ++ L, c0 + mc, s0 + ms⟩,
      ⟨X.admits, X.cas, X.clock, X.frames, X.room, X.hears, X.method, X.code, (X.here.setHeapUsed s₂.heap s₂.slotsUsed).setVm hW'.alike, X.tail, State.WarmedH.trans X.warmed hW', X.limits, X.bytes, X.same.trans (hsame.setVm s.vm)⟩,
      ⟨g, mk, s₂, L, E, ce, rfl, rfl, hx, hce, hcv, hcl, rfl, hL, rfl, rfl⟩, ?_⟩
    show Steps p.tables e below _ (((({ U with heap := s₂.heap, slotsUsed := s₂.slotsUsed } : State).setVm s₂.vm).setTop g).pushFrame (.throwing q))
    rw [← hs₂]
    exact hsteps
end Payer
section Calls
variable {p : Program} {l : Launch} {e : Env} {R : Room} {s : State} {m : MethodId} {args : Array Value} {below : List Frame} {meth : Method} {c : Code} {T : State} {locs : List Loc} {cells slots : Nat}
theorem vx_callV (X : Stand p l e R s m args below meth c T locs cells slots) (hexec : p.tables.exec = Jvm.exec) {own C : String} {index : Nat} {y : MethodName} {bytes : ByteArray} {maxL : Nat} {ret : Option FieldType}
    (hown : s.vm.findClass own = some m.cls) (hlink : (Cond.methodLink own index y).before args s = true) (hinst : (Cond.instanceMethod y).before args s = true) (hsel : (Cond.selects C y y).before args s = true)
    (hcode : (Cond.code y bytes maxL ret).before args s = true) (hy : y.cls ≠ "java/lang/invoke/MethodHandle" ∧ y.cls ≠ "java/lang/invoke/VarHandle")
    {W9 : Nat} {Pre : Pt → Array Value → Prop} {Post : Pt → Array Value → Option Value → Pt → Prop} {PostX : Pt → Array Value → Addr → Pt → Prop} (hK : vx_Back l R p e below s args y 3 W9 Pre Post PostX)
    {b : Addr} {cellB : Cell} (hcell : T.heap[b]? = some cellB) (hobj : cellB.vm.isStatics = false) (hcls : s.vm.findClass C = some cellB.cls)
    {g : JFrame} (hg : g.method = m) (hsize : g.locals.size = c.maxLocals) {argsL rest : List Value} (hlen : ∀ sig, parseMethodDescriptor y.desc = some sig → argsL.length = sig.parameters.length)
    (hstack : g.stack = argsL.reverse ++ .ref b :: rest) (hW : 2 * g.monitorRoom + (rest.map fun v => v.category).sum ≤ W9) (hdg : decode c.code g.pc = .ok (.invokevirtual index, 3))
    (hpre : ∀ vm₁, s.WarmedH vm₁ → Pre ⟨T.setVm vm₁, locs, cells, slots⟩ (Value.ref b :: argsL).toArray) :
    (∃ (v : Option Value) (vm₁ : Vm) (B : Pt), s.WarmedH vm₁ ∧ Stand p l e R s m args below meth c B.U B.locs B.cells B.slots ∧ Post ⟨T.setVm vm₁, locs, cells, slots⟩ (Value.ref b :: argsL).toArray v B ∧
      ∀ target, Steps p.tables e below (B.U.setTop { g with pc := g.pc + 3, stack := v.toList ++ rest }) target → Steps p.tables e below (T.setTop g) target) ∨
    (∃ (q : Addr) (vm₁ : Vm) (B : Pt), s.WarmedH vm₁ ∧ Stand p l e R s m args below meth c B.U B.locs B.cells B.slots ∧ PostX ⟨T.setVm vm₁, locs, cells, slots⟩ (Value.ref b :: argsL).toArray q B ∧
      Steps p.tables e below (T.setTop g) ((B.U.setTop { g with stack := rest }).pushFrame (.throwing q))) := by
  obtain ⟨mk, methM, hnamed, hmethM, hstM, habM⟩ := Cond.instanceMethod_spec hinst
  obtain ⟨methM', cM, hmethM', -, -, -, -, -, -, hsigM⟩ := Cond.code_spec hnamed hcode
  cases hmethM.symm.trans hmethM'
  obtain ⟨c2, r2, m2, q1, q2, q3, q4, kP, hkP, hkPi⟩ := Cond.selects_spec hsel
  cases hcls.symm.trans q1
  cases (State.methodFound?_of_named hnamed hy).symm.trans q2
  cases hnamed.symm.trans q3
  have hselP : selectMethod e.platform s.vm cellB.cls mk = .method mk := by rw [Launch.admits_selectMethod X.admits]; exact q4
  obtain ⟨vm₁, X₁, hstep₁⟩ := X.invokevirtual hexec hown hlink hnamed hmethM hstM hkP hkPi hy (a := b) (cell := cellB) hcell
    (fun z h => by rw [h] at hobj; cases hobj) hselP hmethM habM hkP hkPi (g := g) hg (argsL := argsL) (rest := rest) (hlen _ hsigM) hstack hdg
  rcases hK m meth c ⟨T.setVm vm₁, locs, cells, slots⟩ { g with stack := rest } (.invokevirtual index) mk (Value.ref b :: argsL).toArray X₁ hg hsize hdg hW (X₁.named hnamed) (hpre vm₁ X₁.warmed) with ⟨v, B, X', hpost, hsteps⟩ | ⟨q, B, X', hpost, hsteps⟩
  · exact Or.inl ⟨v, vm₁, B, X₁.warmed, X', hpost, fun target h => hstep₁ _ fun acts => by rw [doInvoke_state]; exact hsteps.trans h⟩
  · exact Or.inr ⟨q, vm₁, B, X₁.warmed, X', hpost, hstep₁ _ fun acts => by rw [doInvoke_state]; exact hsteps⟩
theorem vx_callS (X : Stand p l e R s m args below meth c T locs cells slots) (hexec : p.tables.exec = Jvm.exec) {own : String} {index : Nat} {y : MethodName} {bytes : ByteArray} {maxL : Nat} {ret : Option FieldType}
    (hown : s.vm.findClass own = some m.cls) (hlink : (Cond.methodLink own index y).before args s = true) (hstat : (Cond.static y).before args s = true) (hinit : (Cond.initialized y.cls).before args s = true)
    (hcode : (Cond.code y bytes maxL ret).before args s = true) (hy : y.cls ≠ "java/lang/invoke/MethodHandle" ∧ y.cls ≠ "java/lang/invoke/VarHandle")
    {W9 : Nat} {Pre : Pt → Array Value → Prop} {Post : Pt → Array Value → Option Value → Pt → Prop} {PostX : Pt → Array Value → Addr → Pt → Prop} (hK : vx_Back l R p e below s args y 3 W9 Pre Post PostX)
    {g : JFrame} (hg : g.method = m) (hsize : g.locals.size = c.maxLocals) {argsL rest : List Value} (hlen : ∀ sig, parseMethodDescriptor y.desc = some sig → argsL.length = sig.parameters.length)
    (hstack : g.stack = argsL.reverse ++ rest) (hW : 2 * g.monitorRoom + (rest.map fun v => v.category).sum ≤ W9) (hdg : decode c.code g.pc = .ok (.invokestatic index, 3))
    (hpre : ∀ vm₁, s.WarmedH vm₁ → Pre ⟨T.setVm vm₁, locs, cells, slots⟩ argsL.toArray) :
    (∃ (v : Option Value) (vm₁ : Vm) (B : Pt), s.WarmedH vm₁ ∧ Stand p l e R s m args below meth c B.U B.locs B.cells B.slots ∧ Post ⟨T.setVm vm₁, locs, cells, slots⟩ argsL.toArray v B ∧
      ∀ target, Steps p.tables e below (B.U.setTop { g with pc := g.pc + 3, stack := v.toList ++ rest }) target → Steps p.tables e below (T.setTop g) target) ∨
    (∃ (q : Addr) (vm₁ : Vm) (B : Pt), s.WarmedH vm₁ ∧ Stand p l e R s m args below meth c B.U B.locs B.cells B.slots ∧ PostX ⟨T.setVm vm₁, locs, cells, slots⟩ argsL.toArray q B ∧
      Steps p.tables e below (T.setTop g) ((B.U.setTop { g with stack := rest }).pushFrame (.throwing q))) := by
  obtain ⟨mk, hnamed⟩ := Cond.code_named hcode
  obtain ⟨methM, cM, hmethM, -, -, -, -, -, -, hsigM⟩ := Cond.code_spec hnamed hcode
  have hstatic : methM.isStatic = true := Cond.static_spec hnamed hmethM hstat
  obtain ⟨kP, hkP, -⟩ := className_of_methodNamed hnamed
  have hinitP : kP.init = .initialized := Cond.initialized_spec (findClass_of_methodNamed hnamed) hkP hinit
  obtain ⟨vm₁, X₁, hstep₁⟩ := X.invokestatic hexec hown hlink hnamed hmethM hstatic hkP hinitP hy (g := g) hg (argsL := argsL) (rest := rest) (hlen _ hsigM) hstack hdg
  rcases hK m meth c ⟨T.setVm vm₁, locs, cells, slots⟩ { g with stack := rest } (.invokestatic index) mk argsL.toArray X₁ hg hsize hdg hW (X₁.named hnamed) (hpre vm₁ X₁.warmed) with ⟨v, B, X', hpost, hsteps⟩ | ⟨q, B, X', hpost, hsteps⟩
  · exact Or.inl ⟨v, vm₁, B, X₁.warmed, X', hpost, fun target h => hstep₁ _ fun acts => by rw [doInvoke_state]; exact hsteps.trans h⟩
  · exact Or.inr ⟨q, vm₁, B, X₁.warmed, X', hpost, hstep₁ _ fun acts => by rw [doInvoke_state]; exact hsteps⟩
end Calls
theorem vx_cls {s : State} {T : State} {vm₁ : Vm} {E : String} {k : ClassId} (hW : s.WarmedH vm₁) (h : (T.setVm vm₁).vm.findClass E = some k) : s.vm.findClass E = some k := by
  have h1 : vm₁.findClass E = some k := h
  rw [hW.alike.findClass] at h1
  exact h1
/-- the method's frame g, with q thrown over it -/
def vx_W (p : Program) (l : Launch) (e : Env) (R : Room) (s : State) (m : MethodId) (args : Array Value) (below : List Frame) (meth : Method) (c : Code) (H : Heap) (locs : List Loc) (cells slots : Nat) (Q : State → Prop) (g : JFrame) (q : Addr) : Prop :=
  ∀ T : State, T.heap = H → Stand p l e R s m args below meth c T locs cells slots → ∃ t, Steps p.tables e below ((T.setTop g).pushFrame (.throwing q)) t ∧ Q t
def vx_Run (p : Program) (l : Launch) (e : Env) (R : Room) (s : State) (m : MethodId) (args : Array Value) (below : List Frame) (meth : Method) (c : Code) (H : Heap) (locs : List Loc) (cells slots mc ms : Nat) (g : JFrame) (rest : List Value) (Qa : State → Outcome → State → Prop) (XC : String → State → State → Prop) (free : Addr → Prop) : Prop :=
  ∀ T : State, T.heap = H → Stand p l e R s m args below meth c T locs cells slots →
    (∃ (v : Option Value) (st₀ t T' : State) (L : List Loc), st₀.heap = H ∧ Stand p l e R s m args below meth c T' (locs ++ L) (cells + mc) (slots + ms) ∧ (∀ q ∈ L, free q.base) ∧ T'.heap = t.heap ∧ T'.vm = t.vm ∧ Qa st₀ (.returned v) t ∧
      Goes p e below T g T' { g with pc := g.pc + 3, stack := v.toList ++ rest }) ∨
    (∃ (q : Addr) (st₀ t T' : State) (L : List Loc) (E : String) (ce : Cell), st₀.heap = H ∧ Stand p l e R s m args below meth c T' (locs ++ L) (cells + mc) (slots + ms) ∧ (∀ z ∈ L, free z.base) ∧ T'.heap = t.heap ∧ T'.vm = t.vm ∧ XC E st₀ t ∧ t.heap[q]? = some ce ∧ ce.vm = .none ∧ s.vm.findClass E = some ce.cls ∧
      Steps p.tables e below (T.setTop g) ((T'.setTop { g with stack := rest }).pushFrame (.throwing q)))
def vx_X {S : Type} (px : S → Prop) (B : String → S → State → Prop) (A : Nat → Prop) : String → State → State → Prop := fun E st t => ∃ u : S, px u ∧ B E u t ∧ va_F A st t
section Runs
variable {p : Program} {l : Launch} {e : Env} {R : Room} {s : State} {m : MethodId} {args : Array Value} {below : List Frame} {meth : Method} {c : Code} {H : Heap} {locs : List Loc} {cells slots : Nat}
variable {y : MethodName} {bytes cc : ByteArray} {maxL nL mc ms n index : Nat} {ret : Option FieldType} {ws : List Cond} {rm : Room} {Pc : Array Value → State → Prop} {Qc : Array Value → State → Outcome → State → Prop} {XC : String → State → State → Prop} {free : Addr → Prop} {Ts : List Cond} {own C : String} {b : Addr} {As rest : List Value} {g : JFrame}
theorem vx_callBack (cb : CallB R s args own index y bytes maxL ret ws rm mc ms n) (hM : vx_Met l y ws rm Pc Qc XC mc ms free) (hbl : FrameBlind Pc) : vx_Back l R p e below s args y 3 8 (PreOf R mc ms Pc) (PostOf Qc mc ms free) (vx_Post XC mc ms free) := by
  obtain ⟨hrc, hrs, hfr, hlo, hws, hcw, -, hini, -⟩ := cb
  exact vx_back (bytes := bytes) (maxL := maxL) (ret := ret) hM hbl hrc hrs hfr hlo hws hcw (fun a' U hW => word_at hW (Or.inl (by first | rfl | simp [Cond.onTables, Cond.keeps, Cond.steady])) hini)
theorem vx_runV (S : CallFix p m c cc nL s args Ts own) (hM : vx_Met l y ws rm Pc Qc XC mc ms free) (cw : CallW R s args own C index y bytes maxL ret ws rm mc ms n) (hp : PreV s H C b Pc As)
    (hg : g.method = m) (hn : As.length = n) (hsize : g.locals.size = nL) (hstack : g.stack = As.reverse ++ .ref b :: rest) (hW : 2 * g.monitorRoom + (rest.map fun v => v.category).sum ≤ 8) (hdg : decode cc g.pc = .ok (.invokevirtual index, 3)) (hf : cells + mc ≤ R.cells ∧ slots + ms ≤ R.slots) :
    vx_Run p l e R s m args below meth c H locs cells slots mc ms g rest (Qc (Value.ref b :: As).toArray) XC free := by
  have hK : vx_Back l R p e below s args y 3 8 (PreOf R mc ms Pc) (PostOf Qc mc ms free) (vx_Post XC mc ms free) := vx_callBack cw.1 hM hp.1
  obtain ⟨⟨-, -, -, -, -, -, hcode, -, hy, hlen, hl⟩, hin, hse⟩ := cw
  obtain ⟨hx, hb, hml, ho, -⟩ := S
  obtain ⟨-, ⟨cellB, hcB, hoB, hclB⟩, hPc⟩ := hp
  intro T hT X
  rcases vx_callV X hx (C := C) (bytes := bytes) (maxL := maxL) (ret := ret) ho hl hin hse hcode hy hK (by rw [hT]; exact hcB) hoB hclB hg (hsize.trans hml.symm) (argsL := As) (rest := rest) (fun sig h => hn.trans (hlen sig h)) hstack hW (by rw [hb]; exact hdg)
    (fun vm₁ hW₁ => ⟨hf.1, hf.2, hPc (T.setVm vm₁) hT hW₁⟩) with ⟨v, vm₁, ⟨U', l2, c2, s2⟩, hW₁, X', ⟨g', mk, t, L, e1, e2, hq, h1, hL, h2, h3⟩, st⟩ | ⟨q, vm₁, ⟨U', l2, c2, s2⟩, hW₁, X', ⟨g', mk, t, L, E, ce, e1, e2, hq, hce, hcv, hcl, h1, hL, h2, h3⟩, st⟩
  · dsimp only [Pt.U, Pt.locs, Pt.cells, Pt.slots] at X' e1 e2 h1 h2 h3 st
    subst h1; subst h2; subst h3
    exact Or.inl ⟨v, (T.setVm vm₁).calling g' mk (Value.ref b :: As).toArray, t, U', L, hT, X', hL, e1, e2, hq, st⟩
  · dsimp only [Pt.U, Pt.locs, Pt.cells, Pt.slots] at X' e1 e2 h1 h2 h3 st hcl
    subst h1; subst h2; subst h3
    exact Or.inr ⟨q, (T.setVm vm₁).calling g' mk (Value.ref b :: As).toArray, t, U', L, E, ce, hT, X', hL, e1, e2, hq, hce, hcv, vx_cls hW₁ hcl, st⟩
theorem vx_runS (S : CallFix p m c cc nL s args Ts own) (hM : vx_Met l y ws rm Pc Qc XC mc ms free) (cw : CallB R s args own index y bytes maxL ret ws rm mc ms n ∧ (Cond.static y).before args s = true) (hp : PreS s H Pc As)
    (hg : g.method = m) (hn : As.length = n) (hsize : g.locals.size = nL) (hstack : g.stack = As.reverse ++ rest) (hW : 2 * g.monitorRoom + (rest.map fun v => v.category).sum ≤ 8) (hdg : decode cc g.pc = .ok (.invokestatic index, 3)) (hf : cells + mc ≤ R.cells ∧ slots + ms ≤ R.slots) :
    vx_Run p l e R s m args below meth c H locs cells slots mc ms g rest (Qc As.toArray) XC free := by
  have hK : vx_Back l R p e below s args y 3 8 (PreOf R mc ms Pc) (PostOf Qc mc ms free) (vx_Post XC mc ms free) := vx_callBack cw.1 hM hp.1
  obtain ⟨⟨-, -, -, -, -, -, hcode, hini, hy, hlen, hl⟩, hstt⟩ := cw
  obtain ⟨hx, hb, hml, ho, -⟩ := S
  intro T hT X
  rcases vx_callS X hx (bytes := bytes) (maxL := maxL) (ret := ret) ho hl hstt hini hcode hy hK hg (hsize.trans hml.symm) (argsL := As) (rest := rest) (fun sig h => hn.trans (hlen sig h)) hstack hW (by rw [hb]; exact hdg)
    (fun vm₁ hW₁ => ⟨hf.1, hf.2, hp.2 (T.setVm vm₁) hT hW₁⟩) with ⟨v, vm₁, ⟨U', l2, c2, s2⟩, hW₁, X', ⟨g', mk, t, L, e1, e2, hq, h1, hL, h2, h3⟩, st⟩ | ⟨q, vm₁, ⟨U', l2, c2, s2⟩, hW₁, X', ⟨g', mk, t, L, E, ce, e1, e2, hq, hce, hcv, hcl, h1, hL, h2, h3⟩, st⟩
  · dsimp only [Pt.U, Pt.locs, Pt.cells, Pt.slots] at X' e1 e2 h1 h2 h3 st
    subst h1; subst h2; subst h3
    exact Or.inl ⟨v, (T.setVm vm₁).calling g' mk As.toArray, t, U', L, hT, X', hL, e1, e2, hq, st⟩
  · dsimp only [Pt.U, Pt.locs, Pt.cells, Pt.slots] at X' e1 e2 h1 h2 h3 st hcl
    subst h1; subst h2; subst h3
    exact Or.inr ⟨q, (T.setVm vm₁).calling g' mk As.toArray, t, U', L, E, ce, hT, X', hL, e1, e2, hq, hce, hcv, vx_cls hW₁ hcl, st⟩
end Runs
section Rows
variable {p : Program} {l : Launch} {e : Env} {R : Room} {s : State} {m : MethodId} {args : Array Value} {below : List Frame} {meth : Method} {c : Code} {H : Heap} {locs : List Loc} {cells slots : Nat} {Q : State → Prop}
variable {mc ms : Nat} {free : Addr → Prop} {A0 A1 : Nat → Prop} {H0 : Heap} {a : Array Value} {pc : Nat} {ls : Array Slot} {st0 rest : List Value}
theorem vx_keep {st₀ t T' : State} {L : List Loc} (h0 : st₀.heap = H) (e1 : T'.heap = t.heap) (hS : va_S A0 H0 H locs) (hA : ∀ q, q < H.size → A1 q → A0 q) (hf : ∀ q, free q → A0 q) (hL : ∀ q ∈ L, free q.base) (hF : va_F A1 st₀ t) :
    H.size ≤ T'.heap.size ∧ (∀ q : Nat, q < H.size → ¬ A1 q → T'.heap[q]? = H[q]?) ∧ va_S A0 H0 T'.heap (locs ++ L) := by
  obtain ⟨hz, hk⟩ := hF
  rw [h0] at hz hk
  exact ⟨by rw [e1]; exact hz, fun q h1 h2 => by rw [e1]; exact hk q h1 h2,
    ⟨Nat.le_trans hS.1 (by rw [e1]; exact hz), fun q h1 h2 => by rw [e1, hk q (Nat.lt_of_lt_of_le h1 hS.1) (fun z => h2 (hA q (Nat.lt_of_lt_of_le h1 hS.1) z))]; exact hS.2.1 q h1 h2, fun q hq => by
      rcases List.mem_append.mp hq with h | h
      · exact hS.2.2 q h
      · exact hf _ (hL q h)⟩⟩
theorem vx_calli {S SX : Type} {post : Int32 → S → Prop} {px : SX → Prop} {B : S → State → Prop} {BX : String → SX → State → Prop} {AX : Nat → Prop} (hr : vx_Run p l e R s m args below meth c H locs cells slots mc ms (F0 m pc ls st0) rest (va_Qi post B A1 a) (vx_X px BX AX) free) (hS : va_S A0 H0 H locs) (hA : ∀ q, q < H.size → A1 q → A0 q) (hf : ∀ q, free q → A0 q) (hAX : ∀ q, q < H.size → AX q → A0 q)
    (kx : ∀ (E : String) (ce : Cell) (q9 : Addr) (u : SX) (t : State) (H1 : Heap) (locs1 : List Loc), t.heap = H1 → s.vm.Alike t.vm → px u → BX E u t → H.size ≤ H1.size → (∀ q : Nat, q < H.size → ¬ AX q → H1[q]? = H[q]?) → va_S A0 H0 H1 locs1 → H1[q9]? = some ce → ce.vm = .none → s.vm.findClass E = some ce.cls → vx_W p l e R s m args below meth c H1 locs1 (cells + mc) (slots + ms) Q (F0 m pc ls rest) q9)
    (kk : ∀ (r : Int32) (u : S) (t : State) (H1 : Heap) (locs1 : List Loc), t.heap = H1 → s.vm.Alike t.vm → post r u → B u t → H.size ≤ H1.size → (∀ q : Nat, q < H.size → ¬ A1 q → H1[q]? = H[q]?) → va_S A0 H0 H1 locs1 → W p l e R s m args below meth c H1 locs1 (cells + mc) (slots + ms) Q (F0 m (pc + 3) ls (.int r :: rest))) : W p l e R s m args below meth c H locs cells slots Q (F0 m pc ls st0) := by
  intro T hT X
  rcases hr T hT X with ⟨v, st₀, t, T', L, h0, X', hL, e1, e2, ⟨⟨r, u, hv, hp, hb⟩, hF⟩, st⟩ | ⟨q, st₀, t, T', L, E, ce, h0, X', hL, e1, e2, ⟨u, hp, hb, hF⟩, hce, hcv, hcl, st⟩
  · cases hv
    obtain ⟨k1, k2, k3⟩ := vx_keep h0 e1 hS hA hf hL hF
    obtain ⟨t2, a1, b1⟩ := kk r u t T'.heap (locs ++ L) e1.symm (by rw [← e2]; exact X'.warmed.alike) hp hb k1 k2 k3 T' rfl X'
    exact ⟨t2, st t2 a1, b1⟩
  · obtain ⟨k1, k2, k3⟩ := vx_keep h0 e1 hS hAX hf hL hF
    obtain ⟨t2, a1, b1⟩ := kx E ce q u t T'.heap (locs ++ L) e1.symm (by rw [← e2]; exact X'.warmed.alike) hp hb k1 k2 k3 (by rw [e1]; exact hce) hcv hcl T' rfl X'
    exact ⟨t2, st.trans a1, b1⟩
theorem vx_calll {S SX : Type} {post : Int64 → S → Prop} {px : SX → Prop} {B : S → State → Prop} {BX : String → SX → State → Prop} {AX : Nat → Prop} (hr : vx_Run p l e R s m args below meth c H locs cells slots mc ms (F0 m pc ls st0) rest (va_Ql post B A1 a) (vx_X px BX AX) free) (hS : va_S A0 H0 H locs) (hA : ∀ q, q < H.size → A1 q → A0 q) (hf : ∀ q, free q → A0 q) (hAX : ∀ q, q < H.size → AX q → A0 q)
    (kx : ∀ (E : String) (ce : Cell) (q9 : Addr) (u : SX) (t : State) (H1 : Heap) (locs1 : List Loc), t.heap = H1 → s.vm.Alike t.vm → px u → BX E u t → H.size ≤ H1.size → (∀ q : Nat, q < H.size → ¬ AX q → H1[q]? = H[q]?) → va_S A0 H0 H1 locs1 → H1[q9]? = some ce → ce.vm = .none → s.vm.findClass E = some ce.cls → vx_W p l e R s m args below meth c H1 locs1 (cells + mc) (slots + ms) Q (F0 m pc ls rest) q9)
    (kk : ∀ (r : Int64) (u : S) (t : State) (H1 : Heap) (locs1 : List Loc), t.heap = H1 → s.vm.Alike t.vm → post r u → B u t → H.size ≤ H1.size → (∀ q : Nat, q < H.size → ¬ A1 q → H1[q]? = H[q]?) → va_S A0 H0 H1 locs1 → W p l e R s m args below meth c H1 locs1 (cells + mc) (slots + ms) Q (F0 m (pc + 3) ls (.long r :: rest))) : W p l e R s m args below meth c H locs cells slots Q (F0 m pc ls st0) := by
  intro T hT X
  rcases hr T hT X with ⟨v, st₀, t, T', L, h0, X', hL, e1, e2, ⟨⟨r, u, hv, hp, hb⟩, hF⟩, st⟩ | ⟨q, st₀, t, T', L, E, ce, h0, X', hL, e1, e2, ⟨u, hp, hb, hF⟩, hce, hcv, hcl, st⟩
  · cases hv
    obtain ⟨k1, k2, k3⟩ := vx_keep h0 e1 hS hA hf hL hF
    obtain ⟨t2, a1, b1⟩ := kk r u t T'.heap (locs ++ L) e1.symm (by rw [← e2]; exact X'.warmed.alike) hp hb k1 k2 k3 T' rfl X'
    exact ⟨t2, st t2 a1, b1⟩
  · obtain ⟨k1, k2, k3⟩ := vx_keep h0 e1 hS hAX hf hL hF
    obtain ⟨t2, a1, b1⟩ := kx E ce q u t T'.heap (locs ++ L) e1.symm (by rw [← e2]; exact X'.warmed.alike) hp hb k1 k2 k3 (by rw [e1]; exact hce) hcv hcl T' rfl X'
    exact ⟨t2, st.trans a1, b1⟩
theorem vx_callf {S SX : Type} {post : UInt32 → S → Prop} {px : SX → Prop} {B : S → State → Prop} {BX : String → SX → State → Prop} {AX : Nat → Prop} (hr : vx_Run p l e R s m args below meth c H locs cells slots mc ms (F0 m pc ls st0) rest (va_Qf post B A1 a) (vx_X px BX AX) free) (hS : va_S A0 H0 H locs) (hA : ∀ q, q < H.size → A1 q → A0 q) (hf : ∀ q, free q → A0 q) (hAX : ∀ q, q < H.size → AX q → A0 q)
    (kx : ∀ (E : String) (ce : Cell) (q9 : Addr) (u : SX) (t : State) (H1 : Heap) (locs1 : List Loc), t.heap = H1 → s.vm.Alike t.vm → px u → BX E u t → H.size ≤ H1.size → (∀ q : Nat, q < H.size → ¬ AX q → H1[q]? = H[q]?) → va_S A0 H0 H1 locs1 → H1[q9]? = some ce → ce.vm = .none → s.vm.findClass E = some ce.cls → vx_W p l e R s m args below meth c H1 locs1 (cells + mc) (slots + ms) Q (F0 m pc ls rest) q9)
    (kk : ∀ (r : UInt32) (u : S) (t : State) (H1 : Heap) (locs1 : List Loc), t.heap = H1 → s.vm.Alike t.vm → post r u → B u t → H.size ≤ H1.size → (∀ q : Nat, q < H.size → ¬ A1 q → H1[q]? = H[q]?) → va_S A0 H0 H1 locs1 → W p l e R s m args below meth c H1 locs1 (cells + mc) (slots + ms) Q (F0 m (pc + 3) ls (.float r :: rest))) : W p l e R s m args below meth c H locs cells slots Q (F0 m pc ls st0) := by
  intro T hT X
  rcases hr T hT X with ⟨v, st₀, t, T', L, h0, X', hL, e1, e2, ⟨⟨r, u, hv, hp, hb⟩, hF⟩, st⟩ | ⟨q, st₀, t, T', L, E, ce, h0, X', hL, e1, e2, ⟨u, hp, hb, hF⟩, hce, hcv, hcl, st⟩
  · cases hv
    obtain ⟨k1, k2, k3⟩ := vx_keep h0 e1 hS hA hf hL hF
    obtain ⟨t2, a1, b1⟩ := kk r u t T'.heap (locs ++ L) e1.symm (by rw [← e2]; exact X'.warmed.alike) hp hb k1 k2 k3 T' rfl X'
    exact ⟨t2, st t2 a1, b1⟩
  · obtain ⟨k1, k2, k3⟩ := vx_keep h0 e1 hS hAX hf hL hF
    obtain ⟨t2, a1, b1⟩ := kx E ce q u t T'.heap (locs ++ L) e1.symm (by rw [← e2]; exact X'.warmed.alike) hp hb k1 k2 k3 (by rw [e1]; exact hce) hcv hcl T' rfl X'
    exact ⟨t2, st.trans a1, b1⟩
theorem vx_calld {S SX : Type} {post : UInt64 → S → Prop} {px : SX → Prop} {B : S → State → Prop} {BX : String → SX → State → Prop} {AX : Nat → Prop} (hr : vx_Run p l e R s m args below meth c H locs cells slots mc ms (F0 m pc ls st0) rest (va_Qd post B A1 a) (vx_X px BX AX) free) (hS : va_S A0 H0 H locs) (hA : ∀ q, q < H.size → A1 q → A0 q) (hf : ∀ q, free q → A0 q) (hAX : ∀ q, q < H.size → AX q → A0 q)
    (kx : ∀ (E : String) (ce : Cell) (q9 : Addr) (u : SX) (t : State) (H1 : Heap) (locs1 : List Loc), t.heap = H1 → s.vm.Alike t.vm → px u → BX E u t → H.size ≤ H1.size → (∀ q : Nat, q < H.size → ¬ AX q → H1[q]? = H[q]?) → va_S A0 H0 H1 locs1 → H1[q9]? = some ce → ce.vm = .none → s.vm.findClass E = some ce.cls → vx_W p l e R s m args below meth c H1 locs1 (cells + mc) (slots + ms) Q (F0 m pc ls rest) q9)
    (kk : ∀ (r : UInt64) (u : S) (t : State) (H1 : Heap) (locs1 : List Loc), t.heap = H1 → s.vm.Alike t.vm → post r u → B u t → H.size ≤ H1.size → (∀ q : Nat, q < H.size → ¬ A1 q → H1[q]? = H[q]?) → va_S A0 H0 H1 locs1 → W p l e R s m args below meth c H1 locs1 (cells + mc) (slots + ms) Q (F0 m (pc + 3) ls (.double r :: rest))) : W p l e R s m args below meth c H locs cells slots Q (F0 m pc ls st0) := by
  intro T hT X
  rcases hr T hT X with ⟨v, st₀, t, T', L, h0, X', hL, e1, e2, ⟨⟨r, u, hv, hp, hb⟩, hF⟩, st⟩ | ⟨q, st₀, t, T', L, E, ce, h0, X', hL, e1, e2, ⟨u, hp, hb, hF⟩, hce, hcv, hcl, st⟩
  · cases hv
    obtain ⟨k1, k2, k3⟩ := vx_keep h0 e1 hS hA hf hL hF
    obtain ⟨t2, a1, b1⟩ := kk r u t T'.heap (locs ++ L) e1.symm (by rw [← e2]; exact X'.warmed.alike) hp hb k1 k2 k3 T' rfl X'
    exact ⟨t2, st t2 a1, b1⟩
  · obtain ⟨k1, k2, k3⟩ := vx_keep h0 e1 hS hAX hf hL hF
    obtain ⟨t2, a1, b1⟩ := kx E ce q u t T'.heap (locs ++ L) e1.symm (by rw [← e2]; exact X'.warmed.alike) hp hb k1 k2 k3 (by rw [e1]; exact hce) hcv hcl T' rfl X'
    exact ⟨t2, st.trans a1, b1⟩
theorem vx_callv {S SX : Type} {post : S → Prop} {px : SX → Prop} {B : S → State → Prop} {BX : String → SX → State → Prop} {AX : Nat → Prop} (hr : vx_Run p l e R s m args below meth c H locs cells slots mc ms (F0 m pc ls st0) rest (va_Qv post B A1 a) (vx_X px BX AX) free) (hS : va_S A0 H0 H locs) (hA : ∀ q, q < H.size → A1 q → A0 q) (hf : ∀ q, free q → A0 q) (hAX : ∀ q, q < H.size → AX q → A0 q)
    (kx : ∀ (E : String) (ce : Cell) (q9 : Addr) (u : SX) (t : State) (H1 : Heap) (locs1 : List Loc), t.heap = H1 → s.vm.Alike t.vm → px u → BX E u t → H.size ≤ H1.size → (∀ q : Nat, q < H.size → ¬ AX q → H1[q]? = H[q]?) → va_S A0 H0 H1 locs1 → H1[q9]? = some ce → ce.vm = .none → s.vm.findClass E = some ce.cls → vx_W p l e R s m args below meth c H1 locs1 (cells + mc) (slots + ms) Q (F0 m pc ls rest) q9)
    (kk : ∀ (u : S) (t : State) (H1 : Heap) (locs1 : List Loc), t.heap = H1 → s.vm.Alike t.vm → post u → B u t → H.size ≤ H1.size → (∀ q : Nat, q < H.size → ¬ A1 q → H1[q]? = H[q]?) → va_S A0 H0 H1 locs1 → W p l e R s m args below meth c H1 locs1 (cells + mc) (slots + ms) Q (F0 m (pc + 3) ls (rest))) : W p l e R s m args below meth c H locs cells slots Q (F0 m pc ls st0) := by
  intro T hT X
  rcases hr T hT X with ⟨v, st₀, t, T', L, h0, X', hL, e1, e2, ⟨⟨u, hv, hp, hb⟩, hF⟩, st⟩ | ⟨q, st₀, t, T', L, E, ce, h0, X', hL, e1, e2, ⟨u, hp, hb, hF⟩, hce, hcv, hcl, st⟩
  · cases hv
    obtain ⟨k1, k2, k3⟩ := vx_keep h0 e1 hS hA hf hL hF
    obtain ⟨t2, a1, b1⟩ := kk u t T'.heap (locs ++ L) e1.symm (by rw [← e2]; exact X'.warmed.alike) hp hb k1 k2 k3 T' rfl X'
    exact ⟨t2, st t2 a1, b1⟩
  · obtain ⟨k1, k2, k3⟩ := vx_keep h0 e1 hS hAX hf hL hF
    obtain ⟨t2, a1, b1⟩ := kx E ce q u t T'.heap (locs ++ L) e1.symm (by rw [← e2]; exact X'.warmed.alike) hp hb k1 k2 k3 (by rw [e1]; exact hce) hcv hcl T' rfl X'
    exact ⟨t2, st.trans a1, b1⟩
/-- caught by the row x of this method's table; the rows ahead don't take it -/
theorem vx_catch {own name : String} {E : String} {ce : Cell} {q : Addr} (hown : s.vm.findClass own = some m.cls) (pre : List ExceptionTableEntry) (x : ExceptionTableEntry) (suf : List ExceptionTableEntry) (hsplit : c.exceptionTable.toList = pre ++ x :: suf)
    (hpass : ∀ z ∈ pre, covers z pc = false ∨ (z.catchType ≠ 0 ∧ ∃ nm : String, (Cond.classLink own z.catchType nm).before args s = true ∧ va_Nc E nm s)) (hx : covers x pc = true) (h0 : x.catchType ≠ 0)
    (hlink : (Cond.classLink own x.catchType name).before args s = true) (hcast : (Cond.castable E name).before args s = true) (hcell : H[q]? = some ce) (hv : ce.vm = .none) (hcl : s.vm.findClass E = some ce.cls)
    (kk : W p l e R s m args below meth c H locs cells slots Q (F0 m x.handlerPc ls [.ref q])) : vx_W p l e R s m args below meth c H locs cells slots Q (F0 m pc ls rest) q := by
  intro T hT X
  have hpl : e.platform.magicAccessors = ({} : Platform).magicAccessors := by rw [X.admits.platform]
  obtain ⟨c3, c4, hc3, hc4, hasg⟩ := Cond.castable_spec hcast
  cases Option.some.inj (hc3.symm.trans hcl)
  obtain ⟨c5, hc5, hcl5⟩ := Cond.classLink_spec hown hlink e.platform hpl
  cases Option.some.inj (hc4.symm.trans hc5)
  obtain ⟨vm', X', st⟩ := X.thenCaughtThrough q (g := F0 m pc ls rest) rfl (Steps.refl _) (by rw [hT]; exact hcell) (by rw [hv]; rfl) (by obtain ⟨k9, h9, -⟩ := Vm.findClass_spec hcl; exact ⟨k9, h9⟩) pre x suf hsplit
    (fun z hz => by
      rcases hpass z hz with h | ⟨hz0, nm, hl1, hn1⟩
      · exact Or.inl h
      · obtain ⟨c6, hc6, hcl6⟩ := Cond.classLink_spec hown hl1 e.platform hpl
        obtain ⟨a8, b8, h1, h2, h3⟩ := hn1
        cases Option.some.inj (h1.symm.trans hcl)
        cases Option.some.inj (h2.symm.trans hc6)
        exact Or.inr ⟨hz0, _, hcl6, h3⟩) hx (Or.inr ⟨h0, c4, hcl5, hasg⟩)
  obtain ⟨t, a1, b1⟩ := kk (T.setVm vm') hT X'
  exact ⟨t, st.trans a1, b1⟩
end Rows
section Ends
variable {p : Program} {l : Launch} {e : Env} {R : Room} {s : State} {m : MethodId} {args : Array Value} {below : List Frame} {meth : Method} {c : Code} {H : Heap} {locs : List Loc} {cells slots : Nat} {Q : State → Prop}
variable {mc ms : Nat} {free : Addr → Prop} {A0 A1 : Nat → Prop} {H0 : Heap} {a : Array Value} {ls : Array Slot} {st0 rest : List Value}
variable {Qc : Array Value → State → Outcome → State → Prop} {XC : String → State → State → Prop}
/-- what a body that may throw owes at its end -/
def vx_MQ (below : List Frame) (Qc : Array Value → State → Outcome → State → Prop) (XC : String → State → State → Prop) (a : Array Value) (s : State) (mc ms : Nat) (free : Addr → Prop) : State → Prop := fun t =>
  ∃ o, t.status = .running ∧ Ended t below o ∧ vx_Q Qc XC mc ms free a s o t
theorem vx_ret {g : JFrame} {mc ms : Nat} (k : W p l e R s m args below meth c H locs cells slots (MQ below Qc args s mc ms free) g) : W p l e R s m args below meth c H locs cells slots (vx_MQ below Qc XC args s mc ms free) g := by
  intro T hT X
  obtain ⟨t, a1, o, b1, b2, b3, b4⟩ := k T hT X
  exact ⟨t, a1, o, b1, b2, Or.inl ⟨b3, b4⟩⟩
/-- not caught here: it goes on to the caller -/
theorem vx_widen {g : JFrame} {q : Addr} {k n : Nat} (h1 : cells ≤ k) (h2 : slots ≤ n) (kk : vx_W p l e R s m args below meth c H locs k n Q g q) : vx_W p l e R s m args below meth c H locs cells slots Q g q := fun T hT X => kk T hT (stand_widen X h1 h2)
theorem vx_out {pc : Nat} {E : String} {ce : Cell} {q : Addr} {mc ms : Nat} (hout : ∀ x ∈ c.exceptionTable.toList, covers x pc = false) (hlocks : meth.locks = false) (hcell : H[q]? = some ce) (hv : ce.vm = .none) (hcl : s.vm.findClass E = some ce.cls)
    (hx : ∀ t : State, t.heap = H → s.vm.Alike t.vm → XC E s t) (hf : ∀ z ∈ locs, free z.base) (hc : cells ≤ mc) (hs : slots ≤ ms) :
    vx_W p l e R s m args below meth c H locs cells slots (vx_MQ below Qc XC args s mc ms free) (F0 m pc ls rest) q := by
  intro T hT X
  obtain ⟨st1, hrun, hend, hW, hsm⟩ := X.leaveThrown q (g := F0 m pc ls rest) rfl rfl rfl hout hlocks
  have hcell9 : (T.setFrames (.throwing q :: below)).heap[q]? = some ce := by
    show T.heap[q]? = some ce
    rw [hT]; exact hcell
  exact ⟨_, st1, .threw q, hrun, hend, Or.inr ⟨q, rfl, E, ce, locs, hx _ hT hW.alike, hcell9, hv, hcl, hW, hsm.mono hc hs, hf⟩⟩
theorem vx_frame {U : State} {k n : Nat} (h : s.sameButNew ({ U with vm := s.vm } : State) locs k n) : s.heap.size ≤ U.heap.size ∧ ∀ q : Nat, q < s.heap.size → (∀ z ∈ locs, z.base ≠ q) → U.heap[q]? = s.heap[q]? := by
  obtain ⟨-, h2, -, -, -, h6⟩ := h
  refine ⟨h2, fun q hq hz => ?_⟩
  obtain ⟨c9, e1, e2, e3, e4⟩ := h6 q _ (Array.getElem?_eq_getElem hq)
  have hs : c9.slots = (s.heap[q]).slots := Array.ext_getElem? fun i => e4 i fun hm => hz _ hm rfl
  have h9 : c9 = s.heap[q] := by
    rw [hs] at e2
    exact e2
  have e5 : U.heap[q]? = some c9 := e1
  rw [e5, h9, Array.getElem?_eq_getElem hq]
/-- the words of a throw but the four that speak of the heap -/
def vx_no (w : Cond) : Bool := decide (w ≠ .isRef (.static Bundle.tN "UNASSIGNED_STACK" Bundle.steD)) && decide (w ≠ .isRef (.static Bundle.tN "SUPPRESSED_SENTINEL" Bundle.listD)) && decide (w ≠ .laysStatic Bundle.tN "UNASSIGNED_STACK" Bundle.steD) && decide (w ≠ .laysStatic Bundle.tN "SUPPRESSED_SENTINEL" Bundle.listD)
def vx_at0 (own : String) (ic : Nat) (X : String) (names : List String) : List Cond := (Bundle.ownAtoms0 own ic X names).filter vx_no
def vx_atS (own : String) (ic : Nat) (X : String) (names : List String) : List Cond := (Bundle.ownAtoms own ic X names).filter vx_no
/-- a word that the tables alone decide, or a good one -/
def vx_ot (w : Cond) : Bool := w.onTables || goodWord w
theorem vx_ot_at {args a' : Array Value} {s U : State} {w : Cond} (hW : s.WarmedH U.vm) (hvm : s.vm = U.vm) (hg : vx_ot w = true) (h : w.before args s = true) : w.before a' U = true := by
  simp only [vx_ot, Bool.or_eq_true] at hg
  rcases hg with hg | hg
  · exact va_tabs hg hvm h
  · exact word_at hW (good_of_word hg) h
/-- a list's words: the good ones out of the method's own list, the others by premises of their own -/
theorem vx_hat {args : Array Value} {s : State} {L B : List Cond} (h1 : ∀ w ∈ L.filter goodWord, w.before args s = true) (h2 : ∀ w ∈ L.filter (fun w => !goodWord w), w ∈ B) (h3 : ∀ w ∈ B, w.before args s = true) : ∀ w ∈ L, w.before args s = true := by
  intro w hw
  by_cases g : goodWord w = true
  · exact h1 w (List.mem_filter.mpr ⟨hw, g⟩)
  · refine h3 w (h2 w (List.mem_filter.mpr ⟨hw, ?_⟩))
    show (!goodWord w) = true
    cases hgw : goodWord w
    · rfl
    · exact absurd hgw g
theorem vx_c {args : Array Value} {s : State} {w : Cond} {B : List Cond} (h : w.before args s = true) (t : ∀ w ∈ B, w.before args s = true) : ∀ w' ∈ w :: B, w'.before args s = true := fun w' h' => (List.mem_cons.mp h').elim (fun e => by rw [e]; exact h) (t w')
theorem vx_n {args : Array Value} {s : State} : ∀ w ∈ ([] : List Cond), w.before args s = true := fun _ h => nomatch h
theorem vx_own {args : Array Value} {s : State} {L : List Cond} (h1 : ∀ w ∈ L.filter vx_no, w.before args s = true)
    (hU : (Cond.isRef (.static Bundle.tN "UNASSIGNED_STACK" Bundle.steD)).before args s = true) (hN : (Cond.isRef (.static Bundle.tN "SUPPRESSED_SENTINEL" Bundle.listD)).before args s = true)
    (lU : (Cond.laysStatic Bundle.tN "UNASSIGNED_STACK" Bundle.steD).before args s = true) (lN : (Cond.laysStatic Bundle.tN "SUPPRESSED_SENTINEL" Bundle.listD).before args s = true) : ∀ w ∈ L, w.before args s = true := by
  intro w hw
  by_cases e1 : w = .isRef (.static Bundle.tN "UNASSIGNED_STACK" Bundle.steD)
  · rw [e1]; exact hU
  · by_cases e2 : w = .isRef (.static Bundle.tN "SUPPRESSED_SENTINEL" Bundle.listD)
    · rw [e2]; exact hN
    · by_cases e3 : w = .laysStatic Bundle.tN "UNASSIGNED_STACK" Bundle.steD
      · rw [e3]; exact lU
      · by_cases e4 : w = .laysStatic Bundle.tN "SUPPRESSED_SENTINEL" Bundle.listD
        · rw [e4]; exact lN
        · exact h1 w (List.mem_filter.mpr ⟨hw, by unfold vx_no; rw [decide_eq_true e1, decide_eq_true e2, decide_eq_true e3, decide_eq_true e4]; rfl⟩)
/-- where a static field lies, its class's statics cell in H -/
def vx_L (C n d : String) (A : Nat → Prop) (U : State) (H : Heap) : Prop := ∃ (c : ClassId) (k : Class) (i : Nat) (f : Field) (a : Nat) (cell : Cell), U.vm.findClass C = some c ∧ U.fieldFound? C n d = some (c, k, i, f) ∧ f.isStatic = true ∧ k.statics = some a ∧ H[a]? = some cell ∧ cell.vm.isStatics = true ∧ cell.cls = c ∧ f.slot < cell.slots.size ∧ k.staticTypes[f.slot]? = some f.type ∧ ¬ A a
theorem vx_L.moved {C n d : String} {A : Nat → Prop} {u U : State} {H : Heap} (hvm : u.vm.Alike U.vm) (h : vx_L C n d A u H) : vx_L C n d A U H := by
  obtain ⟨c, k, i, f, a, cell, h1, h2, h3, h4, h5, h6, h7, h8, h9, h10⟩ := h
  obtain ⟨k', hi', he⟩ := State.fieldFound?_setVm hvm h2
  exact ⟨c, k', i, f, a, cell, by rw [hvm.findClass]; exact h1, hi', h3, by rw [he]; exact h4, h5, h6, h7, h8, by rw [he]; exact h9, h10⟩
theorem vx_L.kept {C n d : String} {A : Nat → Prop} {U : State} {H H1 : Heap} (h : vx_L C n d A U H) (hq : ∀ a : Nat, a < H.size → ¬ A a → H1[a]? = H[a]?) : vx_L C n d A U H1 := by
  obtain ⟨c, k, i, f, a, cell, h1, h2, h3, h4, h5, h6, h7, h8, h9, h10⟩ := h
  exact ⟨c, k, i, f, a, cell, h1, h2, h3, h4, by rw [hq a (Array.getElem?_eq_some_iff.mp h5).1 h10]; exact h5, h6, h7, h8, h9, h10⟩
theorem vx_L.narrow {C n d : String} {A B : Nat → Prop} {U : State} {H : Heap} (h : vx_L C n d A U H) (hAB : ∀ q, B q → A q) : vx_L C n d B U H := by
  obtain ⟨c, k, i, f, a, cell, h1, h2, h3, h4, h5, h6, h7, h8, h9, h10⟩ := h
  exact ⟨c, k, i, f, a, cell, h1, h2, h3, h4, h5, h6, h7, h8, h9, fun z => h10 (hAB _ z)⟩
theorem vx_L.word {C n d : String} {A : Nat → Prop} {s : State} {args : Array Value} (h : vx_L C n d A s s.heap) : (Cond.laysStatic C n d).before args s = true := by
  obtain ⟨c, k, i, f, a, cell, h1, h2, h3, h4, h5, h6, h7, h8, h9, -⟩ := h
  show (Cond.laysStatic C n d).holds args s none s [] = true
  exact Cond.laysStatic_of h1 h2 h3 h4 h5 h6 h7 h8 h9
/-- .. and what it holds: null or some reference -/
def vx_Zq (C n d : String) (A : Nat → Prop) (U : State) (H : Heap) : Prop := va_Zq C n d A U H ∧ vx_L C n d A U H
theorem vx_Zq.moved {C n d : String} {A : Nat → Prop} {u U : State} {H : Heap} (hvm : u.vm.Alike U.vm) (h : vx_Zq C n d A u H) : vx_Zq C n d A U H := ⟨va_Zq.moved hvm h.1, vx_L.moved hvm h.2⟩
theorem vx_Zq.kept {C n d : String} {A : Nat → Prop} {U : State} {H H1 : Heap} (h : vx_Zq C n d A U H) (hq : ∀ a : Nat, a < H.size → ¬ A a → H1[a]? = H[a]?) : vx_Zq C n d A U H1 := ⟨va_Zq.kept h.1 hq, vx_L.kept h.2 hq⟩
theorem vx_Zq.narrow {C n d : String} {A B : Nat → Prop} {U : State} {H : Heap} (h : vx_Zq C n d A U H) (hAB : ∀ q, B q → A q) : vx_Zq C n d B U H := ⟨va_Zq.narrow h.1 hAB, vx_L.narrow h.2 hAB⟩
theorem vx_Zqof {args : Array Value} {s : State} {C n d : String} {A : Nat → Prop} (hl : (Cond.laysStatic C n d).before args s = true) (hini : (Cond.initialized C).before args s = true) (h : (Cond.isRef (.static C n d)).before args s = true) (hA : ∀ a : Nat, a < s.heap.size → ¬ A a) : vx_Zq C n d A s s.heap := by
  refine ⟨va_Zqof hl hini h hA, ?_⟩
  obtain ⟨c, k, i, f, a, cell, h1, h2, h3, h4, h5, h6, h7, h8, h9⟩ := Cond.laysStatic_spec hl
  exact ⟨c, k, i, f, a, cell, h1, h2, h3, h4, h5, h6, h7, h8, h9, hA a (Array.getElem?_eq_some_iff.mp h5).1⟩
theorem vx_isRef {C n d : String} {v : Value} {A : Nat → Prop} {s : State} {args : Array Value} (h : va_Z C n d v A s s.heap) (hv : v.isRef = true) : (Cond.isRef (.static C n d)).before args s = true := by
  obtain ⟨cf, kf, fi, f, a, cell, h1, h2, h3, h4, h5, h6, h7, -⟩ := h
  have he : (Term.static C n d).eval args s none [] s = some v := by
    simp [Term.eval, State.fieldNamed?, h1, h2, h4, h5, h6, h7]
  simp only [Cond.before, Cond.holds, Cond.value, he]
  cases v <;> simp_all [Value.isRef]
theorem vx_isRefq {C n d : String} {A : Nat → Prop} {s : State} {args : Array Value} (h : va_Zq C n d A s s.heap) : (Cond.isRef (.static C n d)).before args s = true := by
  rcases h with h | ⟨t, h⟩
  · exact vx_isRef h rfl
  · exact vx_isRef h rfl
/-- the same frame, seen from here: as if the method were called anew in this heap -/
theorem vx_rebase {T : State} (X : Stand p l e R s m args below meth c T locs cells slots) {R' : Room} (hf : R'.frames ≤ R.frames) (hl : R'.locals ≤ R.locals) (hc : cells + R'.cells ≤ R.cells) (hs : slots + R'.slots ≤ R.slots) :
    Stand p l e R' ((T.setVm s.vm).setFrames (.invoking m args :: below)) m args below meth c T [] 0 0 := by
  have htop : (T.setVm s.vm).topJava?.isSome := X.here.top
  have hF : ((T.setVm s.vm).setFrames (.invoking m args :: below)).frames = .invoking m args :: below := State.frames_setFrames _ (State.cur_lt_of_top htop)
  obtain ⟨g₀, hg0⟩ := Option.isSome_iff_exists.mp htop
  obtain ⟨r, hr⟩ := State.topJava?_eq_some.mp hg0
  have hl9 : e.platform.stackLimits (T.setVm s.vm).me = e.platform.stackLimits s.me := X.limits
  have hb9 : (T.setVm s.vm).me.stackBytes = s.me.stackBytes := X.bytes
  refine ⟨X.admits, X.cas, X.clock, hF, ?_, X.hears, X.method, X.code, X.here, X.tail, X.warmed, ?_, ?_, ?_⟩
  · have h := X.room
    have hU : ((T.setVm s.vm).setFrames (.invoking m args :: below)).localsInUse = s.localsInUse := by
      rw [State.localsInUse_invoking hF (meth := meth) (c := c) X.method X.code, State.localsInUse_invoking X.frames X.method X.code]
    simp only [State.hasRoom, Bool.and_eq_true, decide_eq_true_eq] at h ⊢
    obtain ⟨⟨⟨⟨h1, h2, h3, h4, h5, h6⟩, h7⟩, h8⟩, h9⟩ := h
    rw [X.frames, List.length_cons] at h2 h3
    have q1 := X.heapSize
    have q2 := X.used
    simp only [hF, hU, List.length_cons, State.stackLimits_setFrames, State.stackBytes_setFrames, hl9, hb9]
    refine ⟨⟨⟨⟨by omega, by omega, by omega, by omega, by omega, h6⟩, ?_⟩, ?_⟩, X.book⟩
    · show T.heap.size + R'.cells ≤ e.platform.maxCells
      omega
    · show T.slotsUsed + R'.slots ≤ e.platform.maxSlots
      omega
  · rw [State.stackLimits_setFrames]; rfl
  · rw [State.stackBytes_setFrames]; rfl
  · refine ⟨?_, Nat.le_refl _, Nat.le_refl _, ?_, ?_, fun a c9 h9 => ⟨c9, h9, rfl, rfl, fun _ _ => rfl⟩⟩
    · obtain ⟨t, ht, -⟩ := State.frames_cons hr
      show T.setVm s.vm = { ((T.setVm s.vm).setFrames (.invoking m args :: below)).setFrames (T.setVm s.vm).frames with heap := T.heap, slotsUsed := T.slotsUsed }
      rw [State.setFrames_setFrames, State.setFrames_self ht]
      rfl
    · show T.slotsUsed = T.slotsUsed + ((T.heap.toList.drop T.heap.size).map (·.slots.size)).sum
      rw [List.drop_eq_nil_of_le (Nat.le_of_eq Array.length_toList)]
      rfl
    · show ((T.heap.toList.drop T.heap.size).map (·.slots.size)).sum ≤ 0
      rw [List.drop_eq_nil_of_le (Nat.le_of_eq Array.length_toList)]
      exact Nat.le_refl _
/-- 'throw new E()': new; dup; invokespecial; athrow -/
theorem vx_throw0 {cc : ByteArray} {pc : Nat} (hexec : p.tables.exec = Jvm.exec) (hb : c.code = cc) (hl : l.stackTraces = false) {own cls : String} {names : List String} {ik ic mc ms : Nat} {A : Nat → Prop}
    (hown : s.vm.findClass own = some m.cls) (hcls : Bundle.fit cls = true) (hnames : ∀ n ∈ names, Bundle.fit n = true)
    (hk : (Cond.classLink own ik cls).before args s = true) (hini : (Cond.initialized cls).before args s = true) (hat : ∀ w ∈ vx_at0 own ic cls names, w.before args s = true)
    (hgood : ∀ w ∈ Cond.classLink own ik cls :: Cond.initialized cls :: vx_at0 own ic cls names, vx_ot w = true)
    (hU : vx_Zq Bundle.tN "UNASSIGNED_STACK" Bundle.steD A s s.heap) (hN : vx_Zq Bundle.tN "SUPPRESSED_SENTINEL" Bundle.listD A s s.heap) (hS : va_S A s.heap H locs) (hsize : ls.size = c.maxLocals)
    (d0 : decode cc pc = .ok (.new ik, 3)) (d3 : decode cc (pc + 3) = .ok (.dup, 1)) (d4 : decode cc (pc + 4) = .ok (.invokespecial ic, 3)) (d7 : decode cc (pc + 7) = .ok (.athrow, 1))
    (hout : ∀ x ∈ c.exceptionTable.toList, covers x (pc + 7) = false)
    (hRframes : names.length + 3 < R.frames) (hRlocals : (rest.map fun v => v.category).sum + (13 * (names.length + 1) + 42) ≤ R.locals) (hRcells : cells + 1 ≤ R.cells) (hRslots : slots + 6 ≤ R.slots) (hlocks : meth.locks = false)
    (hx : ∀ t : State, s.vm.Alike t.vm → H.size ≤ t.heap.size → (∀ q : Nat, q < H.size → t.heap[q]? = H[q]?) → XC cls s t)
    (hf : ∀ z ∈ locs, free z.base) (hc : cells + 1 ≤ mc) (hs : slots + 6 ≤ ms) :
    W p l e R s m args below meth c H locs cells slots (vx_MQ below Qc XC args s mc ms free) (F0 m pc ls rest) := by
  intro T hT X
  have htr : e.platform.stackTraces = false := (show e.platform.stackTraces = l.stackTraces by rw [X.admits.platform]).trans hl
  have Y := vx_rebase X (R' := { frames := R.frames, locals := R.locals, cells := 1, slots := 6 }) (Nat.le_refl _) (Nat.le_refl _) hRcells hRslots
  obtain ⟨s', hA⟩ : ∃ z, z = (T.setVm s.vm).setFrames (.invoking m args :: below) := ⟨_, rfl⟩
  rw [← hA] at Y
  have hvm : s'.vm = s.vm := by rw [hA]; rfl
  have hhp : s'.heap = H := by rw [hA]; exact hT
  have hW0 : s.WarmedH s'.vm := by rw [hvm]; exact State.WarmedH.refl s
  have hat' : ∀ w ∈ vx_at0 own ic cls names, w.before args s' = true := fun w hw => vx_ot_at hW0 hvm.symm (hgood w (List.mem_cons_of_mem _ (List.mem_cons_of_mem _ hw))) (hat w hw)
  have hk' : (Cond.classLink own ik cls).before args s' = true := vx_ot_at hW0 hvm.symm (hgood _ List.mem_cons_self) hk
  have hini' : (Cond.initialized cls).before args s' = true := vx_ot_at hW0 hvm.symm (hgood _ (List.mem_cons_of_mem _ List.mem_cons_self)) hini
  have hU' : vx_Zq Bundle.tN "UNASSIGNED_STACK" Bundle.steD A s' s'.heap := by rw [hhp]; exact vx_Zq.moved hW0.alike (hU.kept hS.2.1)
  have hN' : vx_Zq Bundle.tN "SUPPRESSED_SENTINEL" Bundle.listD A s' s'.heap := by rw [hhp]; exact vx_Zq.moved hW0.alike (hN.kept hS.2.1)
  have h : ∀ w ∈ Bundle.ownAtoms0 own ic cls names, w.before args s' = true := vx_own hat' (vx_isRefq hU'.1) (vx_isRefq hN'.1) hU'.2.word hN'.2.word
  have hown' : s'.vm.findClass own = some m.cls := by rw [hvm]; exact hown
  have hins : (Cond.instantiable cls 6).before args s' = true := h _ (by simp [Bundle.ownAtoms0])
  obtain ⟨vm₁, cX, kX, hfX, hkX, -, -, X₁, st1⟩ := Y.newCold hexec (own := own) (C := cls) (index := ik) (n := 6) hown' hk' hins hini'
    (g := F0 m pc ls rest) rfl (by rw [hb]; exact d0) (Nat.le_refl _) (Nat.le_refl _)
  generalize hT1 : (T.setVm vm₁).pushCell { cls := cX, slots := kX.instanceTypes.map defaultValue, vm := .none } = T1 at X₁ st1
  have hcat : (Value.ref T.heap.size).category = 1 := rfl
  have hcellA : T1.heap[T.heap.size]? = some (freshCell cX kX) := by rw [← hT1]; exact State.heap_pushCell_size _ _
  have d3' : decode c.code (pc + 3) = .ok (.dup, 1) := by rw [hb]; exact d3
  obtain ⟨U, hsteps, hrun, hend, hW, hsame, ce, hce, hO⟩ := X₁.ctorThrow0 hexec htr (own := own) (cls := cls) (names := names) (ic := ic) hown' hcls hnames h (fun x hx => nomatch hx) hfX hkX hcellA (by rw [hhp, hT]; exact Nat.le_refl _)
    (g := { method := m, pc := pc + 4, locals := ls, stack := .ref T.heap.size :: .ref T.heap.size :: rest, locked := none }) rfl hsize rfl rfl (rest := rest) rfl
    (by rw [hb]; exact d4) (by rw [hb]; exact d7) hout hRframes (by simp only [List.map_cons, List.sum_cons, hcat]; omega) hlocks
  obtain ⟨f1, f2⟩ := vx_frame hsame
  rw [hhp] at f1 f2
  have hWs : s.WarmedH U.vm := State.WarmedH.trans hW0 hW
  have hcl : s.vm.findClass cls = some ce.cls := by
    have h9 := hO.cls
    rw [hvm] at h9
    exact h9
  have hall : s.sameButNew ({ U with vm := s.vm } : State) locs mc ms := by
    subst hA
    obtain ⟨e1, e2⟩ := hsame
    rw [State.setFrames_setFrames] at e1
    have h2 : (T.setVm s.vm).sameButNew ({ U with vm := s.vm } : State) [] (0 + 1) (0 + 6) := ⟨e1, e2⟩
    have h3 := X.same.trans h2
    rw [List.append_nil] at h3
    exact h3.mono hc hs
  refine ⟨U, ?_, .threw T.heap.size, hrun, hend, Or.inr ⟨T.heap.size, rfl, cls, ce, locs, hx U hWs.alike f1 (fun q hq => f2 q hq (fun z hz => nomatch hz)), hce, hO.vm, hcl, hWs, hall, hf⟩⟩
  refine st1 _ ?_
  show Steps p.tables e below (T1.setTop { method := m, pc := pc + 3, locals := ls, stack := .ref T.heap.size :: rest, locked := none }) _
  jvm_step X₁.here [X₁.here.top, hexec, d3', Value.category]
  exact hsteps
/-- 'throw new E("text")': new; dup; ldc; invokespecial; athrow -/
theorem vx_throwS {cc : ByteArray} {pc : Nat} (hexec : p.tables.exec = Jvm.exec) (hb : c.code = cc) (hl : l.stackTraces = false) {own cls text : String} {names : List String} {ik is ic mc ms sa : Nat} {A : Nat → Prop}
    (hown : s.vm.findClass own = some m.cls) (hcls : Bundle.fit cls = true) (hnames : ∀ n ∈ names, Bundle.fit n = true)
    (hk : (Cond.classLink own ik cls).before args s = true) (hini : (Cond.initialized cls).before args s = true) (hstr : vk_R own is text sa s) (hat : ∀ w ∈ vx_atS own ic cls names, w.before args s = true)
    (hgood : ∀ w ∈ Cond.classLink own ik cls :: Cond.initialized cls :: vx_atS own ic cls names, vx_ot w = true)
    (hU : vx_Zq Bundle.tN "UNASSIGNED_STACK" Bundle.steD A s s.heap) (hN : vx_Zq Bundle.tN "SUPPRESSED_SENTINEL" Bundle.listD A s s.heap) (hS : va_S A s.heap H locs) (hsize : ls.size = c.maxLocals)
    (d0 : decode cc pc = .ok (.new ik, 3)) (d3 : decode cc (pc + 3) = .ok (.dup, 1)) (d4 : decode cc (pc + 4) = .ok (.ldc is, 2)) (d6 : decode cc (pc + 6) = .ok (.invokespecial ic, 3)) (d9 : decode cc (pc + 9) = .ok (.athrow, 1))
    (hout : ∀ x ∈ c.exceptionTable.toList, covers x (pc + 9) = false)
    (hRframes : names.length + 3 < R.frames) (hRlocals : (rest.map fun v => v.category).sum + (13 * (names.length + 1) + 43) ≤ R.locals) (hRcells : cells + 1 ≤ R.cells) (hRslots : slots + 6 ≤ R.slots) (hlocks : meth.locks = false)
    (hx : ∀ t : State, s.vm.Alike t.vm → H.size ≤ t.heap.size → (∀ q : Nat, q < H.size → t.heap[q]? = H[q]?) → XC cls s t)
    (hf : ∀ z ∈ locs, free z.base) (hc : cells + 1 ≤ mc) (hs : slots + 6 ≤ ms) :
    W p l e R s m args below meth c H locs cells slots (vx_MQ below Qc XC args s mc ms free) (F0 m pc ls rest) := by
  intro T hT X
  have htr : e.platform.stackTraces = false := (show e.platform.stackTraces = l.stackTraces by rw [X.admits.platform]).trans hl
  have Y := vx_rebase X (R' := { frames := R.frames, locals := R.locals, cells := 1, slots := 6 }) (Nat.le_refl _) (Nat.le_refl _) hRcells hRslots
  obtain ⟨s', hA⟩ : ∃ z, z = (T.setVm s.vm).setFrames (.invoking m args :: below) := ⟨_, rfl⟩
  rw [← hA] at Y
  have hvm : s'.vm = s.vm := by rw [hA]; rfl
  have hhp : s'.heap = H := by rw [hA]; exact hT
  have hW0 : s.WarmedH s'.vm := by rw [hvm]; exact State.WarmedH.refl s
  have hat' : ∀ w ∈ vx_atS own ic cls names, w.before args s' = true := fun w hw => vx_ot_at hW0 hvm.symm (hgood w (List.mem_cons_of_mem _ (List.mem_cons_of_mem _ hw))) (hat w hw)
  have hk' : (Cond.classLink own ik cls).before args s' = true := vx_ot_at hW0 hvm.symm (hgood _ List.mem_cons_self) hk
  have hini' : (Cond.initialized cls).before args s' = true := vx_ot_at hW0 hvm.symm (hgood _ (List.mem_cons_of_mem _ List.mem_cons_self)) hini
  have hU' : vx_Zq Bundle.tN "UNASSIGNED_STACK" Bundle.steD A s' s'.heap := by rw [hhp]; exact vx_Zq.moved hW0.alike (hU.kept hS.2.1)
  have hN' : vx_Zq Bundle.tN "SUPPRESSED_SENTINEL" Bundle.listD A s' s'.heap := by rw [hhp]; exact vx_Zq.moved hW0.alike (hN.kept hS.2.1)
  have h : ∀ w ∈ Bundle.ownAtoms own ic cls names, w.before args s' = true := vx_own hat' (vx_isRefq hU'.1) (vx_isRefq hN'.1) hU'.2.word hN'.2.word
  have hown' : s'.vm.findClass own = some m.cls := by rw [hvm]; exact hown
  have hins : (Cond.instantiable cls 6).before args s' = true := h _ (by simp [Bundle.ownAtoms])
  obtain ⟨vm₁, cX, kX, hfX, hkX, -, -, X₁, st1⟩ := Y.newCold hexec (own := own) (C := cls) (index := ik) (n := 6) hown' hk' hins hini'
    (g := F0 m pc ls rest) rfl (by rw [hb]; exact d0) (Nat.le_refl _) (Nat.le_refl _)
  generalize hT1 : (T.setVm vm₁).pushCell { cls := cX, slots := kX.instanceTypes.map defaultValue, vm := .none } = T1 at X₁ st1
  have hcat : (Value.ref T.heap.size).category = 1 := rfl
  have hcellA : T1.heap[T.heap.size]? = some (freshCell cX kX) := by rw [← hT1]; exact State.heap_pushCell_size _ _
  have d3' : decode c.code (pc + 3) = .ok (.dup, 1) := by rw [hb]; exact d3
  have d4' : decode c.code (pc + 4) = .ok (.ldc is, 2) := by rw [hb]; exact d4
  have hstr' : vk_R own is text sa s' := vk_R.warm hW0 hstr
  obtain ⟨U, hsteps, hrun, hend, hW, hsame, ce, hce, hO⟩ := X₁.ctorThrowS hexec htr (own := own) (cls := cls) (names := names) (ic := ic) hown' hcls hnames h (fun x hx => nomatch hx) hfX hkX hcellA (by rw [hhp, hT]; exact Nat.le_refl _) (msg := .ref sa) rfl
    (g := { method := m, pc := pc + 6, locals := ls, stack := .ref sa :: .ref T.heap.size :: .ref T.heap.size :: rest, locked := none }) rfl hsize rfl rfl (rest := rest) rfl
    (by rw [hb]; exact d6) (by rw [hb]; exact d9) hout hRframes (by simp only [List.map_cons, List.sum_cons, hcat]; omega) hlocks
  obtain ⟨f1, f2⟩ := vx_frame hsame
  rw [hhp] at f1 f2
  have hWs : s.WarmedH U.vm := State.WarmedH.trans hW0 hW
  have hcl : s.vm.findClass cls = some ce.cls := by
    have h9 := hO.cls
    rw [hvm] at h9
    exact h9
  have hall : s.sameButNew ({ U with vm := s.vm } : State) locs mc ms := by
    subst hA
    obtain ⟨e1, e2⟩ := hsame
    rw [State.setFrames_setFrames] at e1
    have h2 : (T.setVm s.vm).sameButNew ({ U with vm := s.vm } : State) [] (0 + 1) (0 + 6) := ⟨e1, e2⟩
    have h3 := X.same.trans h2
    rw [List.append_nil] at h3
    exact h3.mono hc hs
  refine ⟨U, ?_, .threw T.heap.size, hrun, hend, Or.inr ⟨T.heap.size, rfl, cls, ce, locs, hx U hWs.alike f1 (fun q hq => f2 q hq (fun z hz => nomatch hz)), hce, hO.vm, hcl, hWs, hall, hf⟩⟩
  refine st1 _ ?_
  show Steps p.tables e below (T1.setTop { method := m, pc := pc + 3, locals := ls, stack := .ref T.heap.size :: rest, locked := none }) _
  jvm_step X₁.here [X₁.here.top, hexec, d3', Value.category]
  exact X₁.ldcString hexec (own := own) (text := text) (index := is) (a := sa) hown' hstr'.1 hstr'.2
    (g := { method := m, pc := pc + 4, locals := ls, stack := .ref T.heap.size :: .ref T.heap.size :: rest, locked := none }) rfl d4' _ hsteps
/-- 'throw new E("text")', the text by a wide index -/
theorem vx_throwSW {cc : ByteArray} {pc : Nat} (hexec : p.tables.exec = Jvm.exec) (hb : c.code = cc) (hl : l.stackTraces = false) {own cls text : String} {names : List String} {ik is ic mc ms sa : Nat} {A : Nat → Prop}
    (hown : s.vm.findClass own = some m.cls) (hcls : Bundle.fit cls = true) (hnames : ∀ n ∈ names, Bundle.fit n = true)
    (hk : (Cond.classLink own ik cls).before args s = true) (hini : (Cond.initialized cls).before args s = true) (hstr : vk_R own is text sa s) (hat : ∀ w ∈ vx_atS own ic cls names, w.before args s = true)
    (hgood : ∀ w ∈ Cond.classLink own ik cls :: Cond.initialized cls :: vx_atS own ic cls names, vx_ot w = true)
    (hU : vx_Zq Bundle.tN "UNASSIGNED_STACK" Bundle.steD A s s.heap) (hN : vx_Zq Bundle.tN "SUPPRESSED_SENTINEL" Bundle.listD A s s.heap) (hS : va_S A s.heap H locs) (hsize : ls.size = c.maxLocals)
    (d0 : decode cc pc = .ok (.new ik, 3)) (d3 : decode cc (pc + 3) = .ok (.dup, 1)) (d4 : decode cc (pc + 4) = .ok (.ldc_w is, 3)) (d7 : decode cc (pc + 7) = .ok (.invokespecial ic, 3)) (d10 : decode cc (pc + 10) = .ok (.athrow, 1))
    (hout : ∀ x ∈ c.exceptionTable.toList, covers x (pc + 10) = false)
    (hRframes : names.length + 3 < R.frames) (hRlocals : (rest.map fun v => v.category).sum + (13 * (names.length + 1) + 43) ≤ R.locals) (hRcells : cells + 1 ≤ R.cells) (hRslots : slots + 6 ≤ R.slots) (hlocks : meth.locks = false)
    (hx : ∀ t : State, s.vm.Alike t.vm → H.size ≤ t.heap.size → (∀ q : Nat, q < H.size → t.heap[q]? = H[q]?) → XC cls s t)
    (hf : ∀ z ∈ locs, free z.base) (hc : cells + 1 ≤ mc) (hs : slots + 6 ≤ ms) :
    W p l e R s m args below meth c H locs cells slots (vx_MQ below Qc XC args s mc ms free) (F0 m pc ls rest) := by
  intro T hT X
  have htr : e.platform.stackTraces = false := (show e.platform.stackTraces = l.stackTraces by rw [X.admits.platform]).trans hl
  have Y := vx_rebase X (R' := { frames := R.frames, locals := R.locals, cells := 1, slots := 6 }) (Nat.le_refl _) (Nat.le_refl _) hRcells hRslots
  obtain ⟨s', hA⟩ : ∃ z, z = (T.setVm s.vm).setFrames (.invoking m args :: below) := ⟨_, rfl⟩
  rw [← hA] at Y
  have hvm : s'.vm = s.vm := by rw [hA]; rfl
  have hhp : s'.heap = H := by rw [hA]; exact hT
  have hW0 : s.WarmedH s'.vm := by rw [hvm]; exact State.WarmedH.refl s
  have hat' : ∀ w ∈ vx_atS own ic cls names, w.before args s' = true := fun w hw => vx_ot_at hW0 hvm.symm (hgood w (List.mem_cons_of_mem _ (List.mem_cons_of_mem _ hw))) (hat w hw)
  have hk' : (Cond.classLink own ik cls).before args s' = true := vx_ot_at hW0 hvm.symm (hgood _ List.mem_cons_self) hk
  have hini' : (Cond.initialized cls).before args s' = true := vx_ot_at hW0 hvm.symm (hgood _ (List.mem_cons_of_mem _ List.mem_cons_self)) hini
  have hU' : vx_Zq Bundle.tN "UNASSIGNED_STACK" Bundle.steD A s' s'.heap := by rw [hhp]; exact vx_Zq.moved hW0.alike (hU.kept hS.2.1)
  have hN' : vx_Zq Bundle.tN "SUPPRESSED_SENTINEL" Bundle.listD A s' s'.heap := by rw [hhp]; exact vx_Zq.moved hW0.alike (hN.kept hS.2.1)
  have h : ∀ w ∈ Bundle.ownAtoms own ic cls names, w.before args s' = true := vx_own hat' (vx_isRefq hU'.1) (vx_isRefq hN'.1) hU'.2.word hN'.2.word
  have hown' : s'.vm.findClass own = some m.cls := by rw [hvm]; exact hown
  have hins : (Cond.instantiable cls 6).before args s' = true := h _ (by simp [Bundle.ownAtoms])
  obtain ⟨vm₁, cX, kX, hfX, hkX, -, -, X₁, st1⟩ := Y.newCold hexec (own := own) (C := cls) (index := ik) (n := 6) hown' hk' hins hini'
    (g := F0 m pc ls rest) rfl (by rw [hb]; exact d0) (Nat.le_refl _) (Nat.le_refl _)
  generalize hT1 : (T.setVm vm₁).pushCell { cls := cX, slots := kX.instanceTypes.map defaultValue, vm := .none } = T1 at X₁ st1
  have hcat : (Value.ref T.heap.size).category = 1 := rfl
  have hcellA : T1.heap[T.heap.size]? = some (freshCell cX kX) := by rw [← hT1]; exact State.heap_pushCell_size _ _
  have d3' : decode c.code (pc + 3) = .ok (.dup, 1) := by rw [hb]; exact d3
  have d4' : decode c.code (pc + 4) = .ok (.ldc_w is, 3) := by rw [hb]; exact d4
  have hstr' : vk_R own is text sa s' := vk_R.warm hW0 hstr
  obtain ⟨U, hsteps, hrun, hend, hW, hsame, ce, hce, hO⟩ := X₁.ctorThrowS hexec htr (own := own) (cls := cls) (names := names) (ic := ic) hown' hcls hnames h (fun x hx => nomatch hx) hfX hkX hcellA (by rw [hhp, hT]; exact Nat.le_refl _) (msg := .ref sa) rfl
    (g := { method := m, pc := pc + 7, locals := ls, stack := .ref sa :: .ref T.heap.size :: .ref T.heap.size :: rest, locked := none }) rfl hsize rfl rfl (rest := rest) rfl
    (by rw [hb]; exact d7) (by rw [hb]; exact d10) hout hRframes (by simp only [List.map_cons, List.sum_cons, hcat]; omega) hlocks
  obtain ⟨f1, f2⟩ := vx_frame hsame
  rw [hhp] at f1 f2
  have hWs : s.WarmedH U.vm := State.WarmedH.trans hW0 hW
  have hcl : s.vm.findClass cls = some ce.cls := by
    have h9 := hO.cls
    rw [hvm] at h9
    exact h9
  have hall : s.sameButNew ({ U with vm := s.vm } : State) locs mc ms := by
    subst hA
    obtain ⟨e1, e2⟩ := hsame
    rw [State.setFrames_setFrames] at e1
    have h2 : (T.setVm s.vm).sameButNew ({ U with vm := s.vm } : State) [] (0 + 1) (0 + 6) := ⟨e1, e2⟩
    have h3 := X.same.trans h2
    rw [List.append_nil] at h3
    exact h3.mono hc hs
  refine ⟨U, ?_, .threw T.heap.size, hrun, hend, Or.inr ⟨T.heap.size, rfl, cls, ce, locs, hx U hWs.alike f1 (fun q hq => f2 q hq (fun z hz => nomatch hz)), hce, hO.vm, hcl, hWs, hall, hf⟩⟩
  refine st1 _ ?_
  show Steps p.tables e below (T1.setTop { method := m, pc := pc + 3, locals := ls, stack := .ref T.heap.size :: rest, locked := none }) _
  jvm_step X₁.here [X₁.here.top, hexec, d3', Value.category]
  exact X₁.ldcStringW hexec (own := own) (text := text) (index := is) (a := sa) hown' hstr'.1 hstr'.2
    (g := { method := m, pc := pc + 4, locals := ls, stack := .ref T.heap.size :: .ref T.heap.size :: rest, locked := none }) rfl d4' _ hsteps
end Ends
section Bodies
variable {l : Launch}
theorem vx_ofW {y : MethodName} {ws ws' : List Cond} {rm : Room} {Pc : Array Value → State → Prop} {Qc : Array Value → State → Outcome → State → Prop} {XC : String → State → State → Prop} {mc ms : Nat} {free : Addr → Prop} {cc : ByteArray} {maxL : Nat} {ret : Option FieldType}
    (hy : plainName y.cls = true) (hw : ws = Cond.code y cc maxL ret :: ws')
    (body : ∀ p e s m args below meth c s₁, BodyLoose p l y (headSpec ws rm) cc maxL ret e s m args below meth c s₁ → c.maxLocals = maxL → (∀ x ∈ c.exceptionTable.toList, False) → Pc args s →
      W p l e (headSpec ws rm).room s m args below meth c s.heap [] 0 0 (vx_MQ below Qc XC args s mc ms free) (entryFrame m args maxL)) : vx_Met l y ws rm Pc Qc XC mc ms free := by
  refine MetFree.of_bodyS (code := cc) (maxLocals := maxL) (ret := ret) hy ?_ ?_
  · intro args s m h hn
    obtain ⟨meth, c, h1, h2, h3, h4, h5, h6, -, -⟩ := Cond.code_spec hn (atoms_spec (ws := ws) h _ (by rw [hw]; exact List.mem_cons_self))
    exact ⟨meth, c, h1, h2, h3, h4, h5, h6⟩
  · intro p e s m args below meth c s₁ B hml hP _
    have hh0 : s₁.heap = s.heap := by rw [B.state]; rfl
    have ht : ∀ x ∈ c.exceptionTable.toList, False := by
      obtain ⟨meth9, c9, h1, h2, -, -, -, -, h7, -⟩ := Cond.code_spec B.named (atoms_spec (ws := ws) B.pre _ (by rw [hw]; exact List.mem_cons_self))
      cases Option.some.inj (h1.symm.trans B.method)
      cases Option.some.inj (h2.symm.trans (Stand.of_body B).code)
      intro x hx
      rw [Array.isEmpty_iff.mp h7] at hx
      cases hx
    obtain ⟨t, a1, o, b1, b2, b3⟩ := body p e s m args below meth c s₁ B hml ht hP s₁ hh0 (Stand.of_body B)
    exact ⟨t, o, a1, b1, b2, b3⟩
/-- the table of a body with handlers -/
theorem vx_table {p : Program} {x y : MethodName} {S : Spec} {cc bytes : ByteArray} {maxL maxL' : Nat} {ret ret' : Option FieldType} {e : Env} {s s₁ : State} {m : MethodId} {args : Array Value} {below : List Frame} {meth : Method} {c : Code} {hh : List (Nat × Nat × Nat × Nat)}
    (B : BodyLoose p l y S cc maxL ret e s m args below meth c s₁) (h : (Cond.codeWith y bytes maxL' ret' hh).before args s = true) : c.exceptionTable.toList = tableOf hh := by
  obtain ⟨m9, meth9, c9, hn9, h1, h2, -, -, h6, -⟩ := Cond.codeWith_spec h
  cases Option.some.inj (hn9.symm.trans B.named)
  cases Option.some.inj (h1.symm.trans B.method)
  cases Option.some.inj (h2.symm.trans (Stand.of_body B).code)
  rw [← h6, table_eq]
end Bodies
end VXA
/-! ===== END ===== -/
/-! ===== BEGIN a static call of a method with an exception table ===== -/
section VXS
variable {p : Program} {l : Launch} {e : Env} {R : Room} {s : State} {m : MethodId} {args : Array Value} {below : List Frame} {meth : Method} {c : Code} {T : State} {H : Heap} {locs : List Loc} {cells slots : Nat}
abbrev vx_CSW (R : Room) (s : State) (args : Array Value) (own : String) (index : Nat) (y : MethodName) (bytes : ByteArray) (maxL : Nat) (ret : Option FieldType) (hh : List (Nat × Nat × Nat × Nat)) (ws : List Cond) (rm : Room) (mc ms n : Nat) : Prop :=
  (rm.cells = mc ∧ rm.slots = ms ∧ rm.frames + 1 ≤ R.frames ∧ 8 + (maxL + 11) + rm.locals ≤ R.locals ∧ (∀ w ∈ ws, ∀ (a' : Array Value) (U : State), s.WarmedH U.vm → w.before a' U = true) ∧ Cond.codeWith y bytes maxL ret hh ∈ ws) ∧
  (Cond.codeWith y bytes maxL ret hh).before args s = true ∧ (Cond.initialized y.cls).before args s = true ∧ (y.cls ≠ "java/lang/invoke/MethodHandle" ∧ y.cls ≠ "java/lang/invoke/VarHandle") ∧
  (∀ sig, parseMethodDescriptor y.desc = some sig → n = sig.parameters.length) ∧ (Cond.methodLink own index y).before args s = true ∧ (Cond.static y).before args s = true
theorem vx_cwSW {own : String} {index maxL mc ms : Nat} {y : MethodName} {bytes : ByteArray} {ret : Option FieldType} {hh : List (Nat × Nat × Nat × Nat)} {Ts ws ws' : List Cond} {rm : Room} (n : Nat) (ht : ∀ w ∈ Ts, w.before args s = true) (hT : GoodIn Ts (va_wsS own index y ws)) (hw : ws = Cond.codeWith y bytes maxL ret hh :: ws') (hrc : rm.cells = mc) (hrs : rm.slots = ms)
    (hd : y.cls ≠ "java/lang/invoke/MethodHandle" ∧ y.cls ≠ "java/lang/invoke/VarHandle" ∧ (parseMethodDescriptor y.desc).map (fun d => d.parameters.length) = some n) (hR : rm.frames + 1 ≤ R.frames ∧ 8 + (maxL + 11) + rm.locals ≤ R.locals) :
    vx_CSW R s args own index y bytes maxL ret hh ws rm mc ms n := by
  have ok : ∀ w ∈ va_wsS own index y ws, w.before args s = true := fun w h => ht w (hT w h).1
  have hG : GoodIn Ts ws := fun w h => hT w (by unfold va_wsS; exact List.mem_append_right _ h)
  have hc : Cond.codeWith y bytes maxL ret hh ∈ ws := by rw [hw]; exact List.mem_cons_self
  refine ⟨⟨hrc, hrs, hR.1, hR.2, pay_in ht hG, hc⟩, ht _ (hG _ hc).1, ok _ (by simp [va_wsS]), ⟨hd.1, hd.2.1⟩, fun sig h => ?_, ok _ (by simp [va_wsS]), ok _ (by simp [va_wsS])⟩
  have h2 := hd.2.2
  rw [h] at h2
  exact (Option.some.inj h2).symm
theorem vx_callSW (X : Stand p l e R s m args below meth c T locs cells slots) (hexec : p.tables.exec = Jvm.exec) {own : String} {index : Nat} {y : MethodName} {bytes : ByteArray} {maxL : Nat} {ret : Option FieldType} {hh : List (Nat × Nat × Nat × Nat)}
    (hown : s.vm.findClass own = some m.cls) (hlink : (Cond.methodLink own index y).before args s = true) (hstat : (Cond.static y).before args s = true) (hinit : (Cond.initialized y.cls).before args s = true)
    (hcode : (Cond.codeWith y bytes maxL ret hh).before args s = true) (hy : y.cls ≠ "java/lang/invoke/MethodHandle" ∧ y.cls ≠ "java/lang/invoke/VarHandle")
    {W9 : Nat} {Pre : Pt → Array Value → Prop} {Post : Pt → Array Value → Option Value → Pt → Prop} (hK : Back l R p e below s args y 3 W9 Pre Post)
    {g : JFrame} (hg : g.method = m) (hsize : g.locals.size = c.maxLocals) {argsL rest : List Value} (hlen : ∀ sig, parseMethodDescriptor y.desc = some sig → argsL.length = sig.parameters.length)
    (hstack : g.stack = argsL.reverse ++ rest) (hW : 2 * g.monitorRoom + (rest.map fun v => v.category).sum ≤ W9) (hdg : decode c.code g.pc = .ok (.invokestatic index, 3))
    (hpre : ∀ vm₁, s.WarmedH vm₁ → Pre ⟨T.setVm vm₁, locs, cells, slots⟩ argsL.toArray) :
    ∃ (v : Option Value) (vm₁ : Vm) (B : Pt), s.WarmedH vm₁ ∧ Stand p l e R s m args below meth c B.U B.locs B.cells B.slots ∧ Post ⟨T.setVm vm₁, locs, cells, slots⟩ argsL.toArray v B ∧
      ∀ target, Steps p.tables e below (B.U.setTop { g with pc := g.pc + 3, stack := v.toList ++ rest }) target → Steps p.tables e below (T.setTop g) target := by
  obtain ⟨mk, methM, cM, hnamed, hmethM, -, -, -, -, -, -, hsigM⟩ := Cond.codeWith_spec hcode
  have hstatic : methM.isStatic = true := Cond.static_spec hnamed hmethM hstat
  obtain ⟨kP, hkP, -⟩ := className_of_methodNamed hnamed
  have hinitP : kP.init = .initialized := Cond.initialized_spec (findClass_of_methodNamed hnamed) hkP hinit
  obtain ⟨vm₁, X₁, hstep₁⟩ := X.invokestatic hexec hown hlink hnamed hmethM hstatic hkP hinitP hy (g := g) hg (argsL := argsL) (rest := rest) (hlen _ hsigM) hstack hdg
  obtain ⟨v, B, X', hpost, hsteps⟩ := hK m meth c ⟨T.setVm vm₁, locs, cells, slots⟩ { g with stack := rest } (.invokestatic index) mk argsL.toArray X₁ hg hsize hdg hW (X₁.named hnamed) (hpre vm₁ X₁.warmed)
  exact ⟨v, vm₁, B, X₁.warmed, X', hpost, fun target h => hstep₁ _ fun acts => by rw [doInvoke_state]; exact hsteps.trans h⟩
theorem vx_runSW {y : MethodName} {bytes cc : ByteArray} {maxL nL mc ms n index : Nat} {ret : Option FieldType} {hh : List (Nat × Nat × Nat × Nat)} {ws : List Cond} {rm : Room} {Pc : Array Value → State → Prop} {Qc : Array Value → State → Outcome → State → Prop} {free : Addr → Prop} {Ts : List Cond} {own : String} {As rest : List Value} {g : JFrame}
    (S : CallFix p m c cc nL s args Ts own) (hM : Met l y ws rm Pc Qc mc ms free) (cw : vx_CSW R s args own index y bytes maxL ret hh ws rm mc ms n) (hp : PreS s H Pc As)
    (hg : g.method = m) (hn : As.length = n) (hsize : g.locals.size = nL) (hstack : g.stack = As.reverse ++ rest) (hW : 2 * g.monitorRoom + (rest.map fun v => v.category).sum ≤ 8) (hdg : decode cc g.pc = .ok (.invokestatic index, 3)) (hf : cells + mc ≤ R.cells ∧ slots + ms ≤ R.slots) :
    va_Run p l e R s m args below meth c H locs cells slots mc ms g rest (Qc As.toArray) (free) := by
  obtain ⟨⟨hrc, hrs, hfr, hlo, hws, hcw⟩, hcode, hini, hy, hlen, hl, hstt⟩ := cw
  have hK : Back l R p e below s args y 3 8 (PreOf R mc ms Pc) (PostOf Qc mc ms free) := va_backW (hh := hh) (bytes := bytes) (maxL := maxL) (ret := ret) hM hp.1 hrc hrs hfr hlo hws hcw (fun a' U hW => word_at hW (Or.inl (by first | rfl | simp [Cond.onTables, Cond.keeps, Cond.steady])) hini)
  obtain ⟨hx, hb, hml, ho, -⟩ := S
  intro T hT X
  obtain ⟨v, vm₁, ⟨U', l2, c2, s2⟩, hW₁, X', ⟨g', mk, t, L, e1, e2, hq, h1, hL, h2, h3⟩, st⟩ := vx_callSW X hx (hh := hh) (bytes := bytes) (maxL := maxL) (ret := ret) ho hl hstt hini hcode hy hK hg (hsize.trans hml.symm) (argsL := As) (rest := rest) (fun sig h => hn.trans (hlen sig h)) hstack hW (by rw [hb]; exact hdg)
    (fun vm₁ hW₁ => ⟨hf.1, hf.2, hp.2 (T.setVm vm₁) hT hW₁⟩)
  dsimp only [Pt.U, Pt.locs, Pt.cells, Pt.slots] at X' e1 e2 h1 h2 h3 st
  subst h1; subst h2; subst h3
  exact ⟨v, (T.setVm vm₁).calling g' mk As.toArray, t, U', L, hT, X', hL, e1, e2, hq, st⟩
/-- not caught here, past rows that name other classes: it goes on to the caller -/
theorem vx_outP {p : Program} {l : Launch} {e : Env} {R : Room} {s : State} {m : MethodId} {args : Array Value} {below : List Frame} {meth : Method} {c : Code} {H : Heap} {locs : List Loc} {cells slots : Nat} {free : Addr → Prop} {ls : Array Slot} {rest : List Value} {Qc : Array Value → State → Outcome → State → Prop} {XC : String → State → State → Prop}
    {pc : Nat} {own E : String} {ce : Cell} {q : Addr} {mc ms : Nat} (hown : s.vm.findClass own = some m.cls) (hlocks : meth.locks = false)
    (hpass : ∀ z ∈ c.exceptionTable.toList, covers z pc = false ∨ (z.catchType ≠ 0 ∧ ∃ nm : String, (Cond.classLink own z.catchType nm).before args s = true ∧ va_Nc E nm s)) (hcell : H[q]? = some ce) (hv : ce.vm = .none) (hcl : s.vm.findClass E = some ce.cls)
    (hx : ∀ t : State, t.heap = H → s.vm.Alike t.vm → XC E s t) (hf : ∀ z ∈ locs, free z.base) (hc : cells ≤ mc) (hs : slots ≤ ms) :
    vx_W p l e R s m args below meth c H locs cells slots (vx_MQ below Qc XC args s mc ms free) (F0 m pc ls rest) q := by
  intro T hT X
  have hpl : e.platform.magicAccessors = ({} : Platform).magicAccessors := by rw [X.admits.platform]
  obtain ⟨vm', hW', X', st⟩ := X.outThrough hlocks q (g := F0 m pc ls rest) rfl rfl rfl (cell := ce) (by rw [hT]; exact hcell) (by rw [hv]; rfl)
    (by obtain ⟨k9, h9, -⟩ := Vm.findClass_spec hcl; exact ⟨k9, h9⟩) (fun z hz => by
      rcases hpass z hz with h | ⟨hz0, nm, hl1, hn1⟩
      · exact Or.inl h
      · obtain ⟨c6, hc6, hcl6⟩ := Cond.classLink_spec hown hl1 e.platform hpl
        obtain ⟨a8, b8, h1, h2, h3⟩ := hn1
        cases Option.some.inj (h1.symm.trans hcl)
        cases Option.some.inj (h2.symm.trans hc6)
        exact Or.inr ⟨hz0, _, hcl6, h3⟩)
  obtain ⟨g₀, hfr⟩ := X'.frames_eq
  have hcell9 : ((T.setVm vm').setFrames (.throwing q :: below)).heap[q]? = some ce := by
    show T.heap[q]? = some ce
    rw [hT]; exact hcell
  have hend : Ended ((T.setVm vm').setFrames (.throwing q :: below)) below (.threw q) := State.frames_setFrames _ (State.cur_lt_of_frames hfr)
  refine ⟨(T.setVm vm').setFrames (.throwing q :: below), ?_, .threw q, X'.here.running, hend, Or.inr ⟨q, rfl, E, ce, locs, hx _ hT (X'.ends _).1.alike, hcell9, hv, hcl, (X'.ends _).1, (X'.ends _).2.mono hc hs, hf⟩⟩
  rw [X.pushThrowing_eq]
  exact st
/-- a thing of a world lies in the heap -/
theorem vx_lt {D : va_G} {cl : List vw_C} {ws : va_W} {H1 : Heap} (h : va_P D cl ws H1) {k : Nat} {q : Nat × va_E} (hk : ws[k]? = some q) : q.1 < H1.size := (h k q hk).lt
end VXS
/-! ===== END ===== -/
/-! ===== BEGIN methods with a table of their own: called by a name, returning or throwing ===== -/
section VXH
/-! vx_backW, vx_callVX, vx_callSX, vx_callVW, vx_runVW, vx_runVX, vx_runSX, vx_ofWH follow the same proofs as their sisters above (Free/Laws.lean, Shelf42/LK1.lean); vx_outP calls Shelf42/NT130.lean (outThrough). -/
section
variable {l : Launch} {R : Room} {p : Program} {e : Env} {below : List Frame} {s : State} {sargs : Array Value} {y : MethodName} {len W9 : Nat}
theorem vx_backW {ws : List Cond} {rm : Room} {Pc : Array Value → State → Prop} {Qc : Array Value → State → Outcome → State → Prop} {XC : String → State → State → Prop} {mc ms : Nat} {free : Addr → Prop} {bytes : ByteArray} {maxL : Nat} {ret : Option FieldType} {hh : List (Nat × Nat × Nat × Nat)}
    (hM : vx_Met l y ws rm Pc Qc XC mc ms free) (hblind : FrameBlind Pc) (hrc : rm.cells = mc) (hrs : rm.slots = ms)
    (hframes : rm.frames + 1 ≤ R.frames) (hlocals : W9 + (maxL + 11) + rm.locals ≤ R.locals)
    (hws : ∀ w ∈ ws, ∀ a' U, s.WarmedH U.vm → w.before a' U = true) (hcode : Cond.codeWith y bytes maxL ret hh ∈ ws) (hinit : ∀ a' U, s.WarmedH U.vm → (Cond.initialized y.cls).before a' U = true) :
    vx_Back l R p e below s sargs y len W9 (PreOf R mc ms Pc) (PostOf Qc mc ms free) (vx_Post XC mc ms free) := by
  intro m meth c A g ig mk a X hg hsize hdg hW hn hp
  have h1 : (headSpec ws rm).pre.before a A.U = true := atoms_intro fun w hw => hws w hw _ _ X.warmed
  have h2 : (Cond.codeWith y bytes maxL ret hh).before a A.U = true := hws _ hcode _ _ X.warmed
  have h3 : (Cond.initialized y.cls).before a A.U = true := hinit _ _ X.warmed
  have h4 : A.cells + (headSpec ws rm).room.cells ≤ R.cells := by rw [show (headSpec ws rm).room.cells = mc from hrc]; exact hp.1
  have h5 : A.slots + (headSpec ws rm).room.slots ≤ R.slots := by rw [show (headSpec ws rm).room.slots = ms from hrs]; exact hp.2.1
  have hPc : Pc a (A.U.calling g mk a) := hblind _ _ _ _ hp.2.2
  obtain ⟨U, Ls, c0, s0⟩ := A
  dsimp only [Pt.U, Pt.locs, Pt.cells, Pt.slots] at h1 h2 h3 h4 h5 X hn hPc ⊢
  obtain ⟨m9, methY, cY, hn9, hmY, hcY, -, hlY, -⟩ := Cond.codeWith_spec h2
  cases Option.some.inj (hn9.symm.trans hn)
  obtain ⟨kY, hkY, -⟩ := className_of_methodNamed hn
  have hinitY : kY.init = .initialized := Cond.initialized_spec (findClass_of_methodNamed hn) hkY h3
  have h : At U g.method c below := by rw [hg]; exact X.here
  have hlocals9 : W9 + (maxL + 11) + (headSpec ws rm).room.locals ≤ R.locals := hlocals
  have happ : (headSpec ws rm).appliesLoose y e.platform (U.calling g mk a) = true :=
    Spec.appliesLoose_calling (g := g) h hdg hn hkY hinitY
      (X.room_calling (g := g) (R' := (headSpec ws rm).room) hsize hmY hcY hframes (by rw [hlY]; omega) h4 h5) h1
  obtain ⟨mid, hmid⟩ := h.above
  have hfr : (U.setTop g).frames = (.java g :: mid) ++ below := by rw [State.frames_setTop' g h.top, hmid]; rfl
  obtain ⟨o, s₂, hsteps, -, hend, hq⟩ := Steps.callFree hM p X.admits X.cas X.clock (acts := []) hfr happ hPc trivial
  have hq' : vx_Q Qc XC mc ms free a (U.calling g mk a) o s₂ := hq
  rw [State.frames_setTop' g h.top] at hend
  obtain ⟨g₀, hg0⟩ := Option.isSome_iff_exists.mp h.top
  obtain ⟨r, hr⟩ := State.topJava?_eq_some.mp hg0
  have hr' : (({ U with heap := s₂.heap, slotsUsed := s₂.slotsUsed } : State).setVm s₂.vm).frames = .java g₀ :: r := hr
  rcases hq' with ⟨hqc, L, hfe, hL⟩ | ⟨q, rfl, E, ce, L, hx, hce, hcv, hcl, hW₂, hsm, hL⟩
  · obtain ⟨⟨v, rfl⟩, hW₂, e2, q2, q3, q4, q5, q6⟩ := id hfe
    have e3 : s₂ = ({ (U.calling g mk a).setFrames s₂.frames with heap := s₂.heap, slotsUsed := s₂.slotsUsed } : State).setVm s₂.vm := by
      have : s₂ = ({ s₂ with vm := (U.calling g mk a).vm } : State).setVm s₂.vm := rfl
      rw [e2] at this
      exact this
    obtain ⟨c₂, i₂, len₂, hc₂, hd₂, hf₂⟩ := hend
    have hW' : U.WarmedH s₂.vm := hW₂
    have hcc : c₂ = c := by
      have h1 : s₂.code? g.method = U.code? g.method := by
        rw [State.code?_eq, State.code?_eq, hW'.alike.method?]
      exact Option.some.inj (hc₂.symm.trans (h1.trans h.code))
    subst hcc
    have hlen : len₂ = len := by rw [hdg] at hd₂; cases hd₂; rfl
    subst hlen
    have hs₂ : s₂ = (({ U with heap := s₂.heap, slotsUsed := s₂.slotsUsed } : State).setVm s₂.vm).setTop { g with pc := g.pc + len₂, stack := v.toList ++ g.stack } := by
      refine e3.trans ?_
      rw [hf₂, State.calling_eq h.top, State.setFrames_setFrames, State.setTop_of_frames _ hr', hr]
      rfl
    have hsame : U.sameButNew ({ U with heap := s₂.heap, slotsUsed := s₂.slotsUsed } : State) L mc ms := by
      refine ⟨?_, q2, q3, q4, q5, q6⟩
      obtain ⟨t, ht, -⟩ := State.frames_cons hr
      show ({ U with heap := s₂.heap, slotsUsed := s₂.slotsUsed } : State) = { U.setFrames U.frames with heap := s₂.heap, slotsUsed := s₂.slotsUsed }
      rw [State.setFrames_self ht]
    subst hg
    refine Or.inl ⟨v, ⟨(({ U with heap := s₂.heap, slotsUsed := s₂.slotsUsed } : State).setVm s₂.vm), Ls ++ L, c0 + mc, s0 + ms⟩,
      ⟨X.admits, X.cas, X.clock, X.frames, X.room, X.hears, X.method, X.code, (X.here.setHeapUsed s₂.heap s₂.slotsUsed).setVm hW'.alike, X.tail, State.WarmedH.trans X.warmed hW', X.limits, X.bytes, X.same.trans (hsame.setVm s.vm)⟩,
      ⟨g, mk, s₂, L, rfl, rfl, hqc, rfl, hL, rfl, rfl⟩, ?_⟩
    show Steps p.tables e below _ ((({ U with heap := s₂.heap, slotsUsed := s₂.slotsUsed } : State).setVm s₂.vm).setTop { g with pc := g.pc + len₂, stack := v.toList ++ g.stack })
    rw [← hs₂]
    exact hsteps
  · obtain ⟨e2, q2, q3, q4, q5, q6⟩ := id hsm
    have e3 : s₂ = ({ (U.calling g mk a).setFrames s₂.frames with heap := s₂.heap, slotsUsed := s₂.slotsUsed } : State).setVm s₂.vm := by
      have : s₂ = ({ s₂ with vm := (U.calling g mk a).vm } : State).setVm s₂.vm := rfl
      rw [e2] at this
      exact this
    have hf₂ : s₂.frames = .throwing q :: .java g :: U.frames.tail := hend
    have hW' : U.WarmedH s₂.vm := hW₂
    have hs₂ : s₂ = ((({ U with heap := s₂.heap, slotsUsed := s₂.slotsUsed } : State).setVm s₂.vm).setTop g).pushFrame (.throwing q) := by
      refine e3.trans ?_
      rw [hf₂, State.calling_eq h.top, State.setFrames_setFrames, State.pushFrame, State.frames_setTop _ hr', State.setTop_of_frames _ hr', State.setFrames_setFrames, hr]
      rfl
    have hsame : U.sameButNew ({ U with heap := s₂.heap, slotsUsed := s₂.slotsUsed } : State) L mc ms := by
      refine ⟨?_, q2, q3, q4, q5, q6⟩
      obtain ⟨t, ht, -⟩ := State.frames_cons hr
      show ({ U with heap := s₂.heap, slotsUsed := s₂.slotsUsed } : State) = { U.setFrames U.frames with heap := s₂.heap, slotsUsed := s₂.slotsUsed }
      rw [State.setFrames_self ht]
    subst hg
    refine Or.inr ⟨q, ⟨(({ U with heap := s₂.heap, slotsUsed := s₂.slotsUsed } : State).setVm s₂.vm), Ls ++ L, c0 + mc, s0 + ms⟩,
      ⟨X.admits, X.cas, X.clock, X.frames, X.room, X.hears, X.method, X.code, (X.here.setHeapUsed s₂.heap s₂.slotsUsed).setVm hW'.alike, X.tail, State.WarmedH.trans X.warmed hW', X.limits, X.bytes, X.same.trans (hsame.setVm s.vm)⟩,
      ⟨g, mk, s₂, L, E, ce, rfl, rfl, hx, hce, hcv, hcl, rfl, hL, rfl, rfl⟩, ?_⟩
    show Steps p.tables e below _ (((({ U with heap := s₂.heap, slotsUsed := s₂.slotsUsed } : State).setVm s₂.vm).setTop g).pushFrame (.throwing q))
    rw [← hs₂]
    exact hsteps
end
variable {p : Program} {l : Launch} {e : Env} {R : Room} {s : State} {m : MethodId} {args : Array Value} {below : List Frame} {meth : Method} {c : Code} {T : State} {H : Heap} {locs : List Loc} {cells slots : Nat}
theorem vx_callVX (X : Stand p l e R s m args below meth c T locs cells slots) (hexec : p.tables.exec = Jvm.exec) {own C : String} {index : Nat} {y : MethodName} {bytes : ByteArray} {maxL : Nat} {ret : Option FieldType} {hh : List (Nat × Nat × Nat × Nat)}
    (hown : s.vm.findClass own = some m.cls) (hlink : (Cond.methodLink own index y).before args s = true) (hinst : (Cond.instanceMethod y).before args s = true) (hsel : (Cond.selects C y y).before args s = true)
    (hcode : (Cond.codeWith y bytes maxL ret hh).before args s = true) (hy : y.cls ≠ "java/lang/invoke/MethodHandle" ∧ y.cls ≠ "java/lang/invoke/VarHandle")
    {W9 : Nat} {Pre : Pt → Array Value → Prop} {Post : Pt → Array Value → Option Value → Pt → Prop} {PostX : Pt → Array Value → Addr → Pt → Prop} (hK : vx_Back l R p e below s args y 3 W9 Pre Post PostX)
    {b : Addr} {cellB : Cell} (hcell : T.heap[b]? = some cellB) (hobj : cellB.vm.isStatics = false) (hcls : s.vm.findClass C = some cellB.cls)
    {g : JFrame} (hg : g.method = m) (hsize : g.locals.size = c.maxLocals) {argsL rest : List Value} (hlen : ∀ sig, parseMethodDescriptor y.desc = some sig → argsL.length = sig.parameters.length)
    (hstack : g.stack = argsL.reverse ++ .ref b :: rest) (hW : 2 * g.monitorRoom + (rest.map fun v => v.category).sum ≤ W9) (hdg : decode c.code g.pc = .ok (.invokevirtual index, 3))
    (hpre : ∀ vm₁, s.WarmedH vm₁ → Pre ⟨T.setVm vm₁, locs, cells, slots⟩ (Value.ref b :: argsL).toArray) :
    (∃ (v : Option Value) (vm₁ : Vm) (B : Pt), s.WarmedH vm₁ ∧ Stand p l e R s m args below meth c B.U B.locs B.cells B.slots ∧ Post ⟨T.setVm vm₁, locs, cells, slots⟩ (Value.ref b :: argsL).toArray v B ∧
      ∀ target, Steps p.tables e below (B.U.setTop { g with pc := g.pc + 3, stack := v.toList ++ rest }) target → Steps p.tables e below (T.setTop g) target) ∨
    (∃ (q : Addr) (vm₁ : Vm) (B : Pt), s.WarmedH vm₁ ∧ Stand p l e R s m args below meth c B.U B.locs B.cells B.slots ∧ PostX ⟨T.setVm vm₁, locs, cells, slots⟩ (Value.ref b :: argsL).toArray q B ∧
      Steps p.tables e below (T.setTop g) ((B.U.setTop { g with stack := rest }).pushFrame (.throwing q))) := by
  obtain ⟨mk, methM, hnamed, hmethM, hstM, habM⟩ := Cond.instanceMethod_spec hinst
  obtain ⟨m8, methM', cM, hn8, hmethM', -, -, -, -, -, -, hsigM⟩ := Cond.codeWith_spec hcode
  cases Option.some.inj (hn8.symm.trans hnamed)
  cases hmethM.symm.trans hmethM'
  obtain ⟨c2, r2, m2, q1, q2, q3, q4, kP, hkP, hkPi⟩ := Cond.selects_spec hsel
  cases hcls.symm.trans q1
  cases (State.methodFound?_of_named hnamed hy).symm.trans q2
  cases hnamed.symm.trans q3
  have hselP : selectMethod e.platform s.vm cellB.cls mk = .method mk := by rw [Launch.admits_selectMethod X.admits]; exact q4
  obtain ⟨vm₁, X₁, hstep₁⟩ := X.invokevirtual hexec hown hlink hnamed hmethM hstM hkP hkPi hy (a := b) (cell := cellB) hcell
    (fun z h => by rw [h] at hobj; cases hobj) hselP hmethM habM hkP hkPi (g := g) hg (argsL := argsL) (rest := rest) (hlen _ hsigM) hstack hdg
  rcases hK m meth c ⟨T.setVm vm₁, locs, cells, slots⟩ { g with stack := rest } (.invokevirtual index) mk (Value.ref b :: argsL).toArray X₁ hg hsize hdg hW (X₁.named hnamed) (hpre vm₁ X₁.warmed) with ⟨v, B, X', hpost, hsteps⟩ | ⟨q, B, X', hpost, hsteps⟩
  · exact Or.inl ⟨v, vm₁, B, X₁.warmed, X', hpost, fun target h => hstep₁ _ fun acts => by rw [doInvoke_state]; exact hsteps.trans h⟩
  · exact Or.inr ⟨q, vm₁, B, X₁.warmed, X', hpost, hstep₁ _ fun acts => by rw [doInvoke_state]; exact hsteps⟩
theorem vx_callSX (X : Stand p l e R s m args below meth c T locs cells slots) (hexec : p.tables.exec = Jvm.exec) {own : String} {index : Nat} {y : MethodName} {bytes : ByteArray} {maxL : Nat} {ret : Option FieldType} {hh : List (Nat × Nat × Nat × Nat)}
    (hown : s.vm.findClass own = some m.cls) (hlink : (Cond.methodLink own index y).before args s = true) (hstat : (Cond.static y).before args s = true) (hinit : (Cond.initialized y.cls).before args s = true)
    (hcode : (Cond.codeWith y bytes maxL ret hh).before args s = true) (hy : y.cls ≠ "java/lang/invoke/MethodHandle" ∧ y.cls ≠ "java/lang/invoke/VarHandle")
    {W9 : Nat} {Pre : Pt → Array Value → Prop} {Post : Pt → Array Value → Option Value → Pt → Prop} {PostX : Pt → Array Value → Addr → Pt → Prop} (hK : vx_Back l R p e below s args y 3 W9 Pre Post PostX)
    {g : JFrame} (hg : g.method = m) (hsize : g.locals.size = c.maxLocals) {argsL rest : List Value} (hlen : ∀ sig, parseMethodDescriptor y.desc = some sig → argsL.length = sig.parameters.length)
    (hstack : g.stack = argsL.reverse ++ rest) (hW : 2 * g.monitorRoom + (rest.map fun v => v.category).sum ≤ W9) (hdg : decode c.code g.pc = .ok (.invokestatic index, 3))
    (hpre : ∀ vm₁, s.WarmedH vm₁ → Pre ⟨T.setVm vm₁, locs, cells, slots⟩ argsL.toArray) :
    (∃ (v : Option Value) (vm₁ : Vm) (B : Pt), s.WarmedH vm₁ ∧ Stand p l e R s m args below meth c B.U B.locs B.cells B.slots ∧ Post ⟨T.setVm vm₁, locs, cells, slots⟩ argsL.toArray v B ∧
      ∀ target, Steps p.tables e below (B.U.setTop { g with pc := g.pc + 3, stack := v.toList ++ rest }) target → Steps p.tables e below (T.setTop g) target) ∨
    (∃ (q : Addr) (vm₁ : Vm) (B : Pt), s.WarmedH vm₁ ∧ Stand p l e R s m args below meth c B.U B.locs B.cells B.slots ∧ PostX ⟨T.setVm vm₁, locs, cells, slots⟩ argsL.toArray q B ∧
      Steps p.tables e below (T.setTop g) ((B.U.setTop { g with stack := rest }).pushFrame (.throwing q))) := by
  obtain ⟨mk, methM, cM, hnamed, hmethM, -, -, -, -, -, -, hsigM⟩ := Cond.codeWith_spec hcode
  have hstatic : methM.isStatic = true := Cond.static_spec hnamed hmethM hstat
  obtain ⟨kP, hkP, -⟩ := className_of_methodNamed hnamed
  have hinitP : kP.init = .initialized := Cond.initialized_spec (findClass_of_methodNamed hnamed) hkP hinit
  obtain ⟨vm₁, X₁, hstep₁⟩ := X.invokestatic hexec hown hlink hnamed hmethM hstatic hkP hinitP hy (g := g) hg (argsL := argsL) (rest := rest) (hlen _ hsigM) hstack hdg
  rcases hK m meth c ⟨T.setVm vm₁, locs, cells, slots⟩ { g with stack := rest } (.invokestatic index) mk argsL.toArray X₁ hg hsize hdg hW (X₁.named hnamed) (hpre vm₁ X₁.warmed) with ⟨v, B, X', hpost, hsteps⟩ | ⟨q, B, X', hpost, hsteps⟩
  · exact Or.inl ⟨v, vm₁, B, X₁.warmed, X', hpost, fun target h => hstep₁ _ fun acts => by rw [doInvoke_state]; exact hsteps.trans h⟩
  · exact Or.inr ⟨q, vm₁, B, X₁.warmed, X', hpost, hstep₁ _ fun acts => by rw [doInvoke_state]; exact hsteps⟩
theorem vx_callVW (X : Stand p l e R s m args below meth c T locs cells slots) (hexec : p.tables.exec = Jvm.exec) {own C : String} {index : Nat} {y : MethodName} {bytes : ByteArray} {maxL : Nat} {ret : Option FieldType} {hh : List (Nat × Nat × Nat × Nat)}
    (hown : s.vm.findClass own = some m.cls) (hlink : (Cond.methodLink own index y).before args s = true) (hinst : (Cond.instanceMethod y).before args s = true) (hsel : (Cond.selects C y y).before args s = true)
    (hcode : (Cond.codeWith y bytes maxL ret hh).before args s = true) (hy : y.cls ≠ "java/lang/invoke/MethodHandle" ∧ y.cls ≠ "java/lang/invoke/VarHandle")
    {W9 : Nat} {Pre : Pt → Array Value → Prop} {Post : Pt → Array Value → Option Value → Pt → Prop} (hK : Back l R p e below s args y 3 W9 Pre Post)
    {b : Addr} {cellB : Cell} (hcell : T.heap[b]? = some cellB) (hobj : cellB.vm.isStatics = false) (hcls : s.vm.findClass C = some cellB.cls)
    {g : JFrame} (hg : g.method = m) (hsize : g.locals.size = c.maxLocals) {argsL rest : List Value} (hlen : ∀ sig, parseMethodDescriptor y.desc = some sig → argsL.length = sig.parameters.length)
    (hstack : g.stack = argsL.reverse ++ .ref b :: rest) (hW : 2 * g.monitorRoom + (rest.map fun v => v.category).sum ≤ W9) (hdg : decode c.code g.pc = .ok (.invokevirtual index, 3))
    (hpre : ∀ vm₁, s.WarmedH vm₁ → Pre ⟨T.setVm vm₁, locs, cells, slots⟩ (Value.ref b :: argsL).toArray) :
    ∃ (v : Option Value) (vm₁ : Vm) (B : Pt), s.WarmedH vm₁ ∧ Stand p l e R s m args below meth c B.U B.locs B.cells B.slots ∧ Post ⟨T.setVm vm₁, locs, cells, slots⟩ (Value.ref b :: argsL).toArray v B ∧
      ∀ target, Steps p.tables e below (B.U.setTop { g with pc := g.pc + 3, stack := v.toList ++ rest }) target → Steps p.tables e below (T.setTop g) target := by
  obtain ⟨mk, methM, hnamed, hmethM, hstM, habM⟩ := Cond.instanceMethod_spec hinst
  obtain ⟨m8, methM', cM, hn8, hmethM', -, -, -, -, -, -, hsigM⟩ := Cond.codeWith_spec hcode
  cases Option.some.inj (hn8.symm.trans hnamed)
  cases hmethM.symm.trans hmethM'
  obtain ⟨c2, r2, m2, q1, q2, q3, q4, kP, hkP, hkPi⟩ := Cond.selects_spec hsel
  cases hcls.symm.trans q1
  cases (State.methodFound?_of_named hnamed hy).symm.trans q2
  cases hnamed.symm.trans q3
  have hselP : selectMethod e.platform s.vm cellB.cls mk = .method mk := by rw [Launch.admits_selectMethod X.admits]; exact q4
  obtain ⟨vm₁, X₁, hstep₁⟩ := X.invokevirtual hexec hown hlink hnamed hmethM hstM hkP hkPi hy (a := b) (cell := cellB) hcell
    (fun z h => by rw [h] at hobj; cases hobj) hselP hmethM habM hkP hkPi (g := g) hg (argsL := argsL) (rest := rest) (hlen _ hsigM) hstack hdg
  obtain ⟨v, B, X', hpost, hsteps⟩ := hK m meth c ⟨T.setVm vm₁, locs, cells, slots⟩ { g with stack := rest } (.invokevirtual index) mk (Value.ref b :: argsL).toArray X₁ hg hsize hdg hW (X₁.named hnamed) (hpre vm₁ X₁.warmed)
  exact ⟨v, vm₁, B, X₁.warmed, X', hpost, fun target h => hstep₁ _ fun acts => by rw [doInvoke_state]; exact hsteps.trans h⟩
abbrev vx_CVW (R : Room) (s : State) (args : Array Value) (own C : String) (index : Nat) (y : MethodName) (bytes : ByteArray) (maxL : Nat) (ret : Option FieldType) (hh : List (Nat × Nat × Nat × Nat)) (ws : List Cond) (rm : Room) (mc ms n : Nat) : Prop :=
  (rm.cells = mc ∧ rm.slots = ms ∧ rm.frames + 1 ≤ R.frames ∧ 8 + (maxL + 11) + rm.locals ≤ R.locals ∧ (∀ w ∈ ws, ∀ (a' : Array Value) (U : State), s.WarmedH U.vm → w.before a' U = true) ∧ Cond.codeWith y bytes maxL ret hh ∈ ws) ∧
  (Cond.codeWith y bytes maxL ret hh).before args s = true ∧ (Cond.initialized y.cls).before args s = true ∧ (y.cls ≠ "java/lang/invoke/MethodHandle" ∧ y.cls ≠ "java/lang/invoke/VarHandle") ∧
  (∀ sig, parseMethodDescriptor y.desc = some sig → n = sig.parameters.length) ∧ (Cond.methodLink own index y).before args s = true ∧ (Cond.instanceMethod y).before args s = true ∧ (Cond.selects C y y).before args s = true
theorem vx_cwVW {own C : String} {index maxL mc ms : Nat} {y : MethodName} {bytes : ByteArray} {ret : Option FieldType} {hh : List (Nat × Nat × Nat × Nat)} {Ts ws ws' : List Cond} {rm : Room} (n : Nat) (ht : ∀ w ∈ Ts, w.before args s = true) (hT : GoodIn Ts (wsV own index C y ws)) (hw : ws = Cond.codeWith y bytes maxL ret hh :: ws') (hrc : rm.cells = mc) (hrs : rm.slots = ms)
    (hd : y.cls = C ∧ y.cls ≠ "java/lang/invoke/MethodHandle" ∧ y.cls ≠ "java/lang/invoke/VarHandle" ∧ (parseMethodDescriptor y.desc).map (fun d => d.parameters.length) = some n) (hR : rm.frames + 1 ≤ R.frames ∧ 8 + (maxL + 11) + rm.locals ≤ R.locals) :
    vx_CVW R s args own C index y bytes maxL ret hh ws rm mc ms n := by
  obtain ⟨hC, hd⟩ := hd
  subst hC
  have ok : ∀ w ∈ wsV own index y.cls y ws, w.before args s = true := fun w h => ht w (hT w h).1
  have hG : GoodIn Ts ws := fun w h => hT w (by unfold wsV; exact List.mem_append_right _ h)
  have hc : Cond.codeWith y bytes maxL ret hh ∈ ws := by rw [hw]; exact List.mem_cons_self
  refine ⟨⟨hrc, hrs, hR.1, hR.2, pay_in ht hG, hc⟩, ht _ (hG _ hc).1, ok _ (by simp [wsV]), ⟨hd.1, hd.2.1⟩, fun sig h => ?_, ok _ (by simp [wsV]), ok _ (by simp [wsV]), ok _ (by simp [wsV])⟩
  have h2 := hd.2.2
  rw [h] at h2
  exact (Option.some.inj h2).symm
theorem vx_runVW {y : MethodName} {bytes cc : ByteArray} {maxL nL mc ms n index : Nat} {ret : Option FieldType} {hh : List (Nat × Nat × Nat × Nat)} {ws : List Cond} {rm : Room} {Pc : Array Value → State → Prop} {Qc : Array Value → State → Outcome → State → Prop} {free : Addr → Prop} {Ts : List Cond} {own C : String} {b : Addr} {As rest : List Value} {g : JFrame}
    (S : CallFix p m c cc nL s args Ts own) (hM : Met l y ws rm Pc Qc mc ms free) (cw : vx_CVW R s args own C index y bytes maxL ret hh ws rm mc ms n) (hp : PreV s H C b Pc As)
    (hg : g.method = m) (hn : As.length = n) (hsize : g.locals.size = nL) (hstack : g.stack = As.reverse ++ .ref b :: rest) (hW : 2 * g.monitorRoom + (rest.map fun v => v.category).sum ≤ 8) (hdg : decode cc g.pc = .ok (.invokevirtual index, 3)) (hf : cells + mc ≤ R.cells ∧ slots + ms ≤ R.slots) :
    va_Run p l e R s m args below meth c H locs cells slots mc ms g rest (Qc (Value.ref b :: As).toArray) free := by
  obtain ⟨⟨hrc, hrs, hfr, hlo, hws, hcw⟩, hcode, hini, hy, hlen, hl, hin, hse⟩ := cw
  have hK : Back l R p e below s args y 3 8 (PreOf R mc ms Pc) (PostOf Qc mc ms free) := va_backW (hh := hh) (bytes := bytes) (maxL := maxL) (ret := ret) hM hp.1 hrc hrs hfr hlo hws hcw (fun a' U hW => word_at hW (Or.inl (by first | rfl | simp [Cond.onTables, Cond.keeps, Cond.steady])) hini)
  obtain ⟨hx, hb, hml, ho, -⟩ := S
  obtain ⟨-, ⟨cellB, hcB, hoB, hclB⟩, hPc⟩ := hp
  intro T hT X
  obtain ⟨v, vm₁, ⟨U', l2, c2, s2⟩, hW₁, X', ⟨g', mk, t, L, e1, e2, hq, h1, hL, h2, h3⟩, st⟩ := vx_callVW X hx (C := C) (hh := hh) (bytes := bytes) (maxL := maxL) (ret := ret) ho hl hin hse hcode hy hK (by rw [hT]; exact hcB) hoB hclB hg (hsize.trans hml.symm) (argsL := As) (rest := rest) (fun sig h => hn.trans (hlen sig h)) hstack hW (by rw [hb]; exact hdg)
    (fun vm₁ hW₁ => ⟨hf.1, hf.2, hPc (T.setVm vm₁) hT hW₁⟩)
  dsimp only [Pt.U, Pt.locs, Pt.cells, Pt.slots] at X' e1 e2 h1 h2 h3 st
  subst h1; subst h2; subst h3
  exact ⟨v, (T.setVm vm₁).calling g' mk (Value.ref b :: As).toArray, t, U', L, hT, X', hL, e1, e2, hq, st⟩
section
variable {y : MethodName} {bytes cc : ByteArray} {maxL nL mc ms n index : Nat} {ret : Option FieldType} {ws : List Cond} {rm : Room} {Pc : Array Value → State → Prop} {Qc : Array Value → State → Outcome → State → Prop} {XC : String → State → State → Prop} {free : Addr → Prop} {Ts : List Cond} {own C : String} {b : Addr} {As rest : List Value} {g : JFrame}
theorem vx_runVX {hh : List (Nat × Nat × Nat × Nat)} (S : CallFix p m c cc nL s args Ts own) (hM : vx_Met l y ws rm Pc Qc XC mc ms free) (cw : vx_CVW R s args own C index y bytes maxL ret hh ws rm mc ms n) (hp : PreV s H C b Pc As)
    (hg : g.method = m) (hn : As.length = n) (hsize : g.locals.size = nL) (hstack : g.stack = As.reverse ++ .ref b :: rest) (hW : 2 * g.monitorRoom + (rest.map fun v => v.category).sum ≤ 8) (hdg : decode cc g.pc = .ok (.invokevirtual index, 3)) (hf : cells + mc ≤ R.cells ∧ slots + ms ≤ R.slots) :
    vx_Run p l e R s m args below meth c H locs cells slots mc ms g rest (Qc (Value.ref b :: As).toArray) XC free := by
  obtain ⟨⟨hrc, hrs, hfr, hlo, hws, hcw⟩, hcode, hini, hy, hlen, hl, hin, hse⟩ := cw
  have hK : vx_Back l R p e below s args y 3 8 (PreOf R mc ms Pc) (PostOf Qc mc ms free) (vx_Post XC mc ms free) := vx_backW (hh := hh) (bytes := bytes) (maxL := maxL) (ret := ret) hM hp.1 hrc hrs hfr hlo hws hcw (fun a' U hW => word_at hW (Or.inl (by first | rfl | simp [Cond.onTables, Cond.keeps, Cond.steady])) hini)
  obtain ⟨hx, hb, hml, ho, -⟩ := S
  obtain ⟨-, ⟨cellB, hcB, hoB, hclB⟩, hPc⟩ := hp
  intro T hT X
  rcases vx_callVX X hx (C := C) (hh := hh) (bytes := bytes) (maxL := maxL) (ret := ret) ho hl hin hse hcode hy hK (by rw [hT]; exact hcB) hoB hclB hg (hsize.trans hml.symm) (argsL := As) (rest := rest) (fun sig h => hn.trans (hlen sig h)) hstack hW (by rw [hb]; exact hdg)
    (fun vm₁ hW₁ => ⟨hf.1, hf.2, hPc (T.setVm vm₁) hT hW₁⟩) with ⟨v, vm₁, ⟨U', l2, c2, s2⟩, hW₁, X', ⟨g', mk, t, L, e1, e2, hq, h1, hL, h2, h3⟩, st⟩ | ⟨q, vm₁, ⟨U', l2, c2, s2⟩, hW₁, X', ⟨g', mk, t, L, E, ce, e1, e2, hq, hce, hcv, hcl, h1, hL, h2, h3⟩, st⟩
  · dsimp only [Pt.U, Pt.locs, Pt.cells, Pt.slots] at X' e1 e2 h1 h2 h3 st
    subst h1; subst h2; subst h3
    exact Or.inl ⟨v, (T.setVm vm₁).calling g' mk (Value.ref b :: As).toArray, t, U', L, hT, X', hL, e1, e2, hq, st⟩
  · dsimp only [Pt.U, Pt.locs, Pt.cells, Pt.slots] at X' e1 e2 h1 h2 h3 st hcl
    subst h1; subst h2; subst h3
    exact Or.inr ⟨q, (T.setVm vm₁).calling g' mk (Value.ref b :: As).toArray, t, U', L, E, ce, hT, X', hL, e1, e2, hq, hce, hcv, vx_cls hW₁ hcl, st⟩
theorem vx_runSX {hh : List (Nat × Nat × Nat × Nat)} (S : CallFix p m c cc nL s args Ts own) (hM : vx_Met l y ws rm Pc Qc XC mc ms free) (cw : vx_CSW R s args own index y bytes maxL ret hh ws rm mc ms n) (hp : PreS s H Pc As)
    (hg : g.method = m) (hn : As.length = n) (hsize : g.locals.size = nL) (hstack : g.stack = As.reverse ++ rest) (hW : 2 * g.monitorRoom + (rest.map fun v => v.category).sum ≤ 8) (hdg : decode cc g.pc = .ok (.invokestatic index, 3)) (hf : cells + mc ≤ R.cells ∧ slots + ms ≤ R.slots) :
    vx_Run p l e R s m args below meth c H locs cells slots mc ms g rest (Qc As.toArray) XC free := by
  obtain ⟨⟨hrc, hrs, hfr, hlo, hws, hcw⟩, hcode, hini, hy, hlen, hl, hstt⟩ := cw
  have hK : vx_Back l R p e below s args y 3 8 (PreOf R mc ms Pc) (PostOf Qc mc ms free) (vx_Post XC mc ms free) := vx_backW (hh := hh) (bytes := bytes) (maxL := maxL) (ret := ret) hM hp.1 hrc hrs hfr hlo hws hcw (fun a' U hW => word_at hW (Or.inl (by first | rfl | simp [Cond.onTables, Cond.keeps, Cond.steady])) hini)
  obtain ⟨hx, hb, hml, ho, -⟩ := S
  intro T hT X
  rcases vx_callSX X hx (hh := hh) (bytes := bytes) (maxL := maxL) (ret := ret) ho hl hstt hini hcode hy hK hg (hsize.trans hml.symm) (argsL := As) (rest := rest) (fun sig h => hn.trans (hlen sig h)) hstack hW (by rw [hb]; exact hdg)
    (fun vm₁ hW₁ => ⟨hf.1, hf.2, hp.2 (T.setVm vm₁) hT hW₁⟩) with ⟨v, vm₁, ⟨U', l2, c2, s2⟩, hW₁, X', ⟨g', mk, t, L, e1, e2, hq, h1, hL, h2, h3⟩, st⟩ | ⟨q, vm₁, ⟨U', l2, c2, s2⟩, hW₁, X', ⟨g', mk, t, L, E, ce, e1, e2, hq, hce, hcv, hcl, h1, hL, h2, h3⟩, st⟩
  · dsimp only [Pt.U, Pt.locs, Pt.cells, Pt.slots] at X' e1 e2 h1 h2 h3 st
    subst h1; subst h2; subst h3
    exact Or.inl ⟨v, (T.setVm vm₁).calling g' mk As.toArray, t, U', L, hT, X', hL, e1, e2, hq, st⟩
  · dsimp only [Pt.U, Pt.locs, Pt.cells, Pt.slots] at X' e1 e2 h1 h2 h3 st hcl
    subst h1; subst h2; subst h3
    exact Or.inr ⟨q, (T.setVm vm₁).calling g' mk As.toArray, t, U', L, E, ce, hT, X', hL, e1, e2, hq, hce, hcv, vx_cls hW₁ hcl, st⟩
end
end VXH
theorem vx_ofWH {l : Launch} {y : MethodName} {ws ws' : List Cond} {rm : Room} {Pc : Array Value → State → Prop} {Qc : Array Value → State → Outcome → State → Prop} {XC : String → State → State → Prop} {mc ms : Nat} {free : Addr → Prop} {cc : ByteArray} {maxL : Nat} {ret : Option FieldType} {hh : List (Nat × Nat × Nat × Nat)}
    (hy : plainName y.cls = true) (hw : ws = Cond.codeWith y cc maxL ret hh :: ws')
    (body : ∀ p e s m args below meth c s₁, BodyLoose p l y (headSpec ws rm) cc maxL ret e s m args below meth c s₁ → c.maxLocals = maxL → Pc args s →
      W p l e (headSpec ws rm).room s m args below meth c s.heap [] 0 0 (vx_MQ below Qc XC args s mc ms free) (entryFrame m args maxL)) : vx_Met l y ws rm Pc Qc XC mc ms free := by
  refine MetFree.of_bodyS (code := cc) (maxLocals := maxL) (ret := ret) hy ?_ ?_
  · intro args s m h hn
    obtain ⟨m9, meth, c, hn9, h1, h2, h3, h4, -, h5, h6, -⟩ := Cond.codeWith_spec (atoms_spec (ws := ws) h _ (by rw [hw]; exact List.mem_cons_self))
    cases hn.symm.trans hn9
    exact ⟨meth, c, h1, h2, h3, h4, h5, h6⟩
  · intro p e s m args below meth c s₁ B hml hP _
    have hh0 : s₁.heap = s.heap := by rw [B.state]; rfl
    obtain ⟨t, a1, o, b1, b2, b3⟩ := body p e s m args below meth c s₁ B hml hP s₁ hh0 (Stand.of_body B)
    exact ⟨t, o, a1, b1, b2, b3⟩
/-! ===== END ===== -/
end
section
section PA
-- ===== PART A: goes FIRST, ahead of the names: the tables' words, and 'selects' of the private methods out of them =====
/-- a private method of a class that the tables say can be made, by its rows of tables_1 -/
def lw_okq (q : MethodName × Nat) : Prop := (q.1.cls ≠ "java/lang/invoke/MethodHandle" ∧ q.1.cls ≠ "java/lang/invoke/VarHandle") ∧ Cond.instantiable q.1.cls q.2 ∈ tables_1 ∧ Cond.privateMethod q.1 ∈ tables_1 ∧ Cond.instanceMethod q.1 ∈ tables_1
theorem lw_p0 : lw_okq (⟨"ColourParts", "countPieces", "()I"⟩, 6) := ⟨⟨by decide +kernel, by decide +kernel⟩, List.mem_of_getElem? (i := 26) (by decide +kernel), List.mem_of_getElem? (i := 122) (by decide +kernel), List.mem_of_getElem? (i := 123) (by decide +kernel)⟩
theorem lw_p1 : lw_okq (⟨"java/lang/Throwable", "fillInStackTrace", "(I)Ljava/lang/Throwable;"⟩, 6) := ⟨⟨by decide +kernel, by decide +kernel⟩, List.mem_of_getElem? (i := 179) (by decide +kernel), List.mem_of_getElem? (i := 177) (by decide +kernel), List.mem_of_getElem? (i := 178) (by decide +kernel)⟩
theorem lw_p2 : lw_okq (⟨"java/util/ArrayList", "add", "(Ljava/lang/Object;[Ljava/lang/Object;I)V"⟩, 3) := ⟨⟨by decide +kernel, by decide +kernel⟩, List.mem_of_getElem? (i := 34) (by decide +kernel), List.mem_of_getElem? (i := 254) (by decide +kernel), List.mem_of_getElem? (i := 255) (by decide +kernel)⟩
theorem lw_p3 : lw_okq (⟨"java/util/ArrayList", "grow", "()[Ljava/lang/Object;"⟩, 3) := ⟨⟨by decide +kernel, by decide +kernel⟩, List.mem_of_getElem? (i := 34) (by decide +kernel), List.mem_of_getElem? (i := 258) (by decide +kernel), List.mem_of_getElem? (i := 259) (by decide +kernel)⟩
theorem lw_p4 : lw_okq (⟨"java/util/ArrayList", "grow", "(I)[Ljava/lang/Object;"⟩, 3) := ⟨⟨by decide +kernel, by decide +kernel⟩, List.mem_of_getElem? (i := 34) (by decide +kernel), List.mem_of_getElem? (i := 262) (by decide +kernel), List.mem_of_getElem? (i := 263) (by decide +kernel)⟩
theorem lw_p5 : lw_okq (⟨"ColourParts", "needShape", "(I)V"⟩, 6) := ⟨⟨by decide +kernel, by decide +kernel⟩, List.mem_of_getElem? (i := 26) (by decide +kernel), List.mem_of_getElem? (i := 318) (by decide +kernel), List.mem_of_getElem? (i := 319) (by decide +kernel)⟩
theorem lw_p6 : lw_okq (⟨"ColourParts", "findNearOnes", "(I)V"⟩, 6) := ⟨⟨by decide +kernel, by decide +kernel⟩, List.mem_of_getElem? (i := 26) (by decide +kernel), List.mem_of_getElem? (i := 390) (by decide +kernel), List.mem_of_getElem? (i := 391) (by decide +kernel)⟩
theorem lw_p7 : lw_okq (⟨"ColourParts$Box", "isNearBox", "(LColourParts$Box;J)Z"⟩, 4) := ⟨⟨by decide +kernel, by decide +kernel⟩, List.mem_of_getElem? (i := 364) (by decide +kernel), List.mem_of_getElem? (i := 406) (by decide +kernel), List.mem_of_getElem? (i := 407) (by decide +kernel)⟩
theorem lw_p8 : lw_okq (⟨"ColourParts", "needNoneOpen", "()V"⟩, 6) := ⟨⟨by decide +kernel, by decide +kernel⟩, List.mem_of_getElem? (i := 26) (by decide +kernel), List.mem_of_getElem? (i := 421) (by decide +kernel), List.mem_of_getElem? (i := 422) (by decide +kernel)⟩
theorem lw_p9 : lw_okq (⟨"ColourParts", "cutShapes", "()LColourParts$Pieces;"⟩, 6) := ⟨⟨by decide +kernel, by decide +kernel⟩, List.mem_of_getElem? (i := 26) (by decide +kernel), List.mem_of_getElem? (i := 445) (by decide +kernel), List.mem_of_getElem? (i := 446) (by decide +kernel)⟩
theorem lw_p10 : lw_okq (⟨"ColourParts$Shape", "cutBox", "(LColourParts$Box;I)LColourParts$Box;"⟩, 9) := ⟨⟨by decide +kernel, by decide +kernel⟩, List.mem_of_getElem? (i := 208) (by decide +kernel), List.mem_of_getElem? (i := 466) (by decide +kernel), List.mem_of_getElem? (i := 467) (by decide +kernel)⟩
theorem lw_p11 : lw_okq (⟨"ColourParts$Search", "goOn", "(III)V"⟩, 9) := ⟨⟨by decide +kernel, by decide +kernel⟩, List.mem_of_getElem? (i := 511) (by decide +kernel), List.mem_of_getElem? (i := 574) (by decide +kernel), List.mem_of_getElem? (i := 575) (by decide +kernel)⟩
theorem lw_p12 : lw_okq (⟨"ColourParts$Search", "isDeadEnd", "(I)Z"⟩, 9) := ⟨⟨by decide +kernel, by decide +kernel⟩, List.mem_of_getElem? (i := 511) (by decide +kernel), List.mem_of_getElem? (i := 578) (by decide +kernel), List.mem_of_getElem? (i := 579) (by decide +kernel)⟩
theorem lw_p13 : lw_okq (⟨"ColourParts$Search", "canHave", "(II)Z"⟩, 9) := ⟨⟨by decide +kernel, by decide +kernel⟩, List.mem_of_getElem? (i := 511) (by decide +kernel), List.mem_of_getElem? (i := 582) (by decide +kernel), List.mem_of_getElem? (i := 583) (by decide +kernel)⟩
theorem lw_p14 : lw_okq (⟨"ColourParts$Search", "tryColour", "(IIII)V"⟩, 9) := ⟨⟨by decide +kernel, by decide +kernel⟩, List.mem_of_getElem? (i := 511) (by decide +kernel), List.mem_of_getElem? (i := 587) (by decide +kernel), List.mem_of_getElem? (i := 588) (by decide +kernel)⟩
theorem lw_p15 : lw_okq (⟨"ColourParts$Colouring", "weigh", "(IJ)V"⟩, 6) := ⟨⟨by decide +kernel, by decide +kernel⟩, List.mem_of_getElem? (i := 595) (by decide +kernel), List.mem_of_getElem? (i := 614) (by decide +kernel), List.mem_of_getElem? (i := 615) (by decide +kernel)⟩
def lw_privs_1 : List (MethodName × Nat) := [(⟨"ColourParts", "countPieces", "()I"⟩, 6), (⟨"java/lang/Throwable", "fillInStackTrace", "(I)Ljava/lang/Throwable;"⟩, 6), (⟨"java/util/ArrayList", "add", "(Ljava/lang/Object;[Ljava/lang/Object;I)V"⟩, 3), (⟨"java/util/ArrayList", "grow", "()[Ljava/lang/Object;"⟩, 3), (⟨"java/util/ArrayList", "grow", "(I)[Ljava/lang/Object;"⟩, 3), (⟨"ColourParts", "needShape", "(I)V"⟩, 6), (⟨"ColourParts", "findNearOnes", "(I)V"⟩, 6), (⟨"ColourParts$Box", "isNearBox", "(LColourParts$Box;J)Z"⟩, 4), (⟨"ColourParts", "needNoneOpen", "()V"⟩, 6), (⟨"ColourParts", "cutShapes", "()LColourParts$Pieces;"⟩, 6), (⟨"ColourParts$Shape", "cutBox", "(LColourParts$Box;I)LColourParts$Box;"⟩, 9), (⟨"ColourParts$Search", "goOn", "(III)V"⟩, 9), (⟨"ColourParts$Search", "isDeadEnd", "(I)Z"⟩, 9), (⟨"ColourParts$Search", "canHave", "(II)Z"⟩, 9), (⟨"ColourParts$Search", "tryColour", "(IIII)V"⟩, 9), (⟨"ColourParts$Colouring", "weigh", "(IJ)V"⟩, 6)]
theorem lw_r1 : ∀ q ∈ lw_privs_1, lw_okq q := List.forall_mem_cons.mpr ⟨lw_p0, List.forall_mem_cons.mpr ⟨lw_p1, List.forall_mem_cons.mpr ⟨lw_p2, List.forall_mem_cons.mpr ⟨lw_p3, List.forall_mem_cons.mpr ⟨lw_p4, List.forall_mem_cons.mpr ⟨lw_p5, List.forall_mem_cons.mpr ⟨lw_p6, List.forall_mem_cons.mpr ⟨lw_p7, List.forall_mem_cons.mpr ⟨lw_p8, List.forall_mem_cons.mpr ⟨lw_p9, List.forall_mem_cons.mpr ⟨lw_p10, List.forall_mem_cons.mpr ⟨lw_p11, List.forall_mem_cons.mpr ⟨lw_p12, List.forall_mem_cons.mpr ⟨lw_p13, List.forall_mem_cons.mpr ⟨lw_p14, List.forall_mem_cons.mpr ⟨lw_p15, fun _ h => absurd h List.not_mem_nil⟩⟩⟩⟩⟩⟩⟩⟩⟩⟩⟩⟩⟩⟩⟩⟩
theorem lw_p16 : lw_okq (⟨"ColourParts$Colouring", "noteStitch", "(IZ)V"⟩, 6) := ⟨⟨by decide +kernel, by decide +kernel⟩, List.mem_of_getElem? (i := 595) (by decide +kernel), List.mem_of_getElem? (i := 620) (by decide +kernel), List.mem_of_getElem? (i := 621) (by decide +kernel)⟩
theorem lw_p17 : lw_okq (⟨"ColourParts$Colouring", "noteFirst", "(II)V"⟩, 6) := ⟨⟨by decide +kernel, by decide +kernel⟩, List.mem_of_getElem? (i := 595) (by decide +kernel), List.mem_of_getElem? (i := 624) (by decide +kernel), List.mem_of_getElem? (i := 625) (by decide +kernel)⟩
theorem lw_p18 : lw_okq (⟨"ColourParts$Pieces", "fillWalks", "(II[I)V"⟩, 1) := ⟨⟨by decide +kernel, by decide +kernel⟩, List.mem_of_getElem? (i := 449) (by decide +kernel), List.mem_of_getElem? (i := 657) (by decide +kernel), List.mem_of_getElem? (i := 658) (by decide +kernel)⟩
theorem lw_p19 : lw_okq (⟨"ColourParts$Pieces", "nearAnyOf", "(I)I"⟩, 1) := ⟨⟨by decide +kernel, by decide +kernel⟩, List.mem_of_getElem? (i := 449) (by decide +kernel), List.mem_of_getElem? (i := 661) (by decide +kernel), List.mem_of_getElem? (i := 662) (by decide +kernel)⟩
theorem lw_p20 : lw_okq (⟨"ColourParts$Pieces", "writeLeastRing", "(II[I[I)V"⟩, 1) := ⟨⟨by decide +kernel, by decide +kernel⟩, List.mem_of_getElem? (i := 449) (by decide +kernel), List.mem_of_getElem? (i := 666) (by decide +kernel), List.mem_of_getElem? (i := 667) (by decide +kernel)⟩
theorem lw_p21 : lw_okq (⟨"ColourPartsModel", "allPieces", "()I"⟩, 27) := ⟨⟨by decide +kernel, by decide +kernel⟩, List.mem_of_getElem? (i := 751) (by decide +kernel), List.mem_of_getElem? (i := 848) (by decide +kernel), List.mem_of_getElem? (i := 849) (by decide +kernel)⟩
theorem lw_p22 : lw_okq (⟨"ColourPartsModel", "isShape", "(I)Z"⟩, 27) := ⟨⟨by decide +kernel, by decide +kernel⟩, List.mem_of_getElem? (i := 751) (by decide +kernel), List.mem_of_getElem? (i := 856) (by decide +kernel), List.mem_of_getElem? (i := 857) (by decide +kernel)⟩
theorem lw_p23 : lw_okq (⟨"ColourPartsModel", "isOpen", "()Z"⟩, 27) := ⟨⟨by decide +kernel, by decide +kernel⟩, List.mem_of_getElem? (i := 751) (by decide +kernel), List.mem_of_getElem? (i := 870) (by decide +kernel), List.mem_of_getElem? (i := 871) (by decide +kernel)⟩
theorem lw_p24 : lw_okq (⟨"ColourPartsModel", "isNear", "(II)Z"⟩, 27) := ⟨⟨by decide +kernel, by decide +kernel⟩, List.mem_of_getElem? (i := 751) (by decide +kernel), List.mem_of_getElem? (i := 874) (by decide +kernel), List.mem_of_getElem? (i := 875) (by decide +kernel)⟩
theorem lw_p25 : lw_okq (⟨"ColourPartsModel", "isNearPiece", "(IIII)Z"⟩, 27) := ⟨⟨by decide +kernel, by decide +kernel⟩, List.mem_of_getElem? (i := 751) (by decide +kernel), List.mem_of_getElem? (i := 878) (by decide +kernel), List.mem_of_getElem? (i := 879) (by decide +kernel)⟩
theorem lw_p26 : lw_okq (⟨"ColourPartsModel", "boxes", "(I)I"⟩, 27) := ⟨⟨by decide +kernel, by decide +kernel⟩, List.mem_of_getElem? (i := 751) (by decide +kernel), List.mem_of_getElem? (i := 882) (by decide +kernel), List.mem_of_getElem? (i := 883) (by decide +kernel)⟩
theorem lw_p27 : lw_okq (⟨"ColourPartsModel", "load", "(IIIZ)V"⟩, 27) := ⟨⟨by decide +kernel, by decide +kernel⟩, List.mem_of_getElem? (i := 751) (by decide +kernel), List.mem_of_getElem? (i := 886) (by decide +kernel), List.mem_of_getElem? (i := 887) (by decide +kernel)⟩
theorem lw_p28 : lw_okq (⟨"ColourPartsModel", "isNearBox", "()Z"⟩, 27) := ⟨⟨by decide +kernel, by decide +kernel⟩, List.mem_of_getElem? (i := 751) (by decide +kernel), List.mem_of_getElem? (i := 896) (by decide +kernel), List.mem_of_getElem? (i := 897) (by decide +kernel)⟩
theorem lw_p29 : lw_okq (⟨"ColourPartsModel", "hasCut", "(IJZ)Z"⟩, 27) := ⟨⟨by decide +kernel, by decide +kernel⟩, List.mem_of_getElem? (i := 751) (by decide +kernel), List.mem_of_getElem? (i := 912) (by decide +kernel), List.mem_of_getElem? (i := 913) (by decide +kernel)⟩
theorem lw_p30 : lw_okq (⟨"ColourPartsModel", "isWithin", "(IJZ)Z"⟩, 27) := ⟨⟨by decide +kernel, by decide +kernel⟩, List.mem_of_getElem? (i := 751) (by decide +kernel), List.mem_of_getElem? (i := 916) (by decide +kernel), List.mem_of_getElem? (i := 917) (by decide +kernel)⟩
theorem lw_p31 : lw_okq (⟨"ColourPartsModel", "part", "()V"⟩, 27) := ⟨⟨by decide +kernel, by decide +kernel⟩, List.mem_of_getElem? (i := 751) (by decide +kernel), List.mem_of_getElem? (i := 924) (by decide +kernel), List.mem_of_getElem? (i := 925) (by decide +kernel)⟩
def lw_privs_2 : List (MethodName × Nat) := [(⟨"ColourParts$Colouring", "noteStitch", "(IZ)V"⟩, 6), (⟨"ColourParts$Colouring", "noteFirst", "(II)V"⟩, 6), (⟨"ColourParts$Pieces", "fillWalks", "(II[I)V"⟩, 1), (⟨"ColourParts$Pieces", "nearAnyOf", "(I)I"⟩, 1), (⟨"ColourParts$Pieces", "writeLeastRing", "(II[I[I)V"⟩, 1), (⟨"ColourPartsModel", "allPieces", "()I"⟩, 27), (⟨"ColourPartsModel", "isShape", "(I)Z"⟩, 27), (⟨"ColourPartsModel", "isOpen", "()Z"⟩, 27), (⟨"ColourPartsModel", "isNear", "(II)Z"⟩, 27), (⟨"ColourPartsModel", "isNearPiece", "(IIII)Z"⟩, 27), (⟨"ColourPartsModel", "boxes", "(I)I"⟩, 27), (⟨"ColourPartsModel", "load", "(IIIZ)V"⟩, 27), (⟨"ColourPartsModel", "isNearBox", "()Z"⟩, 27), (⟨"ColourPartsModel", "hasCut", "(IJZ)Z"⟩, 27), (⟨"ColourPartsModel", "isWithin", "(IJZ)Z"⟩, 27), (⟨"ColourPartsModel", "part", "()V"⟩, 27)]
theorem lw_r2 : ∀ q ∈ lw_privs_2, lw_okq q := List.forall_mem_cons.mpr ⟨lw_p16, List.forall_mem_cons.mpr ⟨lw_p17, List.forall_mem_cons.mpr ⟨lw_p18, List.forall_mem_cons.mpr ⟨lw_p19, List.forall_mem_cons.mpr ⟨lw_p20, List.forall_mem_cons.mpr ⟨lw_p21, List.forall_mem_cons.mpr ⟨lw_p22, List.forall_mem_cons.mpr ⟨lw_p23, List.forall_mem_cons.mpr ⟨lw_p24, List.forall_mem_cons.mpr ⟨lw_p25, List.forall_mem_cons.mpr ⟨lw_p26, List.forall_mem_cons.mpr ⟨lw_p27, List.forall_mem_cons.mpr ⟨lw_p28, List.forall_mem_cons.mpr ⟨lw_p29, List.forall_mem_cons.mpr ⟨lw_p30, List.forall_mem_cons.mpr ⟨lw_p31, fun _ h => absurd h List.not_mem_nil⟩⟩⟩⟩⟩⟩⟩⟩⟩⟩⟩⟩⟩⟩⟩⟩
theorem lw_p32 : lw_okq (⟨"ColourPartsModel", "isFound", "(II)Z"⟩, 27) := ⟨⟨by decide +kernel, by decide +kernel⟩, List.mem_of_getElem? (i := 751) (by decide +kernel), List.mem_of_getElem? (i := 928) (by decide +kernel), List.mem_of_getElem? (i := 929) (by decide +kernel)⟩
theorem lw_p33 : lw_okq (⟨"ColourPartsModel", "fits", "(II)Z"⟩, 27) := ⟨⟨by decide +kernel, by decide +kernel⟩, List.mem_of_getElem? (i := 751) (by decide +kernel), List.mem_of_getElem? (i := 932) (by decide +kernel), List.mem_of_getElem? (i := 933) (by decide +kernel)⟩
theorem lw_p34 : lw_okq (⟨"ColourPartsModel", "usedUpTo", "(I)I"⟩, 27) := ⟨⟨by decide +kernel, by decide +kernel⟩, List.mem_of_getElem? (i := 751) (by decide +kernel), List.mem_of_getElem? (i := 936) (by decide +kernel), List.mem_of_getElem? (i := 937) (by decide +kernel)⟩
theorem lw_p35 : lw_okq (⟨"ColourPartsModel", "keep", "()V"⟩, 27) := ⟨⟨by decide +kernel, by decide +kernel⟩, List.mem_of_getElem? (i := 751) (by decide +kernel), List.mem_of_getElem? (i := 940) (by decide +kernel), List.mem_of_getElem? (i := 941) (by decide +kernel)⟩
theorem lw_p36 : lw_okq (⟨"ColourPartsModel", "areaOf", "(I)J"⟩, 27) := ⟨⟨by decide +kernel, by decide +kernel⟩, List.mem_of_getElem? (i := 751) (by decide +kernel), List.mem_of_getElem? (i := 944) (by decide +kernel), List.mem_of_getElem? (i := 945) (by decide +kernel)⟩
theorem lw_p37 : lw_okq (⟨"ColourPartsModel", "findRing", "()V"⟩, 27) := ⟨⟨by decide +kernel, by decide +kernel⟩, List.mem_of_getElem? (i := 751) (by decide +kernel), List.mem_of_getElem? (i := 948) (by decide +kernel), List.mem_of_getElem? (i := 949) (by decide +kernel)⟩
theorem lw_p38 : lw_okq (⟨"ColourPartsModel", "isRing", "(I)Z"⟩, 27) := ⟨⟨by decide +kernel, by decide +kernel⟩, List.mem_of_getElem? (i := 751) (by decide +kernel), List.mem_of_getElem? (i := 952) (by decide +kernel), List.mem_of_getElem? (i := 953) (by decide +kernel)⟩
theorem lw_p39 : lw_okq (⟨"ColourPartsModel", "isStep", "(II)Z"⟩, 27) := ⟨⟨by decide +kernel, by decide +kernel⟩, List.mem_of_getElem? (i := 751) (by decide +kernel), List.mem_of_getElem? (i := 956) (by decide +kernel), List.mem_of_getElem? (i := 957) (by decide +kernel)⟩
theorem lw_p40 : lw_okq (⟨"ColourPartsModel", "firstOf", "(I)I"⟩, 27) := ⟨⟨by decide +kernel, by decide +kernel⟩, List.mem_of_getElem? (i := 751) (by decide +kernel), List.mem_of_getElem? (i := 964) (by decide +kernel), List.mem_of_getElem? (i := 965) (by decide +kernel)⟩
def lw_privs_3 : List (MethodName × Nat) := [(⟨"ColourPartsModel", "isFound", "(II)Z"⟩, 27), (⟨"ColourPartsModel", "fits", "(II)Z"⟩, 27), (⟨"ColourPartsModel", "usedUpTo", "(I)I"⟩, 27), (⟨"ColourPartsModel", "keep", "()V"⟩, 27), (⟨"ColourPartsModel", "areaOf", "(I)J"⟩, 27), (⟨"ColourPartsModel", "findRing", "()V"⟩, 27), (⟨"ColourPartsModel", "isRing", "(I)Z"⟩, 27), (⟨"ColourPartsModel", "isStep", "(II)Z"⟩, 27), (⟨"ColourPartsModel", "firstOf", "(I)I"⟩, 27)]
theorem lw_r3 : ∀ q ∈ lw_privs_3, lw_okq q := List.forall_mem_cons.mpr ⟨lw_p32, List.forall_mem_cons.mpr ⟨lw_p33, List.forall_mem_cons.mpr ⟨lw_p34, List.forall_mem_cons.mpr ⟨lw_p35, List.forall_mem_cons.mpr ⟨lw_p36, List.forall_mem_cons.mpr ⟨lw_p37, List.forall_mem_cons.mpr ⟨lw_p38, List.forall_mem_cons.mpr ⟨lw_p39, List.forall_mem_cons.mpr ⟨lw_p40, fun _ h => absurd h List.not_mem_nil⟩⟩⟩⟩⟩⟩⟩⟩⟩
def lw_privs : List (MethodName × Nat) := lw_privs_1 ++ (lw_privs_2 ++ (lw_privs_3))
def lw_tbl : List Cond := k2_sels lw_privs ++ tables_1
theorem lw_privs_ok : ∀ q ∈ lw_privs, lw_okq q := by
  show ∀ q ∈ lw_privs_1 ++ (lw_privs_2 ++ (lw_privs_3)), lw_okq q
  exact List.forall_mem_append.mpr ⟨lw_r1, List.forall_mem_append.mpr ⟨lw_r2, lw_r3⟩⟩

end PA
end
section
/-! ===== BEGIN printed: names, fields, word lists, decode rows ===== -/
def RX0 : String := "ColourParts$Box"
def TX0 : u_T := fun k => match k with
  | 0 => ("ColourParts$Box", "left", "J", true)
  | 1 => ("ColourParts$Box", "low", "J", true)
  | 2 => ("ColourParts$Box", "right", "J", true)
  | _ => ("ColourParts$Box", "high", "J", true)
def tyX0 : Nat → FieldType := fun k => match k with
  | 0 => .long
  | 1 => .long
  | 2 => .long
  | _ => .long
abbrev wsX00 : List Cond := u_ws RX0 TX0 4
theorem nmX0 : ∀ a, a < 4 → ∀ b, b < 4 → a ≠ b → (TX0 a).2.1 ≠ (TX0 b).2.1 := by decide +kernel
theorem tyX0_ok : ∀ k, k < 4 → parseFieldDescriptor (TX0 k).2.2.1 = some (tyX0 k) := by decide +kernel
abbrev cX0_init : ByteArray := prog_2_method_1_code
def yX0_init : MethodName := ⟨RX0, "<init>", "(JJJJ)V"⟩
abbrev cX0_area : ByteArray := prog_2_method_2_code
def yX0_area : MethodName := ⟨RX0, "area", "()J"⟩
abbrev cX0_isWithin : ByteArray := prog_2_method_3_code
def yX0_isWithin : MethodName := ⟨RX0, "isWithin", "(JZ)Z"⟩
abbrev cX0_isNearAny : ByteArray := prog_2_method_4_code
def yX0_isNearAny : MethodName := ⟨RX0, "isNearAny", "(Ljava/util/ArrayList;J)Z"⟩
abbrev cX0_isNearBox : ByteArray := prog_2_method_5_code
def yX0_isNearBox : MethodName := ⟨RX0, "isNearBox", "(LColourParts$Box;J)Z"⟩
abbrev cX0_gap : ByteArray := prog_2_method_6_code
def yX0_gap : MethodName := ⟨RX0, "gap", "(JJJJ)J"⟩
def RX1 : String := "ColourParts$Colouring"
def TX1 : u_T := fun k => match k with
  | 0 => ("ColourParts$Colouring", "firstColours", "[I", true)
  | 1 => ("ColourParts$Colouring", "stitchCounts", "[I", true)
  | 2 => ("ColourParts$Colouring", "usedStitches", "[I", true)
  | 3 => ("ColourParts$Colouring", "pieceCounts", "[I", true)
  | 4 => ("ColourParts$Colouring", "areas", "[J", true)
  | _ => ("ColourParts$Colouring", "usedInAll", "I", true)
def tyX1 : Nat → FieldType := fun k => match k with
  | 0 => .array .int
  | 1 => .array .int
  | 2 => .array .int
  | 3 => .array .int
  | 4 => .array .long
  | _ => .int
abbrev wsX10 : List Cond := u_ws RX1 TX1 6
theorem nmX1 : ∀ a, a < 6 → ∀ b, b < 6 → a ≠ b → (TX1 a).2.1 ≠ (TX1 b).2.1 := by decide +kernel
theorem tyX1_ok : ∀ k, k < 6 → parseFieldDescriptor (TX1 k).2.2.1 = some (tyX1 k) := by decide +kernel
abbrev cX1_init : ByteArray := prog_3_method_1_code
def yX1_init : MethodName := ⟨RX1, "<init>", "(LColourParts$Pieces;[II)V"⟩
abbrev cX1_weigh : ByteArray := prog_3_method_2_code
def yX1_weigh : MethodName := ⟨RX1, "weigh", "(IJ)V"⟩
abbrev cX1_noteFirst : ByteArray := prog_3_method_3_code
def yX1_noteFirst : MethodName := ⟨RX1, "noteFirst", "(II)V"⟩
abbrev cX1_noteStitch : ByteArray := prog_3_method_4_code
def yX1_noteStitch : MethodName := ⟨RX1, "noteStitch", "(IZ)V"⟩
def RX2 : String := "ColourParts$Piece"
def TX2 : u_T := fun k => match k with
  | 0 => ("ColourParts$Piece", "owner", "I", true)
  | 1 => ("ColourParts$Piece", "told", "I", true)
  | 2 => ("ColourParts$Piece", "boxes", "Ljava/util/ArrayList;", true)
  | _ => ("ColourParts$Piece", "nearPieces", "I", false)
def tyX2 : Nat → FieldType := fun k => match k with
  | 0 => .int
  | 1 => .int
  | 2 => .object "java/util/ArrayList"
  | _ => .int
abbrev wsX20 : List Cond := u_ws RX2 TX2 4
theorem nmX2 : ∀ a, a < 4 → ∀ b, b < 4 → a ≠ b → (TX2 a).2.1 ≠ (TX2 b).2.1 := by decide +kernel
theorem tyX2_ok : ∀ k, k < 4 → parseFieldDescriptor (TX2 k).2.2.1 = some (tyX2 k) := by decide +kernel
abbrev cX2_init : ByteArray := prog_4_method_1_code
def yX2_init : MethodName := ⟨RX2, "<init>", "(IILjava/util/ArrayList;)V"⟩
abbrev cX2_areas : ByteArray := prog_4_method_2_code
def yX2_areas : MethodName := ⟨RX2, "areas", "()J"⟩
abbrev cX2_isNearPiece : ByteArray := prog_4_method_3_code
def yX2_isNearPiece : MethodName := ⟨RX2, "isNearPiece", "(LColourParts$Piece;J)Z"⟩
def RX3 : String := "ColourParts$Pieces"
def TX3 : u_T := fun k => match k with
  | _ => ("ColourParts$Pieces", "row", "Ljava/util/ArrayList;", true)
def tyX3 : Nat → FieldType := fun k => match k with
  | _ => .object "java/util/ArrayList"
abbrev wsX30 : List Cond := u_ws RX3 TX3 1
theorem nmX3 : ∀ a, a < 1 → ∀ b, b < 1 → a ≠ b → (TX3 a).2.1 ≠ (TX3 b).2.1 := by decide +kernel
theorem tyX3_ok : ∀ k, k < 1 → parseFieldDescriptor (TX3 k).2.2.1 = some (tyX3 k) := by decide +kernel
abbrev cX3_init : ByteArray := prog_5_method_1_code
def yX3_init : MethodName := ⟨RX3, "<init>", "()V"⟩
abbrev cX3_add : ByteArray := prog_5_method_2_code
def yX3_add : MethodName := ⟨RX3, "add", "(IILjava/util/ArrayList;)V"⟩
abbrev cX3_count : ByteArray := prog_5_method_3_code
def yX3_count : MethodName := ⟨RX3, "count", "()I"⟩
abbrev cX3_owner : ByteArray := prog_5_method_4_code
def yX3_owner : MethodName := ⟨RX3, "owner", "(I)I"⟩
abbrev cX3_told : ByteArray := prog_5_method_5_code
def yX3_told : MethodName := ⟨RX3, "told", "(I)I"⟩
abbrev cX3_nearPieces : ByteArray := prog_5_method_6_code
def yX3_nearPieces : MethodName := ⟨RX3, "nearPieces", "(I)I"⟩
abbrev cX3_areas : ByteArray := prog_5_method_7_code
def yX3_areas : MethodName := ⟨RX3, "areas", "(I)J"⟩
abbrev cX3_isAfterStitch : ByteArray := prog_5_method_8_code
def yX3_isAfterStitch : MethodName := ⟨RX3, "isAfterStitch", "(I)Z"⟩
abbrev cX3_findNearOnes : ByteArray := prog_5_method_9_code
def yX3_findNearOnes : MethodName := ⟨RX3, "findNearOnes", "(J)V"⟩
abbrev cX3_findOddRing : ByteArray := prog_5_method_10_code
def yX3_findOddRing : MethodName := ⟨RX3, "findOddRing", "([I)I"⟩
abbrev cX3_fillWalks : ByteArray := prog_5_method_11_code
def yX3_fillWalks : MethodName := ⟨RX3, "fillWalks", "(II[I)V"⟩
abbrev cX3_nearAnyOf : ByteArray := prog_5_method_12_code
def yX3_nearAnyOf : MethodName := ⟨RX3, "nearAnyOf", "(I)I"⟩
abbrev cX3_writeLeastRing : ByteArray := prog_5_method_13_code
def yX3_writeLeastRing : MethodName := ⟨RX3, "writeLeastRing", "(II[I[I)V"⟩
def RX4 : String := "ColourParts$Search"
def TX4 : u_T := fun k => match k with
  | 0 => ("ColourParts$Search", "colours", "I", true)
  | 1 => ("ColourParts$Search", "count", "I", true)
  | 2 => ("ColourParts$Search", "near", "[I", true)
  | 3 => ("ColourParts$Search", "told", "[I", true)
  | 4 => ("ColourParts$Search", "afterStitch", "[Z", true)
  | 5 => ("ColourParts$Search", "holders", "[I", true)
  | 6 => ("ColourParts$Search", "row", "[I", true)
  | 7 => ("ColourParts$Search", "best", "[I", true)
  | _ => ("ColourParts$Search", "fewest", "I", false)
def tyX4 : Nat → FieldType := fun k => match k with
  | 0 => .int
  | 1 => .int
  | 2 => .array .int
  | 3 => .array .int
  | 4 => .array .boolean
  | 5 => .array .int
  | 6 => .array .int
  | 7 => .array .int
  | _ => .int
abbrev wsX40 : List Cond := u_ws RX4 TX4 9
theorem nmX4 : ∀ a, a < 9 → ∀ b, b < 9 → a ≠ b → (TX4 a).2.1 ≠ (TX4 b).2.1 := by decide +kernel
theorem tyX4_ok : ∀ k, k < 9 → parseFieldDescriptor (TX4 k).2.2.1 = some (tyX4 k) := by decide +kernel
abbrev cX4_init : ByteArray := prog_6_method_1_code
def yX4_init : MethodName := ⟨RX4, "<init>", "(LColourParts$Pieces;I)V"⟩
abbrev cX4_isFound : ByteArray := prog_6_method_2_code
def yX4_isFound : MethodName := ⟨RX4, "isFound", "()Z"⟩
abbrev cX4_findBest : ByteArray := prog_6_method_3_code
def yX4_findBest : MethodName := ⟨RX4, "findBest", "()V"⟩
abbrev cX4_goOn : ByteArray := prog_6_method_4_code
def yX4_goOn : MethodName := ⟨RX4, "goOn", "(III)V"⟩
abbrev cX4_tryColour : ByteArray := prog_6_method_5_code
def yX4_tryColour : MethodName := ⟨RX4, "tryColour", "(IIII)V"⟩
abbrev cX4_canHave : ByteArray := prog_6_method_6_code
def yX4_canHave : MethodName := ⟨RX4, "canHave", "(II)Z"⟩
abbrev cX4_isDeadEnd : ByteArray := prog_6_method_7_code
def yX4_isDeadEnd : MethodName := ⟨RX4, "isDeadEnd", "(I)Z"⟩
def RX5 : String := "ColourParts$Shape"
def TX5 : u_T := fun k => match k with
  | 0 => ("ColourParts$Shape", "boxes", "Ljava/util/ArrayList;", true)
  | 1 => ("ColourParts$Shape", "places", "[J", true)
  | 2 => ("ColourParts$Shape", "stitchCount", "I", false)
  | 3 => ("ColourParts$Shape", "standing", "Z", false)
  | 4 => ("ColourParts$Shape", "told", "I", false)
  | 5 => ("ColourParts$Shape", "nearShapes", "I", false)
  | 6 => ("ColourParts$Shape", "half", "Z", false)
  | 7 => ("ColourParts$Shape", "halfX", "J", false)
  | _ => ("ColourParts$Shape", "halfY", "J", false)
def tyX5 : Nat → FieldType := fun k => match k with
  | 0 => .object "java/util/ArrayList"
  | 1 => .array .long
  | 2 => .int
  | 3 => .boolean
  | 4 => .int
  | 5 => .int
  | 6 => .boolean
  | 7 => .long
  | _ => .long
abbrev wsX50 : List Cond := u_ws RX5 TX5 9
theorem nmX5 : ∀ a, a < 9 → ∀ b, b < 9 → a ≠ b → (TX5 a).2.1 ≠ (TX5 b).2.1 := by decide +kernel
theorem tyX5_ok : ∀ k, k < 9 → parseFieldDescriptor (TX5 k).2.2.1 = some (tyX5 k) := by decide +kernel
abbrev cX5_init : ByteArray := prog_7_method_1_code
def yX5_init : MethodName := ⟨RX5, "<init>", "()V"⟩
abbrev cX5_isOpen : ByteArray := prog_7_method_2_code
def yX5_isOpen : MethodName := ⟨RX5, "isOpen", "()Z"⟩
abbrev cX5_isNearShape : ByteArray := prog_7_method_3_code
def yX5_isNearShape : MethodName := ⟨RX5, "isNearShape", "(I)Z"⟩
abbrev cX5_addCorner : ByteArray := prog_7_method_4_code
def yX5_addCorner : MethodName := ⟨RX5, "addCorner", "(JJ)Z"⟩
abbrev cX5_hasStitch : ByteArray := prog_7_method_5_code
def yX5_hasStitch : MethodName := ⟨RX5, "hasStitch", "(JZ)Z"⟩
abbrev cX5_addStitch : ByteArray := prog_7_method_6_code
def yX5_addStitch : MethodName := ⟨RX5, "addStitch", "(JZ)V"⟩
abbrev cX5_pieceBoxes : ByteArray := prog_7_method_7_code
def yX5_pieceBoxes : MethodName := ⟨RX5, "pieceBoxes", "(I)Ljava/util/ArrayList;"⟩
abbrev cX5_cutBox : ByteArray := prog_7_method_8_code
def yX5_cutBox : MethodName := ⟨RX5, "cutBox", "(LColourParts$Box;I)LColourParts$Box;"⟩
def RX6 : String := "ColourParts"
def TX6 : u_T := fun k => match k with
  | 0 => ("ColourParts", "square", "J", true)
  | 1 => ("ColourParts", "shapes", "Ljava/util/ArrayList;", true)
  | 2 => ("ColourParts", "ringShapes", "[I", true)
  | 3 => ("ColourParts", "ringLength", "I", false)
  | 4 => ("ColourParts", "kept", "LColourParts$Colouring;", false)
  | _ => ("ColourParts", "latestClosed", "Z", false)
def tyX6 : Nat → FieldType := fun k => match k with
  | 0 => .long
  | 1 => .object "java/util/ArrayList"
  | 2 => .array .int
  | 3 => .int
  | 4 => .object "ColourParts$Colouring"
  | _ => .boolean
abbrev wsX60 : List Cond := u_ws RX6 TX6 6
theorem nmX6 : ∀ a, a < 6 → ∀ b, b < 6 → a ≠ b → (TX6 a).2.1 ≠ (TX6 b).2.1 := by decide +kernel
theorem tyX6_ok : ∀ k, k < 6 → parseFieldDescriptor (TX6 k).2.2.1 = some (tyX6 k) := by decide +kernel
abbrev cX6_init : ByteArray := prog_1_method_1_code
def yX6_init : MethodName := ⟨RX6, "<init>", "(J)V"⟩
abbrev cX6_shape : ByteArray := prog_1_method_2_code
def yX6_shape : MethodName := ⟨RX6, "shape", "()I"⟩
abbrev cX6_corner : ByteArray := prog_1_method_3_code
def yX6_corner : MethodName := ⟨RX6, "corner", "(IJJ)Z"⟩
abbrev cX6_near : ByteArray := prog_1_method_4_code
def yX6_near : MethodName := ⟨RX6, "near", "()I"⟩
abbrev cX6_run : ByteArray := prog_1_method_5_code
def yX6_run : MethodName := ⟨RX6, "run", "(IJ)I"⟩
abbrev cX6_colour : ByteArray := prog_1_method_6_code
def yX6_colour : MethodName := ⟨RX6, "colour", "(I)I"⟩
abbrev cX6_ring : ByteArray := prog_1_method_7_code
def yX6_ring : MethodName := ⟨RX6, "ring", "(I)I"⟩
abbrev cX6_length : ByteArray := prog_1_method_8_code
def yX6_length : MethodName := ⟨RX6, "length", "()I"⟩
abbrev cX6_pre : ByteArray := prog_1_method_9_code
def yX6_pre : MethodName := ⟨RX6, "pre", "(II)Z"⟩
abbrev cX6_stitch : ByteArray := prog_1_method_10_code
def yX6_stitch : MethodName := ⟨RX6, "stitch", "(IJZ)Z"⟩
abbrev cX6_stitches : ByteArray := prog_1_method_11_code
def yX6_stitches : MethodName := ⟨RX6, "stitches", "()I"⟩
abbrev cX6_used : ByteArray := prog_1_method_12_code
def yX6_used : MethodName := ⟨RX6, "used", "(II)Z"⟩
abbrev cX6_balance : ByteArray := prog_1_method_13_code
def yX6_balance : MethodName := ⟨RX6, "balance", "(II)J"⟩
abbrev cX6_pair : ByteArray := prog_1_method_14_code
def yX6_pair : MethodName := ⟨RX6, "pair", "(II)I"⟩
abbrev cX6_closed : ByteArray := prog_1_method_15_code
def yX6_closed : MethodName := ⟨RX6, "closed", "()Z"⟩
abbrev cX6_clear : ByteArray := prog_1_method_16_code
def yX6_clear : MethodName := ⟨RX6, "clear", "()V"⟩
abbrev cX6_needShape : ByteArray := prog_1_method_17_code
def yX6_needShape : MethodName := ⟨RX6, "needShape", "(I)V"⟩
abbrev cX6_needNoneOpen : ByteArray := prog_1_method_18_code
def yX6_needNoneOpen : MethodName := ⟨RX6, "needNoneOpen", "()V"⟩
abbrev cX6_isNoColour : ByteArray := prog_1_method_19_code
def yX6_isNoColour : MethodName := ⟨RX6, "isNoColour", "(I)Z"⟩
abbrev cX6_isTooFar : ByteArray := prog_1_method_20_code
def yX6_isTooFar : MethodName := ⟨RX6, "isTooFar", "(J)Z"⟩
abbrev cX6_countPieces : ByteArray := prog_1_method_21_code
def yX6_countPieces : MethodName := ⟨RX6, "countPieces", "()I"⟩
abbrev cX6_findNearOnes : ByteArray := prog_1_method_22_code
def yX6_findNearOnes : MethodName := ⟨RX6, "findNearOnes", "(I)V"⟩
abbrev cX6_cutShapes : ByteArray := prog_1_method_23_code
def yX6_cutShapes : MethodName := ⟨RX6, "cutShapes", "()LColourParts$Pieces;"⟩
def RX7 : String := "ColourPartsModel"
def TX7 : u_T := fun k => match k with
  | 0 => ("ColourPartsModel", "code", "I", false)
  | 1 => ("ColourPartsModel", "distance", "J", true)
  | 2 => ("ColourPartsModel", "shapes", "I", false)
  | 3 => ("ColourPartsModel", "cornerX", "[J", true)
  | 4 => ("ColourPartsModel", "cornerY", "[J", true)
  | 5 => ("ColourPartsModel", "corners", "[I", true)
  | 6 => ("ColourPartsModel", "told", "[I", true)
  | 7 => ("ColourPartsModel", "cuts", "[J", true)
  | 8 => ("ColourPartsModel", "cutCounts", "[I", true)
  | 9 => ("ColourPartsModel", "standing", "[Z", true)
  | 10 => ("ColourPartsModel", "pieces", "I", false)
  | 11 => ("ColourPartsModel", "pieceShapes", "[I", true)
  | 12 => ("ColourPartsModel", "pieceNumbers", "[I", true)
  | 13 => ("ColourPartsModel", "nears", "[Z", true)
  | 14 => ("ColourPartsModel", "one", "[J", true)
  | 15 => ("ColourPartsModel", "two", "[J", true)
  | 16 => ("ColourPartsModel", "colours", "[I", true)
  | 17 => ("ColourPartsModel", "kept", "Z", false)
  | 18 => ("ColourPartsModel", "keptPieces", "I", false)
  | 19 => ("ColourPartsModel", "keptStitches", "I", false)
  | 20 => ("ColourPartsModel", "keptShapes", "[I", true)
  | 21 => ("ColourPartsModel", "keptColours", "[I", true)
  | 22 => ("ColourPartsModel", "keptAreas", "[J", true)
  | 23 => ("ColourPartsModel", "walk", "[I", true)
  | 24 => ("ColourPartsModel", "ringShapes", "[I", true)
  | 25 => ("ColourPartsModel", "ringLength", "I", false)
  | _ => ("ColourPartsModel", "closed", "Z", false)
def tyX7 : Nat → FieldType := fun k => match k with
  | 0 => .int
  | 1 => .long
  | 2 => .int
  | 3 => .array .long
  | 4 => .array .long
  | 5 => .array .int
  | 6 => .array .int
  | 7 => .array .long
  | 8 => .array .int
  | 9 => .array .boolean
  | 10 => .int
  | 11 => .array .int
  | 12 => .array .int
  | 13 => .array .boolean
  | 14 => .array .long
  | 15 => .array .long
  | 16 => .array .int
  | 17 => .boolean
  | 18 => .int
  | 19 => .int
  | 20 => .array .int
  | 21 => .array .int
  | 22 => .array .long
  | 23 => .array .int
  | 24 => .array .int
  | 25 => .int
  | _ => .boolean
abbrev wsX70 : List Cond := u_ws RX7 TX7 27
theorem nmX7 : ∀ a, a < 27 → ∀ b, b < 27 → a ≠ b → (TX7 a).2.1 ≠ (TX7 b).2.1 := by decide +kernel
theorem tyX7_ok : ∀ k, k < 27 → parseFieldDescriptor (TX7 k).2.2.1 = some (tyX7 k) := by decide +kernel
abbrev cX7_init : ByteArray := prog_9_method_1_code
def yX7_init : MethodName := ⟨RX7, "<init>", "(J)V"⟩
abbrev cX7_thrown : ByteArray := prog_9_method_2_code
def yX7_thrown : MethodName := ⟨RX7, "thrown", "()I"⟩
abbrev cX7_isShape : ByteArray := prog_9_method_3_code
def yX7_isShape : MethodName := ⟨RX7, "isShape", "(I)Z"⟩
abbrev cX7_isOpen : ByteArray := prog_9_method_4_code
def yX7_isOpen : MethodName := ⟨RX7, "isOpen", "()Z"⟩
abbrev cX7_allPieces : ByteArray := prog_9_method_5_code
def yX7_allPieces : MethodName := ⟨RX7, "allPieces", "()I"⟩
abbrev cX7_shape : ByteArray := prog_9_method_6_code
def yX7_shape : MethodName := ⟨RX7, "shape", "()I"⟩
abbrev cX7_corner : ByteArray := prog_9_method_7_code
def yX7_corner : MethodName := ⟨RX7, "corner", "(IJJ)Z"⟩
abbrev cX7_clear : ByteArray := prog_9_method_8_code
def yX7_clear : MethodName := ⟨RX7, "clear", "()V"⟩
abbrev cX7_low : ByteArray := prog_9_method_9_code
def yX7_low : MethodName := ⟨RX7, "low", "(JJ)J"⟩
abbrev cX7_high : ByteArray := prog_9_method_10_code
def yX7_high : MethodName := ⟨RX7, "high", "(JJ)J"⟩
abbrev cX7_boxes : ByteArray := prog_9_method_11_code
def yX7_boxes : MethodName := ⟨RX7, "boxes", "(I)I"⟩
abbrev cX7_load : ByteArray := prog_9_method_12_code
def yX7_load : MethodName := ⟨RX7, "load", "(IIIZ)V"⟩
abbrev cX7_isNearBox : ByteArray := prog_9_method_13_code
def yX7_isNearBox : MethodName := ⟨RX7, "isNearBox", "()Z"⟩
abbrev cX7_isNearPiece : ByteArray := prog_9_method_14_code
def yX7_isNearPiece : MethodName := ⟨RX7, "isNearPiece", "(IIII)Z"⟩
abbrev cX7_isNear : ByteArray := prog_9_method_15_code
def yX7_isNear : MethodName := ⟨RX7, "isNear", "(II)Z"⟩
abbrev cX7_near : ByteArray := prog_9_method_16_code
def yX7_near : MethodName := ⟨RX7, "near", "()I"⟩
abbrev cX7_pair : ByteArray := prog_9_method_17_code
def yX7_pair : MethodName := ⟨RX7, "pair", "(II)I"⟩
abbrev cX7_pre : ByteArray := prog_9_method_18_code
def yX7_pre : MethodName := ⟨RX7, "pre", "(II)Z"⟩
abbrev cX7_hasCut : ByteArray := prog_9_method_19_code
def yX7_hasCut : MethodName := ⟨RX7, "hasCut", "(IJZ)Z"⟩
abbrev cX7_isWithin : ByteArray := prog_9_method_20_code
def yX7_isWithin : MethodName := ⟨RX7, "isWithin", "(IJZ)Z"⟩
abbrev cX7_stitch : ByteArray := prog_9_method_21_code
def yX7_stitch : MethodName := ⟨RX7, "stitch", "(IJZ)Z"⟩
abbrev cX7_part : ByteArray := prog_9_method_22_code
def yX7_part : MethodName := ⟨RX7, "part", "()V"⟩
abbrev cX7_usedUpTo : ByteArray := prog_9_method_23_code
def yX7_usedUpTo : MethodName := ⟨RX7, "usedUpTo", "(I)I"⟩
abbrev cX7_fits : ByteArray := prog_9_method_24_code
def yX7_fits : MethodName := ⟨RX7, "fits", "(II)Z"⟩
abbrev cX7_isFound : ByteArray := prog_9_method_25_code
def yX7_isFound : MethodName := ⟨RX7, "isFound", "(II)Z"⟩
abbrev cX7_areaOf : ByteArray := prog_9_method_26_code
def yX7_areaOf : MethodName := ⟨RX7, "areaOf", "(I)J"⟩
abbrev cX7_keep : ByteArray := prog_9_method_27_code
def yX7_keep : MethodName := ⟨RX7, "keep", "()V"⟩
abbrev cX7_isStep : ByteArray := prog_9_method_28_code
def yX7_isStep : MethodName := ⟨RX7, "isStep", "(II)Z"⟩
abbrev cX7_isRing : ByteArray := prog_9_method_29_code
def yX7_isRing : MethodName := ⟨RX7, "isRing", "(I)Z"⟩
abbrev cX7_findRing : ByteArray := prog_9_method_30_code
def yX7_findRing : MethodName := ⟨RX7, "findRing", "()V"⟩
abbrev cX7_run : ByteArray := prog_9_method_31_code
def yX7_run : MethodName := ⟨RX7, "run", "(IJ)I"⟩
abbrev cX7_firstOf : ByteArray := prog_9_method_32_code
def yX7_firstOf : MethodName := ⟨RX7, "firstOf", "(I)I"⟩
abbrev cX7_colour : ByteArray := prog_9_method_33_code
def yX7_colour : MethodName := ⟨RX7, "colour", "(I)I"⟩
abbrev cX7_ring : ByteArray := prog_9_method_34_code
def yX7_ring : MethodName := ⟨RX7, "ring", "(I)I"⟩
abbrev cX7_length : ByteArray := prog_9_method_35_code
def yX7_length : MethodName := ⟨RX7, "length", "()I"⟩
abbrev cX7_stitches : ByteArray := prog_9_method_36_code
def yX7_stitches : MethodName := ⟨RX7, "stitches", "()I"⟩
abbrev cX7_used : ByteArray := prog_9_method_37_code
def yX7_used : MethodName := ⟨RX7, "used", "(II)Z"⟩
abbrev cX7_balance : ByteArray := prog_9_method_38_code
def yX7_balance : MethodName := ⟨RX7, "balance", "(II)J"⟩
abbrev cX7_closed : ByteArray := prog_9_method_39_code
def yX7_closed : MethodName := ⟨RX7, "closed", "()Z"⟩
def RJx145de : String := "java/io/Serializable"
def TJx145de : u_T := fun k => match k with
  | _ => ("", "", "", false)
def tyJx145de : Nat → FieldType := fun k => match k with
  | _ => .int
abbrev wsJx145de0 : List Cond := u_ws RJx145de TJx145de 0
theorem nmJx145de : ∀ a, a < 0 → ∀ b, b < 0 → a ≠ b → (TJx145de a).2.1 ≠ (TJx145de b).2.1 := by decide +kernel
theorem tyJx145de_ok : ∀ k, k < 0 → parseFieldDescriptor (TJx145de k).2.2.1 = some (tyJx145de k) := by decide +kernel
def RJx8e188 : String := "java/lang/Cloneable"
def TJx8e188 : u_T := fun k => match k with
  | _ => ("", "", "", false)
def tyJx8e188 : Nat → FieldType := fun k => match k with
  | _ => .int
abbrev wsJx8e1880 : List Cond := u_ws RJx8e188 TJx8e188 0
theorem nmJx8e188 : ∀ a, a < 0 → ∀ b, b < 0 → a ≠ b → (TJx8e188 a).2.1 ≠ (TJx8e188 b).2.1 := by decide +kernel
theorem tyJx8e188_ok : ∀ k, k < 0 → parseFieldDescriptor (TJx8e188 k).2.2.1 = some (tyJx8e188 k) := by decide +kernel
def RJ6 : String := "java/lang/Integer"
def TJ6 : u_T := fun k => match k with
  | _ => ("", "", "", false)
def tyJ6 : Nat → FieldType := fun k => match k with
  | _ => .int
abbrev wsJ60 : List Cond := u_ws RJ6 TJ6 0
theorem nmJ6 : ∀ a, a < 0 → ∀ b, b < 0 → a ≠ b → (TJ6 a).2.1 ≠ (TJ6 b).2.1 := by decide +kernel
theorem tyJ6_ok : ∀ k, k < 0 → parseFieldDescriptor (TJ6 k).2.2.1 = some (tyJ6 k) := by decide +kernel
abbrev cJ6_numberOfTrailingZeros_0f7a4 : ByteArray := prog_16_method_48_code
def yJ6_numberOfTrailingZeros_0f7a4 : MethodName := ⟨RJ6, "numberOfTrailingZeros", "(I)I"⟩
abbrev cJ6_bitCount_0f7a4 : ByteArray := prog_16_method_49_code
def yJ6_bitCount_0f7a4 : MethodName := ⟨RJ6, "bitCount", "(I)I"⟩
def RJxab1ab : String := "java/lang/Iterable"
def TJxab1ab : u_T := fun k => match k with
  | _ => ("", "", "", false)
def tyJxab1ab : Nat → FieldType := fun k => match k with
  | _ => .int
abbrev wsJxab1ab0 : List Cond := u_ws RJxab1ab TJxab1ab 0
theorem nmJxab1ab : ∀ a, a < 0 → ∀ b, b < 0 → a ≠ b → (TJxab1ab a).2.1 ≠ (TJxab1ab b).2.1 := by decide +kernel
theorem tyJxab1ab_ok : ∀ k, k < 0 → parseFieldDescriptor (TJxab1ab k).2.2.1 = some (tyJxab1ab k) := by decide +kernel
def RJ9 : String := "java/lang/Math"
def TJ9 : u_T := fun k => match k with
  | _ => ("", "", "", false)
def tyJ9 : Nat → FieldType := fun k => match k with
  | _ => .int
abbrev wsJ90 : List Cond := u_ws RJ9 TJ9 0
theorem nmJ9 : ∀ a, a < 0 → ∀ b, b < 0 → a ≠ b → (TJ9 a).2.1 ≠ (TJ9 b).2.1 := by decide +kernel
theorem tyJ9_ok : ∀ k, k < 0 → parseFieldDescriptor (TJ9 k).2.2.1 = some (tyJ9 k) := by decide +kernel
abbrev cJ9_max_7cf53 : ByteArray := prog_18_method_65_code
def yJ9_max_7cf53 : MethodName := ⟨RJ9, "max", "(II)I"⟩
abbrev cJ9_max_f86c9 : ByteArray := prog_18_method_66_code
def yJ9_max_f86c9 : MethodName := ⟨RJ9, "max", "(JJ)J"⟩
abbrev cJ9_min_7cf53 : ByteArray := prog_18_method_69_code
def yJ9_min_7cf53 : MethodName := ⟨RJ9, "min", "(II)I"⟩
abbrev cJ9_min_f86c9 : ByteArray := prog_18_method_70_code
def yJ9_min_f86c9 : MethodName := ⟨RJ9, "min", "(JJ)J"⟩
def RJ0 : String := "java/lang/String"
def TJ0 : u_T := fun k => match k with
  | _ => ("", "", "", false)
def tyJ0 : Nat → FieldType := fun k => match k with
  | _ => .int
abbrev wsJ00 : List Cond := u_ws RJ0 TJ0 0
theorem nmJ0 : ∀ a, a < 0 → ∀ b, b < 0 → a ≠ b → (TJ0 a).2.1 ≠ (TJ0 b).2.1 := by decide +kernel
theorem tyJ0_ok : ∀ k, k < 0 → parseFieldDescriptor (TJ0 k).2.2.1 = some (tyJ0 k) := by decide +kernel
def RJ10 : String := "java/lang/System"
def TJ10 : u_T := fun k => match k with
  | _ => ("", "", "", false)
def tyJ10 : Nat → FieldType := fun k => match k with
  | _ => .int
abbrev wsJ100 : List Cond := u_ws RJ10 TJ10 0
theorem nmJ10 : ∀ a, a < 0 → ∀ b, b < 0 → a ≠ b → (TJ10 a).2.1 ≠ (TJ10 b).2.1 := by decide +kernel
theorem tyJ10_ok : ∀ k, k < 0 → parseFieldDescriptor (TJ10 k).2.2.1 = some (tyJ10 k) := by decide +kernel
def RJxa1e45 : String := "java/util/AbstractCollection"
def TJxa1e45 : u_T := fun k => match k with
  | _ => ("", "", "", false)
def tyJxa1e45 : Nat → FieldType := fun k => match k with
  | _ => .int
abbrev wsJxa1e450 : List Cond := u_ws RJxa1e45 TJxa1e45 0
theorem nmJxa1e45 : ∀ a, a < 0 → ∀ b, b < 0 → a ≠ b → (TJxa1e45 a).2.1 ≠ (TJxa1e45 b).2.1 := by decide +kernel
theorem tyJxa1e45_ok : ∀ k, k < 0 → parseFieldDescriptor (TJxa1e45 k).2.2.1 = some (tyJxa1e45 k) := by decide +kernel
abbrev cJxa1e45_init_da8c8 : ByteArray := prog_23_method_1_code
def yJxa1e45_init_da8c8 : MethodName := ⟨RJxa1e45, "<init>", "()V"⟩
def RJxc12de : String := "java/util/AbstractList"
def TJxc12de : u_T := fun k => match k with
  | _ => ("", "", "", false)
def tyJxc12de : Nat → FieldType := fun k => match k with
  | _ => .int
abbrev wsJxc12de0 : List Cond := u_ws RJxc12de TJxc12de 0
theorem nmJxc12de : ∀ a, a < 0 → ∀ b, b < 0 → a ≠ b → (TJxc12de a).2.1 ≠ (TJxc12de b).2.1 := by decide +kernel
theorem tyJxc12de_ok : ∀ k, k < 0 → parseFieldDescriptor (TJxc12de k).2.2.1 = some (tyJxc12de k) := by decide +kernel
abbrev cJxc12de_init_da8c8 : ByteArray := prog_24_method_1_code
def yJxc12de_init_da8c8 : MethodName := ⟨RJxc12de, "<init>", "()V"⟩
def RJx4a65c : String := "java/util/ArrayList"
def TJx4a65c : u_T := fun k => match k with
  | 0 => ("java/util/AbstractList", "modCount", "I", false)
  | 1 => ("java/util/ArrayList", "elementData", "[Ljava/lang/Object;", false)
  | _ => ("java/util/ArrayList", "size", "I", false)
def tyJx4a65c : Nat → FieldType := fun k => match k with
  | 0 => .int
  | 1 => .array (.object "java/lang/Object")
  | _ => .int
abbrev wsJx4a65c0 : List Cond := u_ws RJx4a65c TJx4a65c 3
theorem nmJx4a65c : ∀ a, a < 3 → ∀ b, b < 3 → a ≠ b → (TJx4a65c a).2.1 ≠ (TJx4a65c b).2.1 := by decide +kernel
theorem tyJx4a65c_ok : ∀ k, k < 3 → parseFieldDescriptor (TJx4a65c k).2.2.1 = some (tyJx4a65c k) := by decide +kernel
abbrev cJx4a65c_init_da8c8 : ByteArray := prog_25_method_2_code
def yJx4a65c_init_da8c8 : MethodName := ⟨RJx4a65c, "<init>", "()V"⟩
abbrev cJx4a65c_grow_92f84 : ByteArray := prog_25_method_6_code
def yJx4a65c_grow_92f84 : MethodName := ⟨RJx4a65c, "grow", "(I)[Ljava/lang/Object;"⟩
abbrev cJx4a65c_grow_d5877 : ByteArray := prog_25_method_7_code
def yJx4a65c_grow_d5877 : MethodName := ⟨RJx4a65c, "grow", "()[Ljava/lang/Object;"⟩
abbrev cJx4a65c_size_8abf5 : ByteArray := prog_25_method_8_code
def yJx4a65c_size_8abf5 : MethodName := ⟨RJx4a65c, "size", "()I"⟩
abbrev cJx4a65c_isEmpty_aae02 : ByteArray := prog_25_method_9_code
def yJx4a65c_isEmpty_aae02 : MethodName := ⟨RJx4a65c, "isEmpty", "()Z"⟩
abbrev cJx4a65c_elementData_915e3 : ByteArray := prog_25_method_18_code
def yJx4a65c_elementData_915e3 : MethodName := ⟨RJx4a65c, "elementData", "(I)Ljava/lang/Object;"⟩
abbrev cJx4a65c_get_915e3 : ByteArray := prog_25_method_20_code
def yJx4a65c_get_915e3 : MethodName := ⟨RJx4a65c, "get", "(I)Ljava/lang/Object;"⟩
abbrev cJx4a65c_add_72be8 : ByteArray := prog_25_method_24_code
def yJx4a65c_add_72be8 : MethodName := ⟨RJx4a65c, "add", "(Ljava/lang/Object;[Ljava/lang/Object;I)V"⟩
abbrev cJx4a65c_add_9ea2d : ByteArray := prog_25_method_25_code
def yJx4a65c_add_9ea2d : MethodName := ⟨RJx4a65c, "add", "(Ljava/lang/Object;)Z"⟩
abbrev cJx4a65c_clear_da8c8 : ByteArray := prog_25_method_40_code
def yJx4a65c_clear_da8c8 : MethodName := ⟨RJx4a65c, "clear", "()V"⟩
def RJ7 : String := "java/util/Arrays"
def TJ7 : u_T := fun k => match k with
  | _ => ("", "", "", false)
def tyJ7 : Nat → FieldType := fun k => match k with
  | _ => .int
abbrev wsJ70 : List Cond := u_ws RJ7 TJ7 0
theorem nmJ7 : ∀ a, a < 0 → ∀ b, b < 0 → a ≠ b → (TJ7 a).2.1 ≠ (TJ7 b).2.1 := by decide +kernel
theorem tyJ7_ok : ∀ k, k < 0 → parseFieldDescriptor (TJ7 k).2.2.1 = some (tyJ7 k) := by decide +kernel
abbrev cJ7_copyOf_1904c : ByteArray := prog_26_method_119_code
def yJ7_copyOf_1904c : MethodName := ⟨RJ7, "copyOf", "([Ljava/lang/Object;I)[Ljava/lang/Object;"⟩
abbrev cJ7_copyOf_6403c : ByteArray := prog_26_method_120_code
def yJ7_copyOf_6403c : MethodName := ⟨RJ7, "copyOf", "([Ljava/lang/Object;ILjava/lang/Class;)[Ljava/lang/Object;"⟩
def RJx5ef63 : String := "java/util/Collection"
def TJx5ef63 : u_T := fun k => match k with
  | _ => ("", "", "", false)
def tyJx5ef63 : Nat → FieldType := fun k => match k with
  | _ => .int
abbrev wsJx5ef630 : List Cond := u_ws RJx5ef63 TJx5ef63 0
theorem nmJx5ef63 : ∀ a, a < 0 → ∀ b, b < 0 → a ≠ b → (TJx5ef63 a).2.1 ≠ (TJx5ef63 b).2.1 := by decide +kernel
theorem tyJx5ef63_ok : ∀ k, k < 0 → parseFieldDescriptor (TJx5ef63 k).2.2.1 = some (tyJx5ef63 k) := by decide +kernel
def RJxbd725 : String := "java/util/List"
def TJxbd725 : u_T := fun k => match k with
  | _ => ("", "", "", false)
def tyJxbd725 : Nat → FieldType := fun k => match k with
  | _ => .int
abbrev wsJxbd7250 : List Cond := u_ws RJxbd725 TJxbd725 0
theorem nmJxbd725 : ∀ a, a < 0 → ∀ b, b < 0 → a ≠ b → (TJxbd725 a).2.1 ≠ (TJxbd725 b).2.1 := by decide +kernel
theorem tyJxbd725_ok : ∀ k, k < 0 → parseFieldDescriptor (TJxbd725 k).2.2.1 = some (tyJxbd725 k) := by decide +kernel
def RJ15 : String := "java/util/Objects"
def TJ15 : u_T := fun k => match k with
  | _ => ("", "", "", false)
def tyJ15 : Nat → FieldType := fun k => match k with
  | _ => .int
abbrev wsJ150 : List Cond := u_ws RJ15 TJ15 0
theorem nmJ15 : ∀ a, a < 0 → ∀ b, b < 0 → a ≠ b → (TJ15 a).2.1 ≠ (TJ15 b).2.1 := by decide +kernel
theorem tyJ15_ok : ∀ k, k < 0 → parseFieldDescriptor (TJ15 k).2.2.1 = some (tyJ15 k) := by decide +kernel
abbrev cJ15_checkIndex_7cf53 : ByteArray := prog_29_method_17_code
def yJ15_checkIndex_7cf53 : MethodName := ⟨RJ15, "checkIndex", "(II)I"⟩
def RJxf0a74 : String := "java/util/RandomAccess"
def TJxf0a74 : u_T := fun k => match k with
  | _ => ("", "", "", false)
def tyJxf0a74 : Nat → FieldType := fun k => match k with
  | _ => .int
abbrev wsJxf0a740 : List Cond := u_ws RJxf0a74 TJxf0a74 0
theorem nmJxf0a74 : ∀ a, a < 0 → ∀ b, b < 0 → a ≠ b → (TJxf0a74 a).2.1 ≠ (TJxf0a74 b).2.1 := by decide +kernel
theorem tyJxf0a74_ok : ∀ k, k < 0 → parseFieldDescriptor (TJxf0a74 k).2.2.1 = some (tyJxf0a74 k) := by decide +kernel
def RJxa66e6 : String := "java/util/SequencedCollection"
def TJxa66e6 : u_T := fun k => match k with
  | _ => ("", "", "", false)
def tyJxa66e6 : Nat → FieldType := fun k => match k with
  | _ => .int
abbrev wsJxa66e60 : List Cond := u_ws RJxa66e6 TJxa66e6 0
theorem nmJxa66e6 : ∀ a, a < 0 → ∀ b, b < 0 → a ≠ b → (TJxa66e6 a).2.1 ≠ (TJxa66e6 b).2.1 := by decide +kernel
theorem tyJxa66e6_ok : ∀ k, k < 0 → parseFieldDescriptor (TJxa66e6 k).2.2.1 = some (tyJxa66e6 k) := by decide +kernel
def RJ8 : String := "jdk/internal/util/ArraysSupport"
def TJ8 : u_T := fun k => match k with
  | _ => ("", "", "", false)
def tyJ8 : Nat → FieldType := fun k => match k with
  | _ => .int
abbrev wsJ80 : List Cond := u_ws RJ8 TJ8 0
theorem nmJ8 : ∀ a, a < 0 → ∀ b, b < 0 → a ≠ b → (TJ8 a).2.1 ≠ (TJ8 b).2.1 := by decide +kernel
theorem tyJ8_ok : ∀ k, k < 0 → parseFieldDescriptor (TJ8 k).2.2.1 = some (tyJ8 k) := by decide +kernel
abbrev cJ8_newLength_cabcc : ByteArray := prog_32_method_27_code
def yJ8_newLength_cabcc : MethodName := ⟨RJ8, "newLength", "(III)I"⟩
abbrev cJ8_hugeLength_7cf53 : ByteArray := prog_32_method_28_code
def yJ8_hugeLength_7cf53 : MethodName := ⟨RJ8, "hugeLength", "(II)I"⟩
def RJ3 : String := "jdk/internal/util/Preconditions"
def TJ3 : u_T := fun k => match k with
  | _ => ("", "", "", false)
def tyJ3 : Nat → FieldType := fun k => match k with
  | _ => .int
abbrev wsJ30 : List Cond := u_ws RJ3 TJ3 0
theorem nmJ3 : ∀ a, a < 0 → ∀ b, b < 0 → a ≠ b → (TJ3 a).2.1 ≠ (TJ3 b).2.1 := by decide +kernel
theorem tyJ3_ok : ∀ k, k < 0 → parseFieldDescriptor (TJ3 k).2.2.1 = some (tyJ3 k) := by decide +kernel
abbrev cJ3_checkIndex_8e157 : ByteArray := prog_33_method_11_code
def yJ3_checkIndex_8e157 : MethodName := ⟨RJ3, "checkIndex", "(IILjava/util/function/BiFunction;)I"⟩
def RL : String := "ColourPartsLaw"
abbrev cL_cell : ByteArray := method_2_code
def yL_cell : MethodName := ⟨RL, "cell", "([II)I"⟩
abbrev cL_shape : ByteArray := method_3_code
def yL_shape : MethodName := ⟨RL, "shape", "(LColourParts;[J)I"⟩
abbrev cL_corner : ByteArray := method_4_code
def yL_corner : MethodName := ⟨RL, "corner", "(LColourParts;IJJ[J)I"⟩
abbrev cL_near : ByteArray := method_5_code
def yL_near : MethodName := ⟨RL, "near", "(LColourParts;[J)I"⟩
abbrev cL_run : ByteArray := method_6_code
def yL_run : MethodName := ⟨RL, "run", "(LColourParts;IJ[J)I"⟩
abbrev cL_colour : ByteArray := method_7_code
def yL_colour : MethodName := ⟨RL, "colour", "(LColourParts;I[J)I"⟩
abbrev cL_ring : ByteArray := method_8_code
def yL_ring : MethodName := ⟨RL, "ring", "(LColourParts;I[J)I"⟩
abbrev cL_pre : ByteArray := method_9_code
def yL_pre : MethodName := ⟨RL, "pre", "(LColourParts;II[J)I"⟩
abbrev cL_stitch : ByteArray := method_10_code
def yL_stitch : MethodName := ⟨RL, "stitch", "(LColourParts;IJZ[J)I"⟩
abbrev cL_used : ByteArray := method_11_code
def yL_used : MethodName := ⟨RL, "used", "(LColourParts;II[J)I"⟩
abbrev cL_balance : ByteArray := method_12_code
def yL_balance : MethodName := ⟨RL, "balance", "(LColourParts;II[J)I"⟩
abbrev cL_pair : ByteArray := method_13_code
def yL_pair : MethodName := ⟨RL, "pair", "(LColourParts;II[J)I"⟩
abbrev cL_law : ByteArray := code
def yL_law : MethodName := ⟨RL, "law", "([I)Z"⟩
def wsX0_init : List Cond := .code yX0_init cX0_init 9 none :: ([.methodLink RX0 1 objectInit, .instanceMethod objectInit, .code objectInit ⟨#[0xb1]⟩ 1 none, .fieldLink RX0 7 "ColourParts$Box" "left" "J", .fieldLink RX0 13 "ColourParts$Box" "low" "J", .fieldLink RX0 16 "ColourParts$Box" "right" "J", .fieldLink RX0 19 "ColourParts$Box" "high" "J"] ++ wsX00)
def wsX0_area : List Cond := .code yX0_area cX0_area 1 (some .long) :: ([.fieldLink RX0 16 "ColourParts$Box" "right" "J", .fieldLink RX0 7 "ColourParts$Box" "left" "J", .fieldLink RX0 19 "ColourParts$Box" "high" "J", .fieldLink RX0 13 "ColourParts$Box" "low" "J"] ++ wsX00)
def wsX0_isWithin : List Cond := .code yX0_isWithin cX0_isWithin 4 (some .boolean) :: ([.fieldLink RX0 7 "ColourParts$Box" "left" "J", .fieldLink RX0 16 "ColourParts$Box" "right" "J", .fieldLink RX0 13 "ColourParts$Box" "low" "J", .fieldLink RX0 19 "ColourParts$Box" "high" "J"] ++ wsX00)
def wsJx4a65c_size_8abf5 : List Cond := .code yJx4a65c_size_8abf5 cJx4a65c_size_8abf5 1 (some .int) :: ([.fieldLink RJx4a65c 48 "java/util/ArrayList" "size" "I"] ++ wsJx4a65c0)
def wsJ3_checkIndex_8e157 : List Cond := .code yJ3_checkIndex_8e157 cJ3_checkIndex_8e157 3 (some .int) :: ([])
def wsJ15_checkIndex_7cf53 : List Cond := .code yJ15_checkIndex_7cf53 cJ15_checkIndex_7cf53 2 (some .int) :: ([.methodLink RJ15 105 yJ3_checkIndex_8e157, .static yJ3_checkIndex_8e157, .initialized RJ3, .code yJ3_checkIndex_8e157 cJ3_checkIndex_8e157 3 (some .int)])
def wsJx4a65c_elementData_915e3 : List Cond := .code yJx4a65c_elementData_915e3 cJx4a65c_elementData_915e3 2 (some (.object "java/lang/Object")) :: ([.fieldLink RJx4a65c 9 "java/util/ArrayList" "elementData" "[Ljava/lang/Object;"] ++ wsJx4a65c0)
def wsJx4a65c_get_915e3 : List Cond := .code yJx4a65c_get_915e3 cJx4a65c_get_915e3 2 (some (.object "java/lang/Object")) :: ([.fieldLink RJx4a65c 48 "java/util/ArrayList" "size" "I", .methodLink RJx4a65c 118 yJ15_checkIndex_7cf53, .static yJ15_checkIndex_7cf53, .initialized RJ15, .code yJ15_checkIndex_7cf53 cJ15_checkIndex_7cf53 2 (some .int), .methodLink RJ15 105 yJ3_checkIndex_8e157, .static yJ3_checkIndex_8e157, .initialized RJ3, .code yJ3_checkIndex_8e157 cJ3_checkIndex_8e157 3 (some .int), .methodLink RJx4a65c 123 yJx4a65c_elementData_915e3, .instanceMethod yJx4a65c_elementData_915e3, .selects RJx4a65c yJx4a65c_elementData_915e3 yJx4a65c_elementData_915e3, .initialized RJx4a65c, .code yJx4a65c_elementData_915e3 cJx4a65c_elementData_915e3 2 (some (.object "java/lang/Object")), .fieldLink RJx4a65c 9 "java/util/ArrayList" "elementData" "[Ljava/lang/Object;"] ++ wsJx4a65c0)
def wsX0_gap : List Cond := .code yX0_gap cX0_gap 8 (some .long) :: ([.methodLink RX0 40 Lib.MathLoose.max_long.x, .static Lib.MathLoose.max_long.x, .initialized "java/lang/Math", .code Lib.MathLoose.max_long.x Lib.MathLoose.max_long.code 4 (some .long)])
def wsX0_isNearBox : List Cond := .code yX0_isNearBox cX0_isNearBox 8 (some .boolean) :: ([.fieldLink RX0 7 "ColourParts$Box" "left" "J", .fieldLink RX0 16 "ColourParts$Box" "right" "J", .fieldLink RX0 13 "ColourParts$Box" "low" "J", .fieldLink RX0 19 "ColourParts$Box" "high" "J", .methodLink RX0 36 yX0_gap, .static yX0_gap, .initialized RX0, .code yX0_gap cX0_gap 8 (some .long), .methodLink RX0 40 Lib.MathLoose.max_long.x, .static Lib.MathLoose.max_long.x, .initialized "java/lang/Math", .code Lib.MathLoose.max_long.x Lib.MathLoose.max_long.code 4 (some .long)] ++ wsX00)
def wsX0_isNearAny_r1 : List Cond := [Cond.classLink RX0 8 "ColourParts$Box", Cond.methodLink RX0 22 yJx4a65c_size_8abf5, Cond.instanceMethod yJx4a65c_size_8abf5, Cond.selects RJx4a65c yJx4a65c_size_8abf5 yJx4a65c_size_8abf5, Cond.initialized RJx4a65c, Cond.code yJx4a65c_size_8abf5 cJx4a65c_size_8abf5 1 (some .int), Cond.fieldLink RJx4a65c 48 "java/util/ArrayList" "size" "I", Cond.methodLink RX0 28 yJx4a65c_get_915e3, Cond.instanceMethod yJx4a65c_get_915e3, Cond.selects RJx4a65c yJx4a65c_get_915e3 yJx4a65c_get_915e3, Cond.code yJx4a65c_get_915e3 cJx4a65c_get_915e3 2 (some (.object "java/lang/Object")), Cond.methodLink RJx4a65c 118 yJ15_checkIndex_7cf53, Cond.static yJ15_checkIndex_7cf53, Cond.initialized RJ15, Cond.code yJ15_checkIndex_7cf53 cJ15_checkIndex_7cf53 2 (some .int), Cond.methodLink RJ15 105 yJ3_checkIndex_8e157, Cond.static yJ3_checkIndex_8e157, Cond.initialized RJ3, Cond.code yJ3_checkIndex_8e157 cJ3_checkIndex_8e157 3 (some .int), Cond.methodLink RJx4a65c 123 yJx4a65c_elementData_915e3, Cond.instanceMethod yJx4a65c_elementData_915e3, Cond.selects RJx4a65c yJx4a65c_elementData_915e3 yJx4a65c_elementData_915e3, Cond.code yJx4a65c_elementData_915e3 cJx4a65c_elementData_915e3 2 (some (.object "java/lang/Object")), Cond.fieldLink RJx4a65c 9 "java/util/ArrayList" "elementData" "[Ljava/lang/Object;"]
def wsX0_isNearAny_r2 : List Cond := [Cond.methodLink RX0 32 yX0_isNearBox, Cond.instanceMethod yX0_isNearBox, Cond.selects RX0 yX0_isNearBox yX0_isNearBox, Cond.initialized RX0, Cond.code yX0_isNearBox cX0_isNearBox 8 (some .boolean), Cond.fieldLink RX0 7 "ColourParts$Box" "left" "J", Cond.fieldLink RX0 16 "ColourParts$Box" "right" "J", Cond.fieldLink RX0 13 "ColourParts$Box" "low" "J", Cond.fieldLink RX0 19 "ColourParts$Box" "high" "J", Cond.methodLink RX0 36 yX0_gap, Cond.static yX0_gap, Cond.code yX0_gap cX0_gap 8 (some .long), Cond.methodLink RX0 40 Lib.MathLoose.max_long.x, Cond.static Lib.MathLoose.max_long.x, Cond.initialized "java/lang/Math", Cond.code Lib.MathLoose.max_long.x Lib.MathLoose.max_long.code 4 (some .long)]
def wsX0_isNearAny : List Cond := .code yX0_isNearAny cX0_isNearAny 5 (some .boolean) :: ((wsX0_isNearAny_r1 ++ wsX0_isNearAny_r2) ++ wsJx4a65c0 ++ wsX00)
def wsX3_count : List Cond := .code yX3_count cX3_count 1 (some .int) :: ([.fieldLink RX3 12 "ColourParts$Pieces" "row" "Ljava/util/ArrayList;", .methodLink RX3 18 yJx4a65c_size_8abf5, .instanceMethod yJx4a65c_size_8abf5, .selects RJx4a65c yJx4a65c_size_8abf5 yJx4a65c_size_8abf5, .initialized RJx4a65c, .code yJx4a65c_size_8abf5 cJx4a65c_size_8abf5 1 (some .int), .fieldLink RJx4a65c 48 "java/util/ArrayList" "size" "I"] ++ wsX30 ++ wsJx4a65c0)
def wsX2_areas_r1 : List Cond := [Cond.fieldLink RX2 19 "ColourParts$Piece" "boxes" "Ljava/util/ArrayList;", Cond.classLink RX2 33 "ColourParts$Box", Cond.methodLink RX2 23 yJx4a65c_size_8abf5, Cond.instanceMethod yJx4a65c_size_8abf5, Cond.selects RJx4a65c yJx4a65c_size_8abf5 yJx4a65c_size_8abf5, Cond.initialized RJx4a65c, Cond.code yJx4a65c_size_8abf5 cJx4a65c_size_8abf5 1 (some .int), Cond.fieldLink RJx4a65c 48 "java/util/ArrayList" "size" "I", Cond.methodLink RX2 29 yJx4a65c_get_915e3, Cond.instanceMethod yJx4a65c_get_915e3, Cond.selects RJx4a65c yJx4a65c_get_915e3 yJx4a65c_get_915e3, Cond.code yJx4a65c_get_915e3 cJx4a65c_get_915e3 2 (some (.object "java/lang/Object")), Cond.methodLink RJx4a65c 118 yJ15_checkIndex_7cf53, Cond.static yJ15_checkIndex_7cf53, Cond.initialized RJ15, Cond.code yJ15_checkIndex_7cf53 cJ15_checkIndex_7cf53 2 (some .int), Cond.methodLink RJ15 105 yJ3_checkIndex_8e157, Cond.static yJ3_checkIndex_8e157, Cond.initialized RJ3, Cond.code yJ3_checkIndex_8e157 cJ3_checkIndex_8e157 3 (some .int), Cond.methodLink RJx4a65c 123 yJx4a65c_elementData_915e3, Cond.instanceMethod yJx4a65c_elementData_915e3, Cond.selects RJx4a65c yJx4a65c_elementData_915e3 yJx4a65c_elementData_915e3, Cond.code yJx4a65c_elementData_915e3 cJx4a65c_elementData_915e3 2 (some (.object "java/lang/Object"))]
def wsX2_areas_r2 : List Cond := [Cond.fieldLink RJx4a65c 9 "java/util/ArrayList" "elementData" "[Ljava/lang/Object;", Cond.methodLink RX2 35 yX0_area, Cond.instanceMethod yX0_area, Cond.selects RX0 yX0_area yX0_area, Cond.initialized RX0, Cond.code yX0_area cX0_area 1 (some .long), Cond.fieldLink RX0 16 "ColourParts$Box" "right" "J", Cond.fieldLink RX0 7 "ColourParts$Box" "left" "J", Cond.fieldLink RX0 19 "ColourParts$Box" "high" "J", Cond.fieldLink RX0 13 "ColourParts$Box" "low" "J"]
def wsX2_areas : List Cond := .code yX2_areas cX2_areas 4 (some .long) :: ((wsX2_areas_r1 ++ wsX2_areas_r2) ++ wsX20 ++ wsJx4a65c0 ++ wsX00)
def wsX3_areas_r1 : List Cond := [Cond.fieldLink RX3 12 "ColourParts$Pieces" "row" "Ljava/util/ArrayList;", Cond.classLink RX3 22 "ColourParts$Piece", Cond.methodLink RX3 18 yJx4a65c_size_8abf5, Cond.instanceMethod yJx4a65c_size_8abf5, Cond.selects RJx4a65c yJx4a65c_size_8abf5 yJx4a65c_size_8abf5, Cond.initialized RJx4a65c, Cond.code yJx4a65c_size_8abf5 cJx4a65c_size_8abf5 1 (some .int), Cond.fieldLink RJx4a65c 48 "java/util/ArrayList" "size" "I", Cond.methodLink RX3 31 yJx4a65c_get_915e3, Cond.instanceMethod yJx4a65c_get_915e3, Cond.selects RJx4a65c yJx4a65c_get_915e3 yJx4a65c_get_915e3, Cond.code yJx4a65c_get_915e3 cJx4a65c_get_915e3 2 (some (.object "java/lang/Object")), Cond.methodLink RJx4a65c 118 yJ15_checkIndex_7cf53, Cond.static yJ15_checkIndex_7cf53, Cond.initialized RJ15, Cond.code yJ15_checkIndex_7cf53 cJ15_checkIndex_7cf53 2 (some .int), Cond.methodLink RJ15 105 yJ3_checkIndex_8e157, Cond.static yJ3_checkIndex_8e157, Cond.initialized RJ3, Cond.code yJ3_checkIndex_8e157 cJ3_checkIndex_8e157 3 (some .int), Cond.methodLink RJx4a65c 123 yJx4a65c_elementData_915e3, Cond.instanceMethod yJx4a65c_elementData_915e3, Cond.selects RJx4a65c yJx4a65c_elementData_915e3 yJx4a65c_elementData_915e3, Cond.code yJx4a65c_elementData_915e3 cJx4a65c_elementData_915e3 2 (some (.object "java/lang/Object"))]
def wsX3_areas_r2 : List Cond := [Cond.fieldLink RJx4a65c 9 "java/util/ArrayList" "elementData" "[Ljava/lang/Object;", Cond.methodLink RX3 45 yX2_areas, Cond.instanceMethod yX2_areas, Cond.selects RX2 yX2_areas yX2_areas, Cond.initialized RX2, Cond.code yX2_areas cX2_areas 4 (some .long), Cond.fieldLink RX2 19 "ColourParts$Piece" "boxes" "Ljava/util/ArrayList;", Cond.classLink RX2 33 "ColourParts$Box", Cond.methodLink RX2 23 yJx4a65c_size_8abf5, Cond.methodLink RX2 29 yJx4a65c_get_915e3, Cond.methodLink RX2 35 yX0_area, Cond.instanceMethod yX0_area, Cond.selects RX0 yX0_area yX0_area, Cond.initialized RX0, Cond.code yX0_area cX0_area 1 (some .long), Cond.fieldLink RX0 16 "ColourParts$Box" "right" "J", Cond.fieldLink RX0 7 "ColourParts$Box" "left" "J", Cond.fieldLink RX0 19 "ColourParts$Box" "high" "J", Cond.fieldLink RX0 13 "ColourParts$Box" "low" "J"]
def wsX3_areas : List Cond := .code yX3_areas cX3_areas 2 (some .long) :: ((wsX3_areas_r1 ++ wsX3_areas_r2) ++ wsX30 ++ wsJx4a65c0 ++ wsX20 ++ wsX00)
def wsX1_weigh : List Cond := .code yX1_weigh cX1_weigh 4 none :: ([.fieldLink RX1 21 "ColourParts$Colouring" "pieceCounts" "[I", .fieldLink RX1 24 "ColourParts$Colouring" "areas" "[J"] ++ wsX10)
def wsX3_owner_r1 : List Cond := [Cond.fieldLink RX3 12 "ColourParts$Pieces" "row" "Ljava/util/ArrayList;", Cond.classLink RX3 22 "ColourParts$Piece", Cond.fieldLink RX3 35 "ColourParts$Piece" "owner" "I", Cond.methodLink RX3 18 yJx4a65c_size_8abf5, Cond.instanceMethod yJx4a65c_size_8abf5, Cond.selects RJx4a65c yJx4a65c_size_8abf5 yJx4a65c_size_8abf5, Cond.initialized RJx4a65c, Cond.code yJx4a65c_size_8abf5 cJx4a65c_size_8abf5 1 (some .int), Cond.fieldLink RJx4a65c 48 "java/util/ArrayList" "size" "I", Cond.methodLink RX3 31 yJx4a65c_get_915e3, Cond.instanceMethod yJx4a65c_get_915e3, Cond.selects RJx4a65c yJx4a65c_get_915e3 yJx4a65c_get_915e3, Cond.code yJx4a65c_get_915e3 cJx4a65c_get_915e3 2 (some (.object "java/lang/Object")), Cond.methodLink RJx4a65c 118 yJ15_checkIndex_7cf53, Cond.static yJ15_checkIndex_7cf53, Cond.initialized RJ15, Cond.code yJ15_checkIndex_7cf53 cJ15_checkIndex_7cf53 2 (some .int), Cond.methodLink RJ15 105 yJ3_checkIndex_8e157, Cond.static yJ3_checkIndex_8e157, Cond.initialized RJ3, Cond.code yJ3_checkIndex_8e157 cJ3_checkIndex_8e157 3 (some .int), Cond.methodLink RJx4a65c 123 yJx4a65c_elementData_915e3, Cond.instanceMethod yJx4a65c_elementData_915e3, Cond.selects RJx4a65c yJx4a65c_elementData_915e3 yJx4a65c_elementData_915e3]
def wsX3_owner_r2 : List Cond := [Cond.code yJx4a65c_elementData_915e3 cJx4a65c_elementData_915e3 2 (some (.object "java/lang/Object")), Cond.fieldLink RJx4a65c 9 "java/util/ArrayList" "elementData" "[Ljava/lang/Object;"]
def wsX3_owner : List Cond := .code yX3_owner cX3_owner 2 (some .int) :: ((wsX3_owner_r1 ++ wsX3_owner_r2) ++ wsX30 ++ wsX20 ++ wsJx4a65c0)
def wsX3_isAfterStitch_r1 : List Cond := [Cond.methodLink RX3 49 yX3_owner, Cond.instanceMethod yX3_owner, Cond.selects RX3 yX3_owner yX3_owner, Cond.initialized RX3, Cond.code yX3_owner cX3_owner 2 (some .int), Cond.fieldLink RX3 12 "ColourParts$Pieces" "row" "Ljava/util/ArrayList;", Cond.classLink RX3 22 "ColourParts$Piece", Cond.fieldLink RX3 35 "ColourParts$Piece" "owner" "I", Cond.methodLink RX3 18 yJx4a65c_size_8abf5, Cond.instanceMethod yJx4a65c_size_8abf5, Cond.selects RJx4a65c yJx4a65c_size_8abf5 yJx4a65c_size_8abf5, Cond.initialized RJx4a65c, Cond.code yJx4a65c_size_8abf5 cJx4a65c_size_8abf5 1 (some .int), Cond.fieldLink RJx4a65c 48 "java/util/ArrayList" "size" "I", Cond.methodLink RX3 31 yJx4a65c_get_915e3, Cond.instanceMethod yJx4a65c_get_915e3, Cond.selects RJx4a65c yJx4a65c_get_915e3 yJx4a65c_get_915e3, Cond.code yJx4a65c_get_915e3 cJx4a65c_get_915e3 2 (some (.object "java/lang/Object")), Cond.methodLink RJx4a65c 118 yJ15_checkIndex_7cf53, Cond.static yJ15_checkIndex_7cf53, Cond.initialized RJ15, Cond.code yJ15_checkIndex_7cf53 cJ15_checkIndex_7cf53 2 (some .int), Cond.methodLink RJ15 105 yJ3_checkIndex_8e157, Cond.static yJ3_checkIndex_8e157]
def wsX3_isAfterStitch_r2 : List Cond := [Cond.initialized RJ3, Cond.code yJ3_checkIndex_8e157 cJ3_checkIndex_8e157 3 (some .int), Cond.methodLink RJx4a65c 123 yJx4a65c_elementData_915e3, Cond.instanceMethod yJx4a65c_elementData_915e3, Cond.selects RJx4a65c yJx4a65c_elementData_915e3 yJx4a65c_elementData_915e3, Cond.code yJx4a65c_elementData_915e3 cJx4a65c_elementData_915e3 2 (some (.object "java/lang/Object")), Cond.fieldLink RJx4a65c 9 "java/util/ArrayList" "elementData" "[Ljava/lang/Object;"]
def wsX3_isAfterStitch : List Cond := .code yX3_isAfterStitch cX3_isAfterStitch 2 (some .boolean) :: ((wsX3_isAfterStitch_r1 ++ wsX3_isAfterStitch_r2) ++ wsX30 ++ wsX20 ++ wsJx4a65c0)
def wsX1_noteStitch : List Cond := .code yX1_noteStitch cX1_noteStitch 3 none :: ([.fieldLink RX1 18 "ColourParts$Colouring" "usedStitches" "[I", .fieldLink RX1 15 "ColourParts$Colouring" "stitchCounts" "[I"] ++ wsX10)
def wsX1_noteFirst : List Cond := .code yX1_noteFirst cX1_noteFirst 3 none :: ([.fieldLink RX1 9 "ColourParts$Colouring" "firstColours" "[I"] ++ wsX10)
def wsX1_init_r1 : List Cond := [Cond.methodLink RX1 3 objectInit, Cond.instanceMethod objectInit, Cond.code objectInit ⟨#[0xb1]⟩ 1 none, Cond.arrayClass .int, Cond.fieldLink RX1 9 "ColourParts$Colouring" "firstColours" "[I", Cond.fieldLink RX1 15 "ColourParts$Colouring" "stitchCounts" "[I", Cond.fieldLink RX1 18 "ColourParts$Colouring" "usedStitches" "[I", Cond.fieldLink RX1 21 "ColourParts$Colouring" "pieceCounts" "[I", Cond.arrayClass .long, Cond.fieldLink RX1 24 "ColourParts$Colouring" "areas" "[J", Cond.fieldLink RX1 28 "ColourParts$Colouring" "usedInAll" "I", Cond.methodLink RX1 32 yX3_count, Cond.instanceMethod yX3_count, Cond.selects RX3 yX3_count yX3_count, Cond.initialized RX3, Cond.code yX3_count cX3_count 1 (some .int), Cond.fieldLink RX3 12 "ColourParts$Pieces" "row" "Ljava/util/ArrayList;", Cond.methodLink RX3 18 yJx4a65c_size_8abf5, Cond.instanceMethod yJx4a65c_size_8abf5, Cond.selects RJx4a65c yJx4a65c_size_8abf5 yJx4a65c_size_8abf5, Cond.initialized RJx4a65c, Cond.code yJx4a65c_size_8abf5 cJx4a65c_size_8abf5 1 (some .int), Cond.fieldLink RJx4a65c 48 "java/util/ArrayList" "size" "I", Cond.methodLink RX1 38 yX3_areas]
def wsX1_init_r2 : List Cond := [Cond.instanceMethod yX3_areas, Cond.selects RX3 yX3_areas yX3_areas, Cond.code yX3_areas cX3_areas 2 (some .long), Cond.classLink RX3 22 "ColourParts$Piece", Cond.methodLink RX3 31 yJx4a65c_get_915e3, Cond.instanceMethod yJx4a65c_get_915e3, Cond.selects RJx4a65c yJx4a65c_get_915e3 yJx4a65c_get_915e3, Cond.code yJx4a65c_get_915e3 cJx4a65c_get_915e3 2 (some (.object "java/lang/Object")), Cond.methodLink RJx4a65c 118 yJ15_checkIndex_7cf53, Cond.static yJ15_checkIndex_7cf53, Cond.initialized RJ15, Cond.code yJ15_checkIndex_7cf53 cJ15_checkIndex_7cf53 2 (some .int), Cond.methodLink RJ15 105 yJ3_checkIndex_8e157, Cond.static yJ3_checkIndex_8e157, Cond.initialized RJ3, Cond.code yJ3_checkIndex_8e157 cJ3_checkIndex_8e157 3 (some .int), Cond.methodLink RJx4a65c 123 yJx4a65c_elementData_915e3, Cond.instanceMethod yJx4a65c_elementData_915e3, Cond.selects RJx4a65c yJx4a65c_elementData_915e3 yJx4a65c_elementData_915e3, Cond.code yJx4a65c_elementData_915e3 cJx4a65c_elementData_915e3 2 (some (.object "java/lang/Object")), Cond.fieldLink RJx4a65c 9 "java/util/ArrayList" "elementData" "[Ljava/lang/Object;", Cond.methodLink RX3 45 yX2_areas, Cond.instanceMethod yX2_areas, Cond.selects RX2 yX2_areas yX2_areas]
def wsX1_init_r3 : List Cond := [Cond.initialized RX2, Cond.code yX2_areas cX2_areas 4 (some .long), Cond.fieldLink RX2 19 "ColourParts$Piece" "boxes" "Ljava/util/ArrayList;", Cond.classLink RX2 33 "ColourParts$Box", Cond.methodLink RX2 23 yJx4a65c_size_8abf5, Cond.methodLink RX2 29 yJx4a65c_get_915e3, Cond.methodLink RX2 35 yX0_area, Cond.instanceMethod yX0_area, Cond.selects RX0 yX0_area yX0_area, Cond.initialized RX0, Cond.code yX0_area cX0_area 1 (some .long), Cond.fieldLink RX0 16 "ColourParts$Box" "right" "J", Cond.fieldLink RX0 7 "ColourParts$Box" "left" "J", Cond.fieldLink RX0 19 "ColourParts$Box" "high" "J", Cond.fieldLink RX0 13 "ColourParts$Box" "low" "J", Cond.methodLink RX1 41 yX1_weigh, Cond.instanceMethod yX1_weigh, Cond.selects RX1 yX1_weigh yX1_weigh, Cond.initialized RX1, Cond.code yX1_weigh cX1_weigh 4 none, Cond.methodLink RX1 45 yX3_isAfterStitch, Cond.instanceMethod yX3_isAfterStitch, Cond.selects RX3 yX3_isAfterStitch yX3_isAfterStitch, Cond.code yX3_isAfterStitch cX3_isAfterStitch 2 (some .boolean)]
def wsX1_init_r4 : List Cond := [Cond.methodLink RX3 49 yX3_owner, Cond.instanceMethod yX3_owner, Cond.selects RX3 yX3_owner yX3_owner, Cond.code yX3_owner cX3_owner 2 (some .int), Cond.fieldLink RX3 35 "ColourParts$Piece" "owner" "I", Cond.methodLink RX1 49 yX3_owner, Cond.methodLink RX1 53 yX1_noteStitch, Cond.instanceMethod yX1_noteStitch, Cond.selects RX1 yX1_noteStitch yX1_noteStitch, Cond.code yX1_noteStitch cX1_noteStitch 3 none, Cond.methodLink RX1 57 yX1_noteFirst, Cond.instanceMethod yX1_noteFirst, Cond.selects RX1 yX1_noteFirst yX1_noteFirst, Cond.code yX1_noteFirst cX1_noteFirst 3 none]
def wsX1_init : List Cond := .code yX1_init cX1_init 5 none :: ((wsX1_init_r1 ++ (wsX1_init_r2 ++ (wsX1_init_r3 ++ wsX1_init_r4))) ++ wsX10 ++ wsX30 ++ wsJx4a65c0 ++ wsX20 ++ wsX00)
def wsX2_init : List Cond := .code yX2_init cX2_init 4 none :: ([.methodLink RX2 1 objectInit, .instanceMethod objectInit, .code objectInit ⟨#[0xb1]⟩ 1 none, .fieldLink RX2 7 "ColourParts$Piece" "nearPieces" "I", .fieldLink RX2 13 "ColourParts$Piece" "owner" "I", .fieldLink RX2 16 "ColourParts$Piece" "told" "I", .fieldLink RX2 19 "ColourParts$Piece" "boxes" "Ljava/util/ArrayList;"] ++ wsX20)
def wsX2_isNearPiece_r1 : List Cond := [Cond.fieldLink RX2 19 "ColourParts$Piece" "boxes" "Ljava/util/ArrayList;", Cond.classLink RX2 33 "ColourParts$Box", Cond.methodLink RX2 23 yJx4a65c_size_8abf5, Cond.instanceMethod yJx4a65c_size_8abf5, Cond.selects RJx4a65c yJx4a65c_size_8abf5 yJx4a65c_size_8abf5, Cond.initialized RJx4a65c, Cond.code yJx4a65c_size_8abf5 cJx4a65c_size_8abf5 1 (some .int), Cond.fieldLink RJx4a65c 48 "java/util/ArrayList" "size" "I", Cond.methodLink RX2 29 yJx4a65c_get_915e3, Cond.instanceMethod yJx4a65c_get_915e3, Cond.selects RJx4a65c yJx4a65c_get_915e3 yJx4a65c_get_915e3, Cond.code yJx4a65c_get_915e3 cJx4a65c_get_915e3 2 (some (.object "java/lang/Object")), Cond.methodLink RJx4a65c 118 yJ15_checkIndex_7cf53, Cond.static yJ15_checkIndex_7cf53, Cond.initialized RJ15, Cond.code yJ15_checkIndex_7cf53 cJ15_checkIndex_7cf53 2 (some .int), Cond.methodLink RJ15 105 yJ3_checkIndex_8e157, Cond.static yJ3_checkIndex_8e157, Cond.initialized RJ3, Cond.code yJ3_checkIndex_8e157 cJ3_checkIndex_8e157 3 (some .int), Cond.methodLink RJx4a65c 123 yJx4a65c_elementData_915e3, Cond.instanceMethod yJx4a65c_elementData_915e3, Cond.selects RJx4a65c yJx4a65c_elementData_915e3 yJx4a65c_elementData_915e3, Cond.code yJx4a65c_elementData_915e3 cJx4a65c_elementData_915e3 2 (some (.object "java/lang/Object"))]
def wsX2_isNearPiece_r2 : List Cond := [Cond.fieldLink RJx4a65c 9 "java/util/ArrayList" "elementData" "[Ljava/lang/Object;", Cond.methodLink RX2 39 yX0_isNearAny, Cond.instanceMethod yX0_isNearAny, Cond.selects RX0 yX0_isNearAny yX0_isNearAny, Cond.initialized RX0, Cond.code yX0_isNearAny cX0_isNearAny 5 (some .boolean), Cond.classLink RX0 8 "ColourParts$Box", Cond.methodLink RX0 22 yJx4a65c_size_8abf5, Cond.methodLink RX0 28 yJx4a65c_get_915e3, Cond.methodLink RX0 32 yX0_isNearBox, Cond.instanceMethod yX0_isNearBox, Cond.selects RX0 yX0_isNearBox yX0_isNearBox, Cond.code yX0_isNearBox cX0_isNearBox 8 (some .boolean), Cond.fieldLink RX0 7 "ColourParts$Box" "left" "J", Cond.fieldLink RX0 16 "ColourParts$Box" "right" "J", Cond.fieldLink RX0 13 "ColourParts$Box" "low" "J", Cond.fieldLink RX0 19 "ColourParts$Box" "high" "J", Cond.methodLink RX0 36 yX0_gap, Cond.static yX0_gap, Cond.code yX0_gap cX0_gap 8 (some .long), Cond.methodLink RX0 40 Lib.MathLoose.max_long.x, Cond.static Lib.MathLoose.max_long.x, Cond.initialized "java/lang/Math", Cond.code Lib.MathLoose.max_long.x Lib.MathLoose.max_long.code 4 (some .long)]
def wsX2_isNearPiece : List Cond := .code yX2_isNearPiece cX2_isNearPiece 5 (some .boolean) :: ((wsX2_isNearPiece_r1 ++ wsX2_isNearPiece_r2) ++ wsX20 ++ wsJx4a65c0 ++ wsX00)
def wsJxa1e45_init_da8c8 : List Cond := .code yJxa1e45_init_da8c8 cJxa1e45_init_da8c8 1 none :: ([.methodLink RJxa1e45 1 objectInit, .instanceMethod objectInit, .code objectInit ⟨#[0xb1]⟩ 1 none])
def wsJxc12de_init_da8c8 : List Cond := .code yJxc12de_init_da8c8 cJxc12de_init_da8c8 1 none :: ([.fieldLink RJxc12de 7 "java/util/AbstractList" "modCount" "I", .methodLink RJxc12de 1 yJxa1e45_init_da8c8, .instanceMethod yJxa1e45_init_da8c8, .initialized RJxa1e45, .code yJxa1e45_init_da8c8 cJxa1e45_init_da8c8 1 none, .methodLink RJxa1e45 1 objectInit, .instanceMethod objectInit, .code objectInit ⟨#[0xb1]⟩ 1 none] ++ wsJx4a65c0)
def wsJx4a65c_init_da8c8 : List Cond := .code yJx4a65c_init_da8c8 cJx4a65c_init_da8c8 1 none :: ([.fieldLink RJx4a65c 39 "java/util/ArrayList" "DEFAULTCAPACITY_EMPTY_ELEMENTDATA" "[Ljava/lang/Object;", .fieldLink RJx4a65c 9 "java/util/ArrayList" "elementData" "[Ljava/lang/Object;", .methodLink RJx4a65c 1 yJxc12de_init_da8c8, .instanceMethod yJxc12de_init_da8c8, .initialized RJxc12de, .code yJxc12de_init_da8c8 cJxc12de_init_da8c8 1 none, .fieldLink RJxc12de 7 "java/util/AbstractList" "modCount" "I", .methodLink RJxc12de 1 yJxa1e45_init_da8c8, .instanceMethod yJxa1e45_init_da8c8, .initialized RJxa1e45, .code yJxa1e45_init_da8c8 cJxa1e45_init_da8c8 1 none, .methodLink RJxa1e45 1 objectInit, .instanceMethod objectInit, .code objectInit ⟨#[0xb1]⟩ 1 none] ++ wsJx4a65c0)
def wsX3_init : List Cond := .code yX3_init cX3_init 1 none :: ([.methodLink RX3 3 objectInit, .instanceMethod objectInit, .code objectInit ⟨#[0xb1]⟩ 1 none, .classLink RX3 9 RJx4a65c, .instantiable RJx4a65c 3, .initialized RJx4a65c, .fieldLink RX3 12 "ColourParts$Pieces" "row" "Ljava/util/ArrayList;", .methodLink RX3 11 yJx4a65c_init_da8c8, .instanceMethod yJx4a65c_init_da8c8, .code yJx4a65c_init_da8c8 cJx4a65c_init_da8c8 1 none, .fieldLink RJx4a65c 39 "java/util/ArrayList" "DEFAULTCAPACITY_EMPTY_ELEMENTDATA" "[Ljava/lang/Object;", .fieldLink RJx4a65c 9 "java/util/ArrayList" "elementData" "[Ljava/lang/Object;", .methodLink RJx4a65c 1 yJxc12de_init_da8c8, .instanceMethod yJxc12de_init_da8c8, .initialized RJxc12de, .code yJxc12de_init_da8c8 cJxc12de_init_da8c8 1 none, .fieldLink RJxc12de 7 "java/util/AbstractList" "modCount" "I", .methodLink RJxc12de 1 yJxa1e45_init_da8c8, .instanceMethod yJxa1e45_init_da8c8, .initialized RJxa1e45, .code yJxa1e45_init_da8c8 cJxa1e45_init_da8c8 1 none, .methodLink RJxa1e45 1 objectInit] ++ wsJx4a65c0 ++ wsX30)
def wsJ8_hugeLength_7cf53 : List Cond := .code yJ8_hugeLength_7cf53 cJ8_hugeLength_7cf53 3 (some .int) :: ([.constant RJ8 200 (2147483639)])
def wsJ8_newLength_cabcc : List Cond := .code yJ8_newLength_cabcc cJ8_newLength_cabcc 4 (some .int) :: ([.methodLink RJ8 194 Lib.Math.max.name, .static Lib.Math.max.name, .initialized "java/lang/Math", .code Lib.Math.max.name Lib.Math.max.code 2 (some .int), .constant RJ8 200 (2147483639), .methodLink RJ8 201 yJ8_hugeLength_7cf53, .static yJ8_hugeLength_7cf53, .initialized RJ8, .code yJ8_hugeLength_7cf53 cJ8_hugeLength_7cf53 3 (some .int)])
def wsJ7_copyOf_6403c : List Cond := .code yJ7_copyOf_6403c cJ7_copyOf_6403c 4 (some (.array (.object "java/lang/Object"))) :: ([.classLink RJ7 110 "[Ljava/lang/Object;", .classLink RJ7 2 "java/lang/Object", .methodLink RJ7 304 Lib.Math.min.name, .static Lib.Math.min.name, .initialized "java/lang/Math", .code Lib.Math.min.name Lib.Math.min.code 2 (some .int), .methodLink RJ7 150 arraycopyName, .native arraycopyName, .static arraycopyName, .initialized "java/lang/System"])
def wsJ7_copyOf_1904c : List Cond := .code yJ7_copyOf_1904c cJ7_copyOf_1904c 2 (some (.array (.object "java/lang/Object"))) :: ([.methodLink RJ7 86 ⟨"java/lang/Object", "getClass", "()Ljava/lang/Class;"⟩, .selects "[Ljava/lang/Object;" ⟨"java/lang/Object", "getClass", "()Ljava/lang/Class;"⟩ ⟨"java/lang/Object", "getClass", "()Ljava/lang/Class;"⟩, .instanceMethod ⟨"java/lang/Object", "getClass", "()Ljava/lang/Class;"⟩, .native ⟨"java/lang/Object", "getClass", "()Ljava/lang/Class;"⟩, .methodLink RJ7 300 yJ7_copyOf_6403c, .static yJ7_copyOf_6403c, .initialized RJ7, .code yJ7_copyOf_6403c cJ7_copyOf_6403c 4 (some (.array (.object "java/lang/Object"))), .classLink RJ7 110 "[Ljava/lang/Object;", .classLink RJ7 2 "java/lang/Object", .methodLink RJ7 304 Lib.Math.min.name, .static Lib.Math.min.name, .initialized "java/lang/Math", .code Lib.Math.min.name Lib.Math.min.code 2 (some .int), .methodLink RJ7 150 arraycopyName, .native arraycopyName, .static arraycopyName, .initialized "java/lang/System"])
def wsJx4a65c_grow_92f84_r1 : List Cond := [Cond.fieldLink RJx4a65c 9 "java/util/ArrayList" "elementData" "[Ljava/lang/Object;", Cond.fieldLink RJx4a65c 39 "java/util/ArrayList" "DEFAULTCAPACITY_EMPTY_ELEMENTDATA" "[Ljava/lang/Object;", Cond.methodLink RJx4a65c 79 Lib.Math.max.name, Cond.static Lib.Math.max.name, Cond.initialized "java/lang/Math", Cond.code Lib.Math.max.name Lib.Math.max.code 2 (some .int), Cond.classLink RJx4a65c 7 "java/lang/Object", Cond.methodLink RJx4a65c 73 yJ8_newLength_cabcc, Cond.static yJ8_newLength_cabcc, Cond.initialized RJ8, Cond.code yJ8_newLength_cabcc cJ8_newLength_cabcc 4 (some .int), Cond.methodLink RJ8 194 Lib.Math.max.name, Cond.constant RJ8 200 (2147483639), Cond.methodLink RJ8 201 yJ8_hugeLength_7cf53, Cond.static yJ8_hugeLength_7cf53, Cond.code yJ8_hugeLength_7cf53 cJ8_hugeLength_7cf53 3 (some .int), Cond.methodLink RJx4a65c 66 yJ7_copyOf_1904c, Cond.static yJ7_copyOf_1904c, Cond.initialized RJ7, Cond.code yJ7_copyOf_1904c cJ7_copyOf_1904c 2 (some (.array (.object "java/lang/Object"))), Cond.methodLink RJ7 86 ⟨"java/lang/Object", "getClass", "()Ljava/lang/Class;"⟩, Cond.selects "[Ljava/lang/Object;" ⟨"java/lang/Object", "getClass", "()Ljava/lang/Class;"⟩ ⟨"java/lang/Object", "getClass", "()Ljava/lang/Class;"⟩, Cond.instanceMethod ⟨"java/lang/Object", "getClass", "()Ljava/lang/Class;"⟩, Cond.native ⟨"java/lang/Object", "getClass", "()Ljava/lang/Class;"⟩]
def wsJx4a65c_grow_92f84_r2 : List Cond := [Cond.methodLink RJ7 300 yJ7_copyOf_6403c, Cond.static yJ7_copyOf_6403c, Cond.code yJ7_copyOf_6403c cJ7_copyOf_6403c 4 (some (.array (.object "java/lang/Object"))), Cond.classLink RJ7 110 "[Ljava/lang/Object;", Cond.classLink RJ7 2 "java/lang/Object", Cond.methodLink RJ7 304 Lib.Math.min.name, Cond.static Lib.Math.min.name, Cond.code Lib.Math.min.name Lib.Math.min.code 2 (some .int), Cond.methodLink RJ7 150 arraycopyName, Cond.native arraycopyName, Cond.static arraycopyName, Cond.initialized "java/lang/System"]
def wsJx4a65c_grow_92f84 : List Cond := .code yJx4a65c_grow_92f84 cJx4a65c_grow_92f84 4 (some (.array (.object "java/lang/Object"))) :: ((wsJx4a65c_grow_92f84_r1 ++ wsJx4a65c_grow_92f84_r2) ++ wsJx4a65c0)
def wsJx4a65c_grow_d5877_r1 : List Cond := [Cond.fieldLink RJx4a65c 48 "java/util/ArrayList" "size" "I", Cond.methodLink RJx4a65c 69 yJx4a65c_grow_92f84, Cond.instanceMethod yJx4a65c_grow_92f84, Cond.selects RJx4a65c yJx4a65c_grow_92f84 yJx4a65c_grow_92f84, Cond.initialized RJx4a65c, Cond.code yJx4a65c_grow_92f84 cJx4a65c_grow_92f84 4 (some (.array (.object "java/lang/Object"))), Cond.fieldLink RJx4a65c 9 "java/util/ArrayList" "elementData" "[Ljava/lang/Object;", Cond.fieldLink RJx4a65c 39 "java/util/ArrayList" "DEFAULTCAPACITY_EMPTY_ELEMENTDATA" "[Ljava/lang/Object;", Cond.methodLink RJx4a65c 79 Lib.Math.max.name, Cond.static Lib.Math.max.name, Cond.initialized "java/lang/Math", Cond.code Lib.Math.max.name Lib.Math.max.code 2 (some .int), Cond.classLink RJx4a65c 7 "java/lang/Object", Cond.methodLink RJx4a65c 73 yJ8_newLength_cabcc, Cond.static yJ8_newLength_cabcc, Cond.initialized RJ8, Cond.code yJ8_newLength_cabcc cJ8_newLength_cabcc 4 (some .int), Cond.methodLink RJ8 194 Lib.Math.max.name, Cond.constant RJ8 200 (2147483639), Cond.methodLink RJ8 201 yJ8_hugeLength_7cf53, Cond.static yJ8_hugeLength_7cf53, Cond.code yJ8_hugeLength_7cf53 cJ8_hugeLength_7cf53 3 (some .int), Cond.methodLink RJx4a65c 66 yJ7_copyOf_1904c, Cond.static yJ7_copyOf_1904c]
def wsJx4a65c_grow_d5877_r2 : List Cond := [Cond.initialized RJ7, Cond.code yJ7_copyOf_1904c cJ7_copyOf_1904c 2 (some (.array (.object "java/lang/Object"))), Cond.methodLink RJ7 86 ⟨"java/lang/Object", "getClass", "()Ljava/lang/Class;"⟩, Cond.selects "[Ljava/lang/Object;" ⟨"java/lang/Object", "getClass", "()Ljava/lang/Class;"⟩ ⟨"java/lang/Object", "getClass", "()Ljava/lang/Class;"⟩, Cond.instanceMethod ⟨"java/lang/Object", "getClass", "()Ljava/lang/Class;"⟩, Cond.native ⟨"java/lang/Object", "getClass", "()Ljava/lang/Class;"⟩, Cond.methodLink RJ7 300 yJ7_copyOf_6403c, Cond.static yJ7_copyOf_6403c, Cond.code yJ7_copyOf_6403c cJ7_copyOf_6403c 4 (some (.array (.object "java/lang/Object"))), Cond.classLink RJ7 110 "[Ljava/lang/Object;", Cond.classLink RJ7 2 "java/lang/Object", Cond.methodLink RJ7 304 Lib.Math.min.name, Cond.static Lib.Math.min.name, Cond.code Lib.Math.min.name Lib.Math.min.code 2 (some .int), Cond.methodLink RJ7 150 arraycopyName, Cond.native arraycopyName, Cond.static arraycopyName, Cond.initialized "java/lang/System"]
def wsJx4a65c_grow_d5877 : List Cond := .code yJx4a65c_grow_d5877 cJx4a65c_grow_d5877 1 (some (.array (.object "java/lang/Object"))) :: ((wsJx4a65c_grow_d5877_r1 ++ wsJx4a65c_grow_d5877_r2) ++ wsJx4a65c0)
def wsJx4a65c_add_72be8_r1 : List Cond := [Cond.fieldLink RJx4a65c 48 "java/util/ArrayList" "size" "I", Cond.methodLink RJx4a65c 129 yJx4a65c_grow_d5877, Cond.instanceMethod yJx4a65c_grow_d5877, Cond.selects RJx4a65c yJx4a65c_grow_d5877 yJx4a65c_grow_d5877, Cond.initialized RJx4a65c, Cond.code yJx4a65c_grow_d5877 cJx4a65c_grow_d5877 1 (some (.array (.object "java/lang/Object"))), Cond.methodLink RJx4a65c 69 yJx4a65c_grow_92f84, Cond.instanceMethod yJx4a65c_grow_92f84, Cond.selects RJx4a65c yJx4a65c_grow_92f84 yJx4a65c_grow_92f84, Cond.code yJx4a65c_grow_92f84 cJx4a65c_grow_92f84 4 (some (.array (.object "java/lang/Object"))), Cond.fieldLink RJx4a65c 9 "java/util/ArrayList" "elementData" "[Ljava/lang/Object;", Cond.fieldLink RJx4a65c 39 "java/util/ArrayList" "DEFAULTCAPACITY_EMPTY_ELEMENTDATA" "[Ljava/lang/Object;", Cond.methodLink RJx4a65c 79 Lib.Math.max.name, Cond.static Lib.Math.max.name, Cond.initialized "java/lang/Math", Cond.code Lib.Math.max.name Lib.Math.max.code 2 (some .int), Cond.classLink RJx4a65c 7 "java/lang/Object", Cond.methodLink RJx4a65c 73 yJ8_newLength_cabcc, Cond.static yJ8_newLength_cabcc, Cond.initialized RJ8, Cond.code yJ8_newLength_cabcc cJ8_newLength_cabcc 4 (some .int), Cond.methodLink RJ8 194 Lib.Math.max.name, Cond.constant RJ8 200 (2147483639), Cond.methodLink RJ8 201 yJ8_hugeLength_7cf53]
def wsJx4a65c_add_72be8_r2 : List Cond := [Cond.static yJ8_hugeLength_7cf53, Cond.code yJ8_hugeLength_7cf53 cJ8_hugeLength_7cf53 3 (some .int), Cond.methodLink RJx4a65c 66 yJ7_copyOf_1904c, Cond.static yJ7_copyOf_1904c, Cond.initialized RJ7, Cond.code yJ7_copyOf_1904c cJ7_copyOf_1904c 2 (some (.array (.object "java/lang/Object"))), Cond.methodLink RJ7 86 ⟨"java/lang/Object", "getClass", "()Ljava/lang/Class;"⟩, Cond.selects "[Ljava/lang/Object;" ⟨"java/lang/Object", "getClass", "()Ljava/lang/Class;"⟩ ⟨"java/lang/Object", "getClass", "()Ljava/lang/Class;"⟩, Cond.instanceMethod ⟨"java/lang/Object", "getClass", "()Ljava/lang/Class;"⟩, Cond.native ⟨"java/lang/Object", "getClass", "()Ljava/lang/Class;"⟩, Cond.methodLink RJ7 300 yJ7_copyOf_6403c, Cond.static yJ7_copyOf_6403c, Cond.code yJ7_copyOf_6403c cJ7_copyOf_6403c 4 (some (.array (.object "java/lang/Object"))), Cond.classLink RJ7 110 "[Ljava/lang/Object;", Cond.classLink RJ7 2 "java/lang/Object", Cond.methodLink RJ7 304 Lib.Math.min.name, Cond.static Lib.Math.min.name, Cond.code Lib.Math.min.name Lib.Math.min.code 2 (some .int), Cond.methodLink RJ7 150 arraycopyName, Cond.native arraycopyName, Cond.static arraycopyName, Cond.initialized "java/lang/System"]
def wsJx4a65c_add_72be8 : List Cond := .code yJx4a65c_add_72be8 cJx4a65c_add_72be8 4 none :: ((wsJx4a65c_add_72be8_r1 ++ wsJx4a65c_add_72be8_r2) ++ wsJx4a65c0)
def wsJx4a65c_add_9ea2d_r1 : List Cond := [Cond.fieldLink RJx4a65c 63 "java/util/ArrayList" "modCount" "I", Cond.sameField "java/util/ArrayList" "java/util/AbstractList" "modCount" "I", Cond.fieldLink RJx4a65c 9 "java/util/ArrayList" "elementData" "[Ljava/lang/Object;", Cond.fieldLink RJx4a65c 48 "java/util/ArrayList" "size" "I", Cond.methodLink RJx4a65c 131 yJx4a65c_add_72be8, Cond.instanceMethod yJx4a65c_add_72be8, Cond.selects RJx4a65c yJx4a65c_add_72be8 yJx4a65c_add_72be8, Cond.initialized RJx4a65c, Cond.code yJx4a65c_add_72be8 cJx4a65c_add_72be8 4 none, Cond.methodLink RJx4a65c 129 yJx4a65c_grow_d5877, Cond.instanceMethod yJx4a65c_grow_d5877, Cond.selects RJx4a65c yJx4a65c_grow_d5877 yJx4a65c_grow_d5877, Cond.code yJx4a65c_grow_d5877 cJx4a65c_grow_d5877 1 (some (.array (.object "java/lang/Object"))), Cond.methodLink RJx4a65c 69 yJx4a65c_grow_92f84, Cond.instanceMethod yJx4a65c_grow_92f84, Cond.selects RJx4a65c yJx4a65c_grow_92f84 yJx4a65c_grow_92f84, Cond.code yJx4a65c_grow_92f84 cJx4a65c_grow_92f84 4 (some (.array (.object "java/lang/Object"))), Cond.fieldLink RJx4a65c 39 "java/util/ArrayList" "DEFAULTCAPACITY_EMPTY_ELEMENTDATA" "[Ljava/lang/Object;", Cond.methodLink RJx4a65c 79 Lib.Math.max.name, Cond.static Lib.Math.max.name, Cond.initialized "java/lang/Math", Cond.code Lib.Math.max.name Lib.Math.max.code 2 (some .int), Cond.classLink RJx4a65c 7 "java/lang/Object", Cond.methodLink RJx4a65c 73 yJ8_newLength_cabcc]
def wsJx4a65c_add_9ea2d_r2 : List Cond := [Cond.static yJ8_newLength_cabcc, Cond.initialized RJ8, Cond.code yJ8_newLength_cabcc cJ8_newLength_cabcc 4 (some .int), Cond.methodLink RJ8 194 Lib.Math.max.name, Cond.constant RJ8 200 (2147483639), Cond.methodLink RJ8 201 yJ8_hugeLength_7cf53, Cond.static yJ8_hugeLength_7cf53, Cond.code yJ8_hugeLength_7cf53 cJ8_hugeLength_7cf53 3 (some .int), Cond.methodLink RJx4a65c 66 yJ7_copyOf_1904c, Cond.static yJ7_copyOf_1904c, Cond.initialized RJ7, Cond.code yJ7_copyOf_1904c cJ7_copyOf_1904c 2 (some (.array (.object "java/lang/Object"))), Cond.methodLink RJ7 86 ⟨"java/lang/Object", "getClass", "()Ljava/lang/Class;"⟩, Cond.selects "[Ljava/lang/Object;" ⟨"java/lang/Object", "getClass", "()Ljava/lang/Class;"⟩ ⟨"java/lang/Object", "getClass", "()Ljava/lang/Class;"⟩, Cond.instanceMethod ⟨"java/lang/Object", "getClass", "()Ljava/lang/Class;"⟩, Cond.native ⟨"java/lang/Object", "getClass", "()Ljava/lang/Class;"⟩, Cond.methodLink RJ7 300 yJ7_copyOf_6403c, Cond.static yJ7_copyOf_6403c, Cond.code yJ7_copyOf_6403c cJ7_copyOf_6403c 4 (some (.array (.object "java/lang/Object"))), Cond.classLink RJ7 110 "[Ljava/lang/Object;", Cond.classLink RJ7 2 "java/lang/Object", Cond.methodLink RJ7 304 Lib.Math.min.name, Cond.static Lib.Math.min.name, Cond.code Lib.Math.min.name Lib.Math.min.code 2 (some .int)]
def wsJx4a65c_add_9ea2d_r3 : List Cond := [Cond.methodLink RJ7 150 arraycopyName, Cond.native arraycopyName, Cond.static arraycopyName, Cond.initialized "java/lang/System"]
def wsJx4a65c_add_9ea2d : List Cond := .code yJx4a65c_add_9ea2d cJx4a65c_add_9ea2d 2 (some .boolean) :: ((wsJx4a65c_add_9ea2d_r1 ++ (wsJx4a65c_add_9ea2d_r2 ++ wsJx4a65c_add_9ea2d_r3)) ++ wsJx4a65c0)
def wsX3_add_r1 : List Cond := [Cond.fieldLink RX3 12 "ColourParts$Pieces" "row" "Ljava/util/ArrayList;", Cond.classLink RX3 22 RX2, Cond.instantiable RX2 4, Cond.initialized RX2, Cond.methodLink RX3 18 yJx4a65c_size_8abf5, Cond.instanceMethod yJx4a65c_size_8abf5, Cond.selects RJx4a65c yJx4a65c_size_8abf5 yJx4a65c_size_8abf5, Cond.initialized RJx4a65c, Cond.code yJx4a65c_size_8abf5 cJx4a65c_size_8abf5 1 (some .int), Cond.fieldLink RJx4a65c 48 "java/util/ArrayList" "size" "I", Cond.methodLink RX3 24 yX2_init, Cond.instanceMethod yX2_init, Cond.code yX2_init cX2_init 4 none, Cond.methodLink RX2 1 objectInit, Cond.instanceMethod objectInit, Cond.code objectInit ⟨#[0xb1]⟩ 1 none, Cond.fieldLink RX2 7 "ColourParts$Piece" "nearPieces" "I", Cond.fieldLink RX2 13 "ColourParts$Piece" "owner" "I", Cond.fieldLink RX2 16 "ColourParts$Piece" "told" "I", Cond.fieldLink RX2 19 "ColourParts$Piece" "boxes" "Ljava/util/ArrayList;", Cond.methodLink RX3 27 yJx4a65c_add_9ea2d, Cond.instanceMethod yJx4a65c_add_9ea2d, Cond.selects RJx4a65c yJx4a65c_add_9ea2d yJx4a65c_add_9ea2d, Cond.code yJx4a65c_add_9ea2d cJx4a65c_add_9ea2d 2 (some .boolean)]
def wsX3_add_r2 : List Cond := [Cond.fieldLink RJx4a65c 63 "java/util/ArrayList" "modCount" "I", Cond.sameField "java/util/ArrayList" "java/util/AbstractList" "modCount" "I", Cond.fieldLink RJx4a65c 9 "java/util/ArrayList" "elementData" "[Ljava/lang/Object;", Cond.methodLink RJx4a65c 131 yJx4a65c_add_72be8, Cond.instanceMethod yJx4a65c_add_72be8, Cond.selects RJx4a65c yJx4a65c_add_72be8 yJx4a65c_add_72be8, Cond.code yJx4a65c_add_72be8 cJx4a65c_add_72be8 4 none, Cond.methodLink RJx4a65c 129 yJx4a65c_grow_d5877, Cond.instanceMethod yJx4a65c_grow_d5877, Cond.selects RJx4a65c yJx4a65c_grow_d5877 yJx4a65c_grow_d5877, Cond.code yJx4a65c_grow_d5877 cJx4a65c_grow_d5877 1 (some (.array (.object "java/lang/Object"))), Cond.methodLink RJx4a65c 69 yJx4a65c_grow_92f84, Cond.instanceMethod yJx4a65c_grow_92f84, Cond.selects RJx4a65c yJx4a65c_grow_92f84 yJx4a65c_grow_92f84, Cond.code yJx4a65c_grow_92f84 cJx4a65c_grow_92f84 4 (some (.array (.object "java/lang/Object"))), Cond.fieldLink RJx4a65c 39 "java/util/ArrayList" "DEFAULTCAPACITY_EMPTY_ELEMENTDATA" "[Ljava/lang/Object;", Cond.methodLink RJx4a65c 79 Lib.Math.max.name, Cond.static Lib.Math.max.name, Cond.initialized "java/lang/Math", Cond.code Lib.Math.max.name Lib.Math.max.code 2 (some .int), Cond.classLink RJx4a65c 7 "java/lang/Object", Cond.methodLink RJx4a65c 73 yJ8_newLength_cabcc, Cond.static yJ8_newLength_cabcc, Cond.initialized RJ8]
def wsX3_add_r3 : List Cond := [Cond.code yJ8_newLength_cabcc cJ8_newLength_cabcc 4 (some .int), Cond.methodLink RJ8 194 Lib.Math.max.name, Cond.constant RJ8 200 (2147483639), Cond.methodLink RJ8 201 yJ8_hugeLength_7cf53, Cond.static yJ8_hugeLength_7cf53, Cond.code yJ8_hugeLength_7cf53 cJ8_hugeLength_7cf53 3 (some .int), Cond.methodLink RJx4a65c 66 yJ7_copyOf_1904c, Cond.static yJ7_copyOf_1904c, Cond.initialized RJ7, Cond.code yJ7_copyOf_1904c cJ7_copyOf_1904c 2 (some (.array (.object "java/lang/Object"))), Cond.methodLink RJ7 86 ⟨"java/lang/Object", "getClass", "()Ljava/lang/Class;"⟩, Cond.selects "[Ljava/lang/Object;" ⟨"java/lang/Object", "getClass", "()Ljava/lang/Class;"⟩ ⟨"java/lang/Object", "getClass", "()Ljava/lang/Class;"⟩, Cond.instanceMethod ⟨"java/lang/Object", "getClass", "()Ljava/lang/Class;"⟩, Cond.native ⟨"java/lang/Object", "getClass", "()Ljava/lang/Class;"⟩, Cond.methodLink RJ7 300 yJ7_copyOf_6403c, Cond.static yJ7_copyOf_6403c, Cond.code yJ7_copyOf_6403c cJ7_copyOf_6403c 4 (some (.array (.object "java/lang/Object"))), Cond.classLink RJ7 110 "[Ljava/lang/Object;", Cond.classLink RJ7 2 "java/lang/Object", Cond.methodLink RJ7 304 Lib.Math.min.name, Cond.static Lib.Math.min.name, Cond.code Lib.Math.min.name Lib.Math.min.code 2 (some .int), Cond.methodLink RJ7 150 arraycopyName, Cond.native arraycopyName]
def wsX3_add_r4 : List Cond := [Cond.static arraycopyName, Cond.initialized "java/lang/System"]
def wsX3_add : List Cond := .code yX3_add cX3_add 4 none :: ((wsX3_add_r1 ++ (wsX3_add_r2 ++ (wsX3_add_r3 ++ wsX3_add_r4))) ++ wsX30 ++ wsX20 ++ wsJx4a65c0)
def wsX3_told_r1 : List Cond := [Cond.fieldLink RX3 12 "ColourParts$Pieces" "row" "Ljava/util/ArrayList;", Cond.classLink RX3 22 "ColourParts$Piece", Cond.fieldLink RX3 39 "ColourParts$Piece" "told" "I", Cond.methodLink RX3 18 yJx4a65c_size_8abf5, Cond.instanceMethod yJx4a65c_size_8abf5, Cond.selects RJx4a65c yJx4a65c_size_8abf5 yJx4a65c_size_8abf5, Cond.initialized RJx4a65c, Cond.code yJx4a65c_size_8abf5 cJx4a65c_size_8abf5 1 (some .int), Cond.fieldLink RJx4a65c 48 "java/util/ArrayList" "size" "I", Cond.methodLink RX3 31 yJx4a65c_get_915e3, Cond.instanceMethod yJx4a65c_get_915e3, Cond.selects RJx4a65c yJx4a65c_get_915e3 yJx4a65c_get_915e3, Cond.code yJx4a65c_get_915e3 cJx4a65c_get_915e3 2 (some (.object "java/lang/Object")), Cond.methodLink RJx4a65c 118 yJ15_checkIndex_7cf53, Cond.static yJ15_checkIndex_7cf53, Cond.initialized RJ15, Cond.code yJ15_checkIndex_7cf53 cJ15_checkIndex_7cf53 2 (some .int), Cond.methodLink RJ15 105 yJ3_checkIndex_8e157, Cond.static yJ3_checkIndex_8e157, Cond.initialized RJ3, Cond.code yJ3_checkIndex_8e157 cJ3_checkIndex_8e157 3 (some .int), Cond.methodLink RJx4a65c 123 yJx4a65c_elementData_915e3, Cond.instanceMethod yJx4a65c_elementData_915e3, Cond.selects RJx4a65c yJx4a65c_elementData_915e3 yJx4a65c_elementData_915e3]
def wsX3_told_r2 : List Cond := [Cond.code yJx4a65c_elementData_915e3 cJx4a65c_elementData_915e3 2 (some (.object "java/lang/Object")), Cond.fieldLink RJx4a65c 9 "java/util/ArrayList" "elementData" "[Ljava/lang/Object;"]
def wsX3_told : List Cond := .code yX3_told cX3_told 2 (some .int) :: ((wsX3_told_r1 ++ wsX3_told_r2) ++ wsX30 ++ wsX20 ++ wsJx4a65c0)
def wsX3_nearPieces_r1 : List Cond := [Cond.fieldLink RX3 12 "ColourParts$Pieces" "row" "Ljava/util/ArrayList;", Cond.classLink RX3 22 "ColourParts$Piece", Cond.fieldLink RX3 42 "ColourParts$Piece" "nearPieces" "I", Cond.methodLink RX3 18 yJx4a65c_size_8abf5, Cond.instanceMethod yJx4a65c_size_8abf5, Cond.selects RJx4a65c yJx4a65c_size_8abf5 yJx4a65c_size_8abf5, Cond.initialized RJx4a65c, Cond.code yJx4a65c_size_8abf5 cJx4a65c_size_8abf5 1 (some .int), Cond.fieldLink RJx4a65c 48 "java/util/ArrayList" "size" "I", Cond.methodLink RX3 31 yJx4a65c_get_915e3, Cond.instanceMethod yJx4a65c_get_915e3, Cond.selects RJx4a65c yJx4a65c_get_915e3 yJx4a65c_get_915e3, Cond.code yJx4a65c_get_915e3 cJx4a65c_get_915e3 2 (some (.object "java/lang/Object")), Cond.methodLink RJx4a65c 118 yJ15_checkIndex_7cf53, Cond.static yJ15_checkIndex_7cf53, Cond.initialized RJ15, Cond.code yJ15_checkIndex_7cf53 cJ15_checkIndex_7cf53 2 (some .int), Cond.methodLink RJ15 105 yJ3_checkIndex_8e157, Cond.static yJ3_checkIndex_8e157, Cond.initialized RJ3, Cond.code yJ3_checkIndex_8e157 cJ3_checkIndex_8e157 3 (some .int), Cond.methodLink RJx4a65c 123 yJx4a65c_elementData_915e3, Cond.instanceMethod yJx4a65c_elementData_915e3, Cond.selects RJx4a65c yJx4a65c_elementData_915e3 yJx4a65c_elementData_915e3]
def wsX3_nearPieces_r2 : List Cond := [Cond.code yJx4a65c_elementData_915e3 cJx4a65c_elementData_915e3 2 (some (.object "java/lang/Object")), Cond.fieldLink RJx4a65c 9 "java/util/ArrayList" "elementData" "[Ljava/lang/Object;"]
def wsX3_nearPieces : List Cond := .code yX3_nearPieces cX3_nearPieces 2 (some .int) :: ((wsX3_nearPieces_r1 ++ wsX3_nearPieces_r2) ++ wsX30 ++ wsX20 ++ wsJx4a65c0)
def wsX3_findNearOnes_r1 : List Cond := [Cond.fieldLink RX3 12 "ColourParts$Pieces" "row" "Ljava/util/ArrayList;", Cond.classLink RX3 22 "ColourParts$Piece", Cond.fieldLink RX3 35 "ColourParts$Piece" "owner" "I", Cond.fieldLink RX3 42 "ColourParts$Piece" "nearPieces" "I", Cond.methodLink RX3 18 yJx4a65c_size_8abf5, Cond.instanceMethod yJx4a65c_size_8abf5, Cond.selects RJx4a65c yJx4a65c_size_8abf5 yJx4a65c_size_8abf5, Cond.initialized RJx4a65c, Cond.code yJx4a65c_size_8abf5 cJx4a65c_size_8abf5 1 (some .int), Cond.fieldLink RJx4a65c 48 "java/util/ArrayList" "size" "I", Cond.methodLink RX3 31 yJx4a65c_get_915e3, Cond.instanceMethod yJx4a65c_get_915e3, Cond.selects RJx4a65c yJx4a65c_get_915e3 yJx4a65c_get_915e3, Cond.code yJx4a65c_get_915e3 cJx4a65c_get_915e3 2 (some (.object "java/lang/Object")), Cond.methodLink RJx4a65c 118 yJ15_checkIndex_7cf53, Cond.static yJ15_checkIndex_7cf53, Cond.initialized RJ15, Cond.code yJ15_checkIndex_7cf53 cJ15_checkIndex_7cf53 2 (some .int), Cond.methodLink RJ15 105 yJ3_checkIndex_8e157, Cond.static yJ3_checkIndex_8e157, Cond.initialized RJ3, Cond.code yJ3_checkIndex_8e157 cJ3_checkIndex_8e157 3 (some .int), Cond.methodLink RJx4a65c 123 yJx4a65c_elementData_915e3, Cond.instanceMethod yJx4a65c_elementData_915e3]
def wsX3_findNearOnes_r2 : List Cond := [Cond.selects RJx4a65c yJx4a65c_elementData_915e3 yJx4a65c_elementData_915e3, Cond.code yJx4a65c_elementData_915e3 cJx4a65c_elementData_915e3 2 (some (.object "java/lang/Object")), Cond.fieldLink RJx4a65c 9 "java/util/ArrayList" "elementData" "[Ljava/lang/Object;", Cond.methodLink RX3 52 yX2_isNearPiece, Cond.instanceMethod yX2_isNearPiece, Cond.selects RX2 yX2_isNearPiece yX2_isNearPiece, Cond.initialized RX2, Cond.code yX2_isNearPiece cX2_isNearPiece 5 (some .boolean), Cond.fieldLink RX2 19 "ColourParts$Piece" "boxes" "Ljava/util/ArrayList;", Cond.classLink RX2 33 "ColourParts$Box", Cond.methodLink RX2 23 yJx4a65c_size_8abf5, Cond.methodLink RX2 29 yJx4a65c_get_915e3, Cond.methodLink RX2 39 yX0_isNearAny, Cond.instanceMethod yX0_isNearAny, Cond.selects RX0 yX0_isNearAny yX0_isNearAny, Cond.initialized RX0, Cond.code yX0_isNearAny cX0_isNearAny 5 (some .boolean), Cond.classLink RX0 8 "ColourParts$Box", Cond.methodLink RX0 22 yJx4a65c_size_8abf5, Cond.methodLink RX0 28 yJx4a65c_get_915e3, Cond.methodLink RX0 32 yX0_isNearBox, Cond.instanceMethod yX0_isNearBox, Cond.selects RX0 yX0_isNearBox yX0_isNearBox, Cond.code yX0_isNearBox cX0_isNearBox 8 (some .boolean)]
def wsX3_findNearOnes_r3 : List Cond := [Cond.fieldLink RX0 7 "ColourParts$Box" "left" "J", Cond.fieldLink RX0 16 "ColourParts$Box" "right" "J", Cond.fieldLink RX0 13 "ColourParts$Box" "low" "J", Cond.fieldLink RX0 19 "ColourParts$Box" "high" "J", Cond.methodLink RX0 36 yX0_gap, Cond.static yX0_gap, Cond.code yX0_gap cX0_gap 8 (some .long), Cond.methodLink RX0 40 Lib.MathLoose.max_long.x, Cond.static Lib.MathLoose.max_long.x, Cond.initialized "java/lang/Math", Cond.code Lib.MathLoose.max_long.x Lib.MathLoose.max_long.code 4 (some .long)]
def wsX3_findNearOnes : List Cond := .code yX3_findNearOnes cX3_findNearOnes 7 none :: ((wsX3_findNearOnes_r1 ++ (wsX3_findNearOnes_r2 ++ wsX3_findNearOnes_r3)) ++ wsX30 ++ wsX20 ++ wsJx4a65c0 ++ wsX00)
def wsX3_nearAnyOf_r1 : List Cond := [Cond.fieldLink RX3 12 "ColourParts$Pieces" "row" "Ljava/util/ArrayList;", Cond.methodLink RX3 18 yJx4a65c_size_8abf5, Cond.instanceMethod yJx4a65c_size_8abf5, Cond.selects RJx4a65c yJx4a65c_size_8abf5 yJx4a65c_size_8abf5, Cond.initialized RJx4a65c, Cond.code yJx4a65c_size_8abf5 cJx4a65c_size_8abf5 1 (some .int), Cond.fieldLink RJx4a65c 48 "java/util/ArrayList" "size" "I", Cond.methodLink RX3 67 yX3_nearPieces, Cond.instanceMethod yX3_nearPieces, Cond.selects RX3 yX3_nearPieces yX3_nearPieces, Cond.initialized RX3, Cond.code yX3_nearPieces cX3_nearPieces 2 (some .int), Cond.classLink RX3 22 "ColourParts$Piece", Cond.fieldLink RX3 42 "ColourParts$Piece" "nearPieces" "I", Cond.methodLink RX3 31 yJx4a65c_get_915e3, Cond.instanceMethod yJx4a65c_get_915e3, Cond.selects RJx4a65c yJx4a65c_get_915e3 yJx4a65c_get_915e3, Cond.code yJx4a65c_get_915e3 cJx4a65c_get_915e3 2 (some (.object "java/lang/Object")), Cond.methodLink RJx4a65c 118 yJ15_checkIndex_7cf53, Cond.static yJ15_checkIndex_7cf53, Cond.initialized RJ15, Cond.code yJ15_checkIndex_7cf53 cJ15_checkIndex_7cf53 2 (some .int), Cond.methodLink RJ15 105 yJ3_checkIndex_8e157, Cond.static yJ3_checkIndex_8e157]
def wsX3_nearAnyOf_r2 : List Cond := [Cond.initialized RJ3, Cond.code yJ3_checkIndex_8e157 cJ3_checkIndex_8e157 3 (some .int), Cond.methodLink RJx4a65c 123 yJx4a65c_elementData_915e3, Cond.instanceMethod yJx4a65c_elementData_915e3, Cond.selects RJx4a65c yJx4a65c_elementData_915e3 yJx4a65c_elementData_915e3, Cond.code yJx4a65c_elementData_915e3 cJx4a65c_elementData_915e3 2 (some (.object "java/lang/Object")), Cond.fieldLink RJx4a65c 9 "java/util/ArrayList" "elementData" "[Ljava/lang/Object;"]
def wsX3_nearAnyOf : List Cond := .code yX3_nearAnyOf cX3_nearAnyOf 4 (some .int) :: ((wsX3_nearAnyOf_r1 ++ wsX3_nearAnyOf_r2) ++ wsX30 ++ wsJx4a65c0 ++ wsX20)
def wsX3_fillWalks_r1 : List Cond := [Cond.methodLink RX3 64 yX3_nearAnyOf, Cond.instanceMethod yX3_nearAnyOf, Cond.selects RX3 yX3_nearAnyOf yX3_nearAnyOf, Cond.initialized RX3, Cond.code yX3_nearAnyOf cX3_nearAnyOf 4 (some .int), Cond.fieldLink RX3 12 "ColourParts$Pieces" "row" "Ljava/util/ArrayList;", Cond.methodLink RX3 18 yJx4a65c_size_8abf5, Cond.instanceMethod yJx4a65c_size_8abf5, Cond.selects RJx4a65c yJx4a65c_size_8abf5 yJx4a65c_size_8abf5, Cond.initialized RJx4a65c, Cond.code yJx4a65c_size_8abf5 cJx4a65c_size_8abf5 1 (some .int), Cond.fieldLink RJx4a65c 48 "java/util/ArrayList" "size" "I", Cond.methodLink RX3 67 yX3_nearPieces, Cond.instanceMethod yX3_nearPieces, Cond.selects RX3 yX3_nearPieces yX3_nearPieces, Cond.code yX3_nearPieces cX3_nearPieces 2 (some .int), Cond.classLink RX3 22 "ColourParts$Piece", Cond.fieldLink RX3 42 "ColourParts$Piece" "nearPieces" "I", Cond.methodLink RX3 31 yJx4a65c_get_915e3, Cond.instanceMethod yJx4a65c_get_915e3, Cond.selects RJx4a65c yJx4a65c_get_915e3 yJx4a65c_get_915e3, Cond.code yJx4a65c_get_915e3 cJx4a65c_get_915e3 2 (some (.object "java/lang/Object")), Cond.methodLink RJx4a65c 118 yJ15_checkIndex_7cf53, Cond.static yJ15_checkIndex_7cf53]
def wsX3_fillWalks_r2 : List Cond := [Cond.initialized RJ15, Cond.code yJ15_checkIndex_7cf53 cJ15_checkIndex_7cf53 2 (some .int), Cond.methodLink RJ15 105 yJ3_checkIndex_8e157, Cond.static yJ3_checkIndex_8e157, Cond.initialized RJ3, Cond.code yJ3_checkIndex_8e157 cJ3_checkIndex_8e157 3 (some .int), Cond.methodLink RJx4a65c 123 yJx4a65c_elementData_915e3, Cond.instanceMethod yJx4a65c_elementData_915e3, Cond.selects RJx4a65c yJx4a65c_elementData_915e3 yJx4a65c_elementData_915e3, Cond.code yJx4a65c_elementData_915e3 cJx4a65c_elementData_915e3 2 (some (.object "java/lang/Object")), Cond.fieldLink RJx4a65c 9 "java/util/ArrayList" "elementData" "[Ljava/lang/Object;"]
def wsX3_fillWalks : List Cond := .code yX3_fillWalks cX3_fillWalks 5 none :: ((wsX3_fillWalks_r1 ++ wsX3_fillWalks_r2) ++ wsX30 ++ wsJx4a65c0 ++ wsX20)
def wsJ6_numberOfTrailingZeros_0f7a4 : List Cond := .code yJ6_numberOfTrailingZeros_0f7a4 cJ6_numberOfTrailingZeros_0f7a4 2 (some .int) :: ([.constant RJ6 264 (65536)])
def wsX3_writeLeastRing_r1 : List Cond := [Cond.methodLink RX3 49 yX3_owner, Cond.instanceMethod yX3_owner, Cond.selects RX3 yX3_owner yX3_owner, Cond.initialized RX3, Cond.code yX3_owner cX3_owner 2 (some .int), Cond.fieldLink RX3 12 "ColourParts$Pieces" "row" "Ljava/util/ArrayList;", Cond.classLink RX3 22 "ColourParts$Piece", Cond.fieldLink RX3 35 "ColourParts$Piece" "owner" "I", Cond.methodLink RX3 18 yJx4a65c_size_8abf5, Cond.instanceMethod yJx4a65c_size_8abf5, Cond.selects RJx4a65c yJx4a65c_size_8abf5 yJx4a65c_size_8abf5, Cond.initialized RJx4a65c, Cond.code yJx4a65c_size_8abf5 cJx4a65c_size_8abf5 1 (some .int), Cond.fieldLink RJx4a65c 48 "java/util/ArrayList" "size" "I", Cond.methodLink RX3 31 yJx4a65c_get_915e3, Cond.instanceMethod yJx4a65c_get_915e3, Cond.selects RJx4a65c yJx4a65c_get_915e3 yJx4a65c_get_915e3, Cond.code yJx4a65c_get_915e3 cJx4a65c_get_915e3 2 (some (.object "java/lang/Object")), Cond.methodLink RJx4a65c 118 yJ15_checkIndex_7cf53, Cond.static yJ15_checkIndex_7cf53, Cond.initialized RJ15, Cond.code yJ15_checkIndex_7cf53 cJ15_checkIndex_7cf53 2 (some .int), Cond.methodLink RJ15 105 yJ3_checkIndex_8e157, Cond.static yJ3_checkIndex_8e157]
def wsX3_writeLeastRing_r2 : List Cond := [Cond.initialized RJ3, Cond.code yJ3_checkIndex_8e157 cJ3_checkIndex_8e157 3 (some .int), Cond.methodLink RJx4a65c 123 yJx4a65c_elementData_915e3, Cond.instanceMethod yJx4a65c_elementData_915e3, Cond.selects RJx4a65c yJx4a65c_elementData_915e3 yJx4a65c_elementData_915e3, Cond.code yJx4a65c_elementData_915e3 cJx4a65c_elementData_915e3 2 (some (.object "java/lang/Object")), Cond.fieldLink RJx4a65c 9 "java/util/ArrayList" "elementData" "[Ljava/lang/Object;", Cond.methodLink RX3 67 yX3_nearPieces, Cond.instanceMethod yX3_nearPieces, Cond.selects RX3 yX3_nearPieces yX3_nearPieces, Cond.code yX3_nearPieces cX3_nearPieces 2 (some .int), Cond.fieldLink RX3 42 "ColourParts$Piece" "nearPieces" "I", Cond.methodLink RX3 69 yJ6_numberOfTrailingZeros_0f7a4, Cond.static yJ6_numberOfTrailingZeros_0f7a4, Cond.initialized RJ6, Cond.code yJ6_numberOfTrailingZeros_0f7a4 cJ6_numberOfTrailingZeros_0f7a4 2 (some .int), Cond.constant RJ6 264 (65536)]
def wsX3_writeLeastRing : List Cond := .code yX3_writeLeastRing cX3_writeLeastRing 7 none :: ((wsX3_writeLeastRing_r1 ++ wsX3_writeLeastRing_r2) ++ wsX30 ++ wsX20 ++ wsJx4a65c0)
def wsX3_findOddRing_r1 : List Cond := [Cond.arrayClass .int, Cond.fieldLink RX3 12 "ColourParts$Pieces" "row" "Ljava/util/ArrayList;", Cond.methodLink RX3 18 yJx4a65c_size_8abf5, Cond.instanceMethod yJx4a65c_size_8abf5, Cond.selects RJx4a65c yJx4a65c_size_8abf5 yJx4a65c_size_8abf5, Cond.initialized RJx4a65c, Cond.code yJx4a65c_size_8abf5 cJx4a65c_size_8abf5 1 (some .int), Cond.fieldLink RJx4a65c 48 "java/util/ArrayList" "size" "I", Cond.methodLink RX3 56 yX3_fillWalks, Cond.instanceMethod yX3_fillWalks, Cond.selects RX3 yX3_fillWalks yX3_fillWalks, Cond.initialized RX3, Cond.code yX3_fillWalks cX3_fillWalks 5 none, Cond.methodLink RX3 64 yX3_nearAnyOf, Cond.instanceMethod yX3_nearAnyOf, Cond.selects RX3 yX3_nearAnyOf yX3_nearAnyOf, Cond.code yX3_nearAnyOf cX3_nearAnyOf 4 (some .int), Cond.methodLink RX3 67 yX3_nearPieces, Cond.instanceMethod yX3_nearPieces, Cond.selects RX3 yX3_nearPieces yX3_nearPieces, Cond.code yX3_nearPieces cX3_nearPieces 2 (some .int), Cond.classLink RX3 22 "ColourParts$Piece", Cond.fieldLink RX3 42 "ColourParts$Piece" "nearPieces" "I", Cond.methodLink RX3 31 yJx4a65c_get_915e3]
def wsX3_findOddRing_r2 : List Cond := [Cond.instanceMethod yJx4a65c_get_915e3, Cond.selects RJx4a65c yJx4a65c_get_915e3 yJx4a65c_get_915e3, Cond.code yJx4a65c_get_915e3 cJx4a65c_get_915e3 2 (some (.object "java/lang/Object")), Cond.methodLink RJx4a65c 118 yJ15_checkIndex_7cf53, Cond.static yJ15_checkIndex_7cf53, Cond.initialized RJ15, Cond.code yJ15_checkIndex_7cf53 cJ15_checkIndex_7cf53 2 (some .int), Cond.methodLink RJ15 105 yJ3_checkIndex_8e157, Cond.static yJ3_checkIndex_8e157, Cond.initialized RJ3, Cond.code yJ3_checkIndex_8e157 cJ3_checkIndex_8e157 3 (some .int), Cond.methodLink RJx4a65c 123 yJx4a65c_elementData_915e3, Cond.instanceMethod yJx4a65c_elementData_915e3, Cond.selects RJx4a65c yJx4a65c_elementData_915e3 yJx4a65c_elementData_915e3, Cond.code yJx4a65c_elementData_915e3 cJx4a65c_elementData_915e3 2 (some (.object "java/lang/Object")), Cond.fieldLink RJx4a65c 9 "java/util/ArrayList" "elementData" "[Ljava/lang/Object;", Cond.methodLink RX3 60 yX3_writeLeastRing, Cond.instanceMethod yX3_writeLeastRing, Cond.selects RX3 yX3_writeLeastRing yX3_writeLeastRing, Cond.code yX3_writeLeastRing cX3_writeLeastRing 7 none, Cond.methodLink RX3 49 yX3_owner, Cond.instanceMethod yX3_owner, Cond.selects RX3 yX3_owner yX3_owner, Cond.code yX3_owner cX3_owner 2 (some .int)]
def wsX3_findOddRing_r3 : List Cond := [Cond.fieldLink RX3 35 "ColourParts$Piece" "owner" "I", Cond.methodLink RX3 69 yJ6_numberOfTrailingZeros_0f7a4, Cond.static yJ6_numberOfTrailingZeros_0f7a4, Cond.initialized RJ6, Cond.code yJ6_numberOfTrailingZeros_0f7a4 cJ6_numberOfTrailingZeros_0f7a4 2 (some .int), Cond.constant RJ6 264 (65536)]
def wsX3_findOddRing : List Cond := .code yX3_findOddRing cX3_findOddRing 5 (some .int) :: ((wsX3_findOddRing_r1 ++ (wsX3_findOddRing_r2 ++ wsX3_findOddRing_r3)) ++ wsX30 ++ wsJx4a65c0 ++ wsX20)
def wsX4_init_r1 : List Cond := [Cond.methodLink RX4 3 objectInit, Cond.instanceMethod objectInit, Cond.code objectInit ⟨#[0xb1]⟩ 1 none, Cond.arrayClass .int, Cond.fieldLink RX4 9 "ColourParts$Search" "near" "[I", Cond.fieldLink RX4 15 "ColourParts$Search" "told" "[I", Cond.arrayClass .boolean, Cond.fieldLink RX4 18 "ColourParts$Search" "afterStitch" "[Z", Cond.fieldLink RX4 22 "ColourParts$Search" "holders" "[I", Cond.fieldLink RX4 25 "ColourParts$Search" "row" "[I", Cond.fieldLink RX4 28 "ColourParts$Search" "best" "[I", Cond.fieldLink RX4 31 "ColourParts$Search" "fewest" "I", Cond.methodLink RX4 35 Lib.Math.min.name, Cond.static Lib.Math.min.name, Cond.initialized "java/lang/Math", Cond.code Lib.Math.min.name Lib.Math.min.code 2 (some .int), Cond.methodLink RX4 41 Lib.Math.max.name, Cond.static Lib.Math.max.name, Cond.code Lib.Math.max.name Lib.Math.max.code 2 (some .int), Cond.fieldLink RX4 44 "ColourParts$Search" "colours" "I", Cond.fieldLink RX4 53 "ColourParts$Search" "count" "I", Cond.methodLink RX4 47 yX3_count, Cond.instanceMethod yX3_count, Cond.selects RX3 yX3_count yX3_count]
def wsX4_init_r2 : List Cond := [Cond.initialized RX3, Cond.code yX3_count cX3_count 1 (some .int), Cond.fieldLink RX3 12 "ColourParts$Pieces" "row" "Ljava/util/ArrayList;", Cond.methodLink RX3 18 yJx4a65c_size_8abf5, Cond.instanceMethod yJx4a65c_size_8abf5, Cond.selects RJx4a65c yJx4a65c_size_8abf5 yJx4a65c_size_8abf5, Cond.initialized RJx4a65c, Cond.code yJx4a65c_size_8abf5 cJx4a65c_size_8abf5 1 (some .int), Cond.fieldLink RJx4a65c 48 "java/util/ArrayList" "size" "I", Cond.methodLink RX4 55 yX3_nearPieces, Cond.instanceMethod yX3_nearPieces, Cond.selects RX3 yX3_nearPieces yX3_nearPieces, Cond.code yX3_nearPieces cX3_nearPieces 2 (some .int), Cond.classLink RX3 22 "ColourParts$Piece", Cond.fieldLink RX3 42 "ColourParts$Piece" "nearPieces" "I", Cond.methodLink RX3 31 yJx4a65c_get_915e3, Cond.instanceMethod yJx4a65c_get_915e3, Cond.selects RJx4a65c yJx4a65c_get_915e3 yJx4a65c_get_915e3, Cond.code yJx4a65c_get_915e3 cJx4a65c_get_915e3 2 (some (.object "java/lang/Object")), Cond.methodLink RJx4a65c 118 yJ15_checkIndex_7cf53, Cond.static yJ15_checkIndex_7cf53, Cond.initialized RJ15, Cond.code yJ15_checkIndex_7cf53 cJ15_checkIndex_7cf53 2 (some .int), Cond.methodLink RJ15 105 yJ3_checkIndex_8e157]
def wsX4_init_r3 : List Cond := [Cond.static yJ3_checkIndex_8e157, Cond.initialized RJ3, Cond.code yJ3_checkIndex_8e157 cJ3_checkIndex_8e157 3 (some .int), Cond.methodLink RJx4a65c 123 yJx4a65c_elementData_915e3, Cond.instanceMethod yJx4a65c_elementData_915e3, Cond.selects RJx4a65c yJx4a65c_elementData_915e3 yJx4a65c_elementData_915e3, Cond.code yJx4a65c_elementData_915e3 cJx4a65c_elementData_915e3 2 (some (.object "java/lang/Object")), Cond.fieldLink RJx4a65c 9 "java/util/ArrayList" "elementData" "[Ljava/lang/Object;", Cond.methodLink RX4 59 yX3_told, Cond.instanceMethod yX3_told, Cond.selects RX3 yX3_told yX3_told, Cond.code yX3_told cX3_told 2 (some .int), Cond.fieldLink RX3 39 "ColourParts$Piece" "told" "I", Cond.methodLink RX4 61 yX3_isAfterStitch, Cond.instanceMethod yX3_isAfterStitch, Cond.selects RX3 yX3_isAfterStitch yX3_isAfterStitch, Cond.code yX3_isAfterStitch cX3_isAfterStitch 2 (some .boolean), Cond.methodLink RX3 49 yX3_owner, Cond.instanceMethod yX3_owner, Cond.selects RX3 yX3_owner yX3_owner, Cond.code yX3_owner cX3_owner 2 (some .int), Cond.fieldLink RX3 35 "ColourParts$Piece" "owner" "I"]
def wsX4_init : List Cond := .code yX4_init cX4_init 4 none :: ((wsX4_init_r1 ++ (wsX4_init_r2 ++ wsX4_init_r3)) ++ wsX40 ++ wsX30 ++ wsJx4a65c0 ++ wsX20)
def wsX4_isFound : List Cond := .code yX4_isFound cX4_isFound 1 (some .boolean) :: ([.fieldLink RX4 31 "ColourParts$Search" "fewest" "I"] ++ wsX40)
def wsX4_canHave : List Cond := .code yX4_canHave cX4_canHave 3 (some .boolean) :: ([.fieldLink RX4 15 "ColourParts$Search" "told" "[I", .fieldLink RX4 9 "ColourParts$Search" "near" "[I", .fieldLink RX4 22 "ColourParts$Search" "holders" "[I"] ++ wsX40)
def wsX4_isDeadEnd : List Cond := .code yX4_isDeadEnd cX4_isDeadEnd 5 (some .boolean) :: ([.fieldLink RX4 53 "ColourParts$Search" "count" "I", .fieldLink RX4 44 "ColourParts$Search" "colours" "I", .methodLink RX4 78 yX4_canHave, .instanceMethod yX4_canHave, .selects RX4 yX4_canHave yX4_canHave, .initialized RX4, .code yX4_canHave cX4_canHave 3 (some .boolean), .fieldLink RX4 15 "ColourParts$Search" "told" "[I", .fieldLink RX4 9 "ColourParts$Search" "near" "[I", .fieldLink RX4 22 "ColourParts$Search" "holders" "[I"] ++ wsX40)
def wsX4_goOn_r1 : List Cond := [Cond.fieldLink RX4 31 "ColourParts$Search" "fewest" "I", Cond.fieldLink RX4 53 "ColourParts$Search" "count" "I", Cond.fieldLink RX4 25 "ColourParts$Search" "row" "[I", Cond.fieldLink RX4 28 "ColourParts$Search" "best" "[I", Cond.methodLink RX4 72 arraycopyName, Cond.native arraycopyName, Cond.static arraycopyName, Cond.initialized "java/lang/System", Cond.fieldLink RX4 44 "ColourParts$Search" "colours" "I", Cond.methodLink RX4 69 yX4_isDeadEnd, Cond.instanceMethod yX4_isDeadEnd, Cond.selects RX4 yX4_isDeadEnd yX4_isDeadEnd, Cond.initialized RX4, Cond.code yX4_isDeadEnd cX4_isDeadEnd 5 (some .boolean), Cond.methodLink RX4 78 yX4_canHave, Cond.instanceMethod yX4_canHave, Cond.selects RX4 yX4_canHave yX4_canHave, Cond.code yX4_canHave cX4_canHave 3 (some .boolean), Cond.fieldLink RX4 15 "ColourParts$Search" "told" "[I", Cond.fieldLink RX4 9 "ColourParts$Search" "near" "[I", Cond.fieldLink RX4 22 "ColourParts$Search" "holders" "[I", Cond.methodLink RX4 82 yX4_tryColour, Cond.instanceMethod yX4_tryColour, Cond.selects RX4 yX4_tryColour yX4_tryColour]
def wsX4_goOn_r2 : List Cond := [Cond.code yX4_tryColour cX4_tryColour 7 none, Cond.fieldLink RX4 18 "ColourParts$Search" "afterStitch" "[Z", Cond.methodLink RX4 65 yX4_goOn, Cond.instanceMethod yX4_goOn, Cond.selects RX4 yX4_goOn yX4_goOn]
def wsX4_goOn : List Cond := .code yX4_goOn cX4_goOn 7 none :: ((wsX4_goOn_r1 ++ wsX4_goOn_r2) ++ wsX40)
def wsX4_tryColour_r1 : List Cond := [Cond.fieldLink RX4 53 "ColourParts$Search" "count" "I", Cond.fieldLink RX4 44 "ColourParts$Search" "colours" "I", Cond.fieldLink RX4 18 "ColourParts$Search" "afterStitch" "[Z", Cond.fieldLink RX4 25 "ColourParts$Search" "row" "[I", Cond.fieldLink RX4 22 "ColourParts$Search" "holders" "[I", Cond.methodLink RX4 65 yX4_goOn, Cond.instanceMethod yX4_goOn, Cond.selects RX4 yX4_goOn yX4_goOn, Cond.initialized RX4, Cond.code yX4_goOn cX4_goOn 7 none, Cond.fieldLink RX4 31 "ColourParts$Search" "fewest" "I", Cond.fieldLink RX4 28 "ColourParts$Search" "best" "[I", Cond.methodLink RX4 72 arraycopyName, Cond.native arraycopyName, Cond.static arraycopyName, Cond.initialized "java/lang/System", Cond.methodLink RX4 69 yX4_isDeadEnd, Cond.instanceMethod yX4_isDeadEnd, Cond.selects RX4 yX4_isDeadEnd yX4_isDeadEnd, Cond.code yX4_isDeadEnd cX4_isDeadEnd 5 (some .boolean), Cond.methodLink RX4 78 yX4_canHave, Cond.instanceMethod yX4_canHave, Cond.selects RX4 yX4_canHave yX4_canHave, Cond.code yX4_canHave cX4_canHave 3 (some .boolean)]
def wsX4_tryColour_r2 : List Cond := [Cond.fieldLink RX4 15 "ColourParts$Search" "told" "[I", Cond.fieldLink RX4 9 "ColourParts$Search" "near" "[I", Cond.methodLink RX4 82 yX4_tryColour, Cond.instanceMethod yX4_tryColour, Cond.selects RX4 yX4_tryColour yX4_tryColour]
def wsX4_tryColour : List Cond := .code yX4_tryColour cX4_tryColour 7 none :: ((wsX4_tryColour_r1 ++ wsX4_tryColour_r2) ++ wsX40)
def wsX4_findBest_r1 : List Cond := [Cond.fieldLink RX4 53 "ColourParts$Search" "count" "I", Cond.fieldLink RX4 15 "ColourParts$Search" "told" "[I", Cond.fieldLink RX4 44 "ColourParts$Search" "colours" "I", Cond.fieldLink RX4 22 "ColourParts$Search" "holders" "[I", Cond.methodLink RX4 65 yX4_goOn, Cond.instanceMethod yX4_goOn, Cond.selects RX4 yX4_goOn yX4_goOn, Cond.initialized RX4, Cond.code yX4_goOn cX4_goOn 7 none, Cond.fieldLink RX4 31 "ColourParts$Search" "fewest" "I", Cond.fieldLink RX4 25 "ColourParts$Search" "row" "[I", Cond.fieldLink RX4 28 "ColourParts$Search" "best" "[I", Cond.methodLink RX4 72 arraycopyName, Cond.native arraycopyName, Cond.static arraycopyName, Cond.initialized "java/lang/System", Cond.methodLink RX4 69 yX4_isDeadEnd, Cond.instanceMethod yX4_isDeadEnd, Cond.selects RX4 yX4_isDeadEnd yX4_isDeadEnd, Cond.code yX4_isDeadEnd cX4_isDeadEnd 5 (some .boolean), Cond.methodLink RX4 78 yX4_canHave, Cond.instanceMethod yX4_canHave, Cond.selects RX4 yX4_canHave yX4_canHave, Cond.code yX4_canHave cX4_canHave 3 (some .boolean)]
def wsX4_findBest_r2 : List Cond := [Cond.fieldLink RX4 9 "ColourParts$Search" "near" "[I", Cond.methodLink RX4 82 yX4_tryColour, Cond.instanceMethod yX4_tryColour, Cond.selects RX4 yX4_tryColour yX4_tryColour, Cond.code yX4_tryColour cX4_tryColour 7 none, Cond.fieldLink RX4 18 "ColourParts$Search" "afterStitch" "[Z"]
def wsX4_findBest : List Cond := .code yX4_findBest cX4_findBest 3 none :: ((wsX4_findBest_r1 ++ wsX4_findBest_r2) ++ wsX40)
def wsX5_init_r1 : List Cond := [Cond.methodLink RX5 3 objectInit, Cond.instanceMethod objectInit, Cond.code objectInit ⟨#[0xb1]⟩ 1 none, Cond.classLink RX5 9 RJx4a65c, Cond.instantiable RJx4a65c 3, Cond.initialized RJx4a65c, Cond.fieldLink RX5 12 "ColourParts$Shape" "boxes" "Ljava/util/ArrayList;", Cond.arrayClass .long, Cond.fieldLink RX5 18 "ColourParts$Shape" "places" "[J", Cond.fieldLink RX5 22 "ColourParts$Shape" "stitchCount" "I", Cond.fieldLink RX5 26 "ColourParts$Shape" "standing" "Z", Cond.fieldLink RX5 30 "ColourParts$Shape" "told" "I", Cond.fieldLink RX5 33 "ColourParts$Shape" "nearShapes" "I", Cond.fieldLink RX5 36 "ColourParts$Shape" "half" "Z", Cond.fieldLink RX5 39 "ColourParts$Shape" "halfX" "J", Cond.fieldLink RX5 43 "ColourParts$Shape" "halfY" "J", Cond.methodLink RX5 11 yJx4a65c_init_da8c8, Cond.instanceMethod yJx4a65c_init_da8c8, Cond.code yJx4a65c_init_da8c8 cJx4a65c_init_da8c8 1 none, Cond.fieldLink RJx4a65c 39 "java/util/ArrayList" "DEFAULTCAPACITY_EMPTY_ELEMENTDATA" "[Ljava/lang/Object;", Cond.fieldLink RJx4a65c 9 "java/util/ArrayList" "elementData" "[Ljava/lang/Object;", Cond.methodLink RJx4a65c 1 yJxc12de_init_da8c8, Cond.instanceMethod yJxc12de_init_da8c8, Cond.initialized RJxc12de]
def wsX5_init_r2 : List Cond := [Cond.code yJxc12de_init_da8c8 cJxc12de_init_da8c8 1 none, Cond.fieldLink RJxc12de 7 "java/util/AbstractList" "modCount" "I", Cond.methodLink RJxc12de 1 yJxa1e45_init_da8c8, Cond.instanceMethod yJxa1e45_init_da8c8, Cond.initialized RJxa1e45, Cond.code yJxa1e45_init_da8c8 cJxa1e45_init_da8c8 1 none, Cond.methodLink RJxa1e45 1 objectInit]
def wsX5_init : List Cond := .code yX5_init cX5_init 1 none :: ((wsX5_init_r1 ++ wsX5_init_r2) ++ wsJx4a65c0 ++ wsX50)
def wsJx4a65c_isEmpty_aae02 : List Cond := .code yJx4a65c_isEmpty_aae02 cJx4a65c_isEmpty_aae02 1 (some .boolean) :: ([.fieldLink RJx4a65c 48 "java/util/ArrayList" "size" "I"] ++ wsJx4a65c0)
def wsX5_isOpen : List Cond := .code yX5_isOpen cX5_isOpen 1 (some .boolean) :: ([.fieldLink RX5 36 "ColourParts$Shape" "half" "Z", .fieldLink RX5 12 "ColourParts$Shape" "boxes" "Ljava/util/ArrayList;", .methodLink RX5 46 yJx4a65c_isEmpty_aae02, .instanceMethod yJx4a65c_isEmpty_aae02, .selects RJx4a65c yJx4a65c_isEmpty_aae02 yJx4a65c_isEmpty_aae02, .initialized RJx4a65c, .code yJx4a65c_isEmpty_aae02 cJx4a65c_isEmpty_aae02 1 (some .boolean), .fieldLink RJx4a65c 48 "java/util/ArrayList" "size" "I"] ++ wsX50 ++ wsJx4a65c0)
def wsX5_isNearShape : List Cond := .code yX5_isNearShape cX5_isNearShape 2 (some .boolean) :: ([.fieldLink RX5 33 "ColourParts$Shape" "nearShapes" "I"] ++ wsX50)
def wsX5_addCorner_r1 : List Cond := [Cond.fieldLink RX5 36 "ColourParts$Shape" "half" "Z", Cond.fieldLink RX5 12 "ColourParts$Shape" "boxes" "Ljava/util/ArrayList;", Cond.classLink RX5 50 RX0, Cond.instantiable RX0 4, Cond.initialized RX0, Cond.fieldLink RX5 39 "ColourParts$Shape" "halfX" "J", Cond.methodLink RX5 52 Lib.MathLoose.min_long.x, Cond.static Lib.MathLoose.min_long.x, Cond.initialized "java/lang/Math", Cond.code Lib.MathLoose.min_long.x Lib.MathLoose.min_long.code 4 (some .long), Cond.fieldLink RX5 43 "ColourParts$Shape" "halfY" "J", Cond.methodLink RX5 58 Lib.MathLoose.max_long.x, Cond.static Lib.MathLoose.max_long.x, Cond.code Lib.MathLoose.max_long.x Lib.MathLoose.max_long.code 4 (some .long), Cond.methodLink RX5 61 yX0_init, Cond.instanceMethod yX0_init, Cond.code yX0_init cX0_init 9 none, Cond.methodLink RX0 1 objectInit, Cond.instanceMethod objectInit, Cond.code objectInit ⟨#[0xb1]⟩ 1 none, Cond.fieldLink RX0 7 "ColourParts$Box" "left" "J", Cond.fieldLink RX0 13 "ColourParts$Box" "low" "J", Cond.fieldLink RX0 16 "ColourParts$Box" "right" "J", Cond.fieldLink RX0 19 "ColourParts$Box" "high" "J"]
def wsX5_addCorner_r2 : List Cond := [Cond.methodLink RX5 64 yJx4a65c_add_9ea2d, Cond.instanceMethod yJx4a65c_add_9ea2d, Cond.selects RJx4a65c yJx4a65c_add_9ea2d yJx4a65c_add_9ea2d, Cond.initialized RJx4a65c, Cond.code yJx4a65c_add_9ea2d cJx4a65c_add_9ea2d 2 (some .boolean), Cond.fieldLink RJx4a65c 63 "java/util/ArrayList" "modCount" "I", Cond.sameField "java/util/ArrayList" "java/util/AbstractList" "modCount" "I", Cond.fieldLink RJx4a65c 9 "java/util/ArrayList" "elementData" "[Ljava/lang/Object;", Cond.fieldLink RJx4a65c 48 "java/util/ArrayList" "size" "I", Cond.methodLink RJx4a65c 131 yJx4a65c_add_72be8, Cond.instanceMethod yJx4a65c_add_72be8, Cond.selects RJx4a65c yJx4a65c_add_72be8 yJx4a65c_add_72be8, Cond.code yJx4a65c_add_72be8 cJx4a65c_add_72be8 4 none, Cond.methodLink RJx4a65c 129 yJx4a65c_grow_d5877, Cond.instanceMethod yJx4a65c_grow_d5877, Cond.selects RJx4a65c yJx4a65c_grow_d5877 yJx4a65c_grow_d5877, Cond.code yJx4a65c_grow_d5877 cJx4a65c_grow_d5877 1 (some (.array (.object "java/lang/Object"))), Cond.methodLink RJx4a65c 69 yJx4a65c_grow_92f84, Cond.instanceMethod yJx4a65c_grow_92f84, Cond.selects RJx4a65c yJx4a65c_grow_92f84 yJx4a65c_grow_92f84, Cond.code yJx4a65c_grow_92f84 cJx4a65c_grow_92f84 4 (some (.array (.object "java/lang/Object"))), Cond.fieldLink RJx4a65c 39 "java/util/ArrayList" "DEFAULTCAPACITY_EMPTY_ELEMENTDATA" "[Ljava/lang/Object;", Cond.methodLink RJx4a65c 79 Lib.Math.max.name, Cond.static Lib.Math.max.name]
def wsX5_addCorner_r3 : List Cond := [Cond.code Lib.Math.max.name Lib.Math.max.code 2 (some .int), Cond.classLink RJx4a65c 7 "java/lang/Object", Cond.methodLink RJx4a65c 73 yJ8_newLength_cabcc, Cond.static yJ8_newLength_cabcc, Cond.initialized RJ8, Cond.code yJ8_newLength_cabcc cJ8_newLength_cabcc 4 (some .int), Cond.methodLink RJ8 194 Lib.Math.max.name, Cond.constant RJ8 200 (2147483639), Cond.methodLink RJ8 201 yJ8_hugeLength_7cf53, Cond.static yJ8_hugeLength_7cf53, Cond.code yJ8_hugeLength_7cf53 cJ8_hugeLength_7cf53 3 (some .int), Cond.methodLink RJx4a65c 66 yJ7_copyOf_1904c, Cond.static yJ7_copyOf_1904c, Cond.initialized RJ7, Cond.code yJ7_copyOf_1904c cJ7_copyOf_1904c 2 (some (.array (.object "java/lang/Object"))), Cond.methodLink RJ7 86 ⟨"java/lang/Object", "getClass", "()Ljava/lang/Class;"⟩, Cond.selects "[Ljava/lang/Object;" ⟨"java/lang/Object", "getClass", "()Ljava/lang/Class;"⟩ ⟨"java/lang/Object", "getClass", "()Ljava/lang/Class;"⟩, Cond.instanceMethod ⟨"java/lang/Object", "getClass", "()Ljava/lang/Class;"⟩, Cond.native ⟨"java/lang/Object", "getClass", "()Ljava/lang/Class;"⟩, Cond.methodLink RJ7 300 yJ7_copyOf_6403c, Cond.static yJ7_copyOf_6403c, Cond.code yJ7_copyOf_6403c cJ7_copyOf_6403c 4 (some (.array (.object "java/lang/Object"))), Cond.classLink RJ7 110 "[Ljava/lang/Object;", Cond.classLink RJ7 2 "java/lang/Object"]
def wsX5_addCorner_r4 : List Cond := [Cond.methodLink RJ7 304 Lib.Math.min.name, Cond.static Lib.Math.min.name, Cond.code Lib.Math.min.name Lib.Math.min.code 2 (some .int), Cond.methodLink RJ7 150 arraycopyName, Cond.native arraycopyName, Cond.static arraycopyName, Cond.initialized "java/lang/System"]
def wsX5_addCorner : List Cond := .code yX5_addCorner cX5_addCorner 5 (some .boolean) :: ((wsX5_addCorner_r1 ++ (wsX5_addCorner_r2 ++ (wsX5_addCorner_r3 ++ wsX5_addCorner_r4))) ++ wsX50 ++ wsX00 ++ wsJx4a65c0)
def wsX5_hasStitch : List Cond := .code yX5_hasStitch cX5_hasStitch 5 (some .boolean) :: ([.fieldLink RX5 26 "ColourParts$Shape" "standing" "Z", .fieldLink RX5 22 "ColourParts$Shape" "stitchCount" "I", .fieldLink RX5 18 "ColourParts$Shape" "places" "[J"] ++ wsX50)
def wsX5_addStitch : List Cond := .code yX5_addStitch cX5_addStitch 5 none :: ([.fieldLink RX5 22 "ColourParts$Shape" "stitchCount" "I", .fieldLink RX5 18 "ColourParts$Shape" "places" "[J", .fieldLink RX5 26 "ColourParts$Shape" "standing" "Z"] ++ wsX50)
def wsX5_cutBox : List Cond := .code yX5_cutBox cX5_cutBox 5 (some (.object "ColourParts$Box")) :: ([.fieldLink RX5 22 "ColourParts$Shape" "stitchCount" "I", .fieldLink RX5 26 "ColourParts$Shape" "standing" "Z", .classLink RX5 50 RX0, .instantiable RX0 4, .initialized RX0, .fieldLink RX5 18 "ColourParts$Shape" "places" "[J", .fieldLink RX5 76 "ColourParts$Box" "left" "J", .fieldLink RX5 79 "ColourParts$Box" "low" "J", .fieldLink RX5 82 "ColourParts$Box" "right" "J", .fieldLink RX5 85 "ColourParts$Box" "high" "J", .methodLink RX5 61 yX0_init, .instanceMethod yX0_init, .code yX0_init cX0_init 9 none, .methodLink RX0 1 objectInit, .instanceMethod objectInit, .code objectInit ⟨#[0xb1]⟩ 1 none, .fieldLink RX0 7 "ColourParts$Box" "left" "J", .fieldLink RX0 13 "ColourParts$Box" "low" "J", .fieldLink RX0 16 "ColourParts$Box" "right" "J", .fieldLink RX0 19 "ColourParts$Box" "high" "J"] ++ wsX50 ++ wsX00)
def wsX5_pieceBoxes_r1 : List Cond := [Cond.fieldLink RX5 22 "ColourParts$Shape" "stitchCount" "I", Cond.fieldLink RX5 12 "ColourParts$Shape" "boxes" "Ljava/util/ArrayList;", Cond.classLink RX5 9 RJx4a65c, Cond.instantiable RJx4a65c 3, Cond.initialized RJx4a65c, Cond.classLink RX5 50 "ColourParts$Box", Cond.methodLink RX5 46 yJx4a65c_isEmpty_aae02, Cond.instanceMethod yJx4a65c_isEmpty_aae02, Cond.selects RJx4a65c yJx4a65c_isEmpty_aae02 yJx4a65c_isEmpty_aae02, Cond.code yJx4a65c_isEmpty_aae02 cJx4a65c_isEmpty_aae02 1 (some .boolean), Cond.fieldLink RJx4a65c 48 "java/util/ArrayList" "size" "I", Cond.methodLink RX5 11 yJx4a65c_init_da8c8, Cond.instanceMethod yJx4a65c_init_da8c8, Cond.code yJx4a65c_init_da8c8 cJx4a65c_init_da8c8 1 none, Cond.fieldLink RJx4a65c 39 "java/util/ArrayList" "DEFAULTCAPACITY_EMPTY_ELEMENTDATA" "[Ljava/lang/Object;", Cond.fieldLink RJx4a65c 9 "java/util/ArrayList" "elementData" "[Ljava/lang/Object;", Cond.methodLink RJx4a65c 1 yJxc12de_init_da8c8, Cond.instanceMethod yJxc12de_init_da8c8, Cond.initialized RJxc12de, Cond.code yJxc12de_init_da8c8 cJxc12de_init_da8c8 1 none, Cond.fieldLink RJxc12de 7 "java/util/AbstractList" "modCount" "I", Cond.methodLink RJxc12de 1 yJxa1e45_init_da8c8, Cond.instanceMethod yJxa1e45_init_da8c8, Cond.initialized RJxa1e45]
def wsX5_pieceBoxes_r2 : List Cond := [Cond.code yJxa1e45_init_da8c8 cJxa1e45_init_da8c8 1 none, Cond.methodLink RJxa1e45 1 objectInit, Cond.instanceMethod objectInit, Cond.code objectInit ⟨#[0xb1]⟩ 1 none, Cond.methodLink RX5 68 yJx4a65c_get_915e3, Cond.instanceMethod yJx4a65c_get_915e3, Cond.selects RJx4a65c yJx4a65c_get_915e3 yJx4a65c_get_915e3, Cond.code yJx4a65c_get_915e3 cJx4a65c_get_915e3 2 (some (.object "java/lang/Object")), Cond.methodLink RJx4a65c 118 yJ15_checkIndex_7cf53, Cond.static yJ15_checkIndex_7cf53, Cond.initialized RJ15, Cond.code yJ15_checkIndex_7cf53 cJ15_checkIndex_7cf53 2 (some .int), Cond.methodLink RJ15 105 yJ3_checkIndex_8e157, Cond.static yJ3_checkIndex_8e157, Cond.initialized RJ3, Cond.code yJ3_checkIndex_8e157 cJ3_checkIndex_8e157 3 (some .int), Cond.methodLink RJx4a65c 123 yJx4a65c_elementData_915e3, Cond.instanceMethod yJx4a65c_elementData_915e3, Cond.selects RJx4a65c yJx4a65c_elementData_915e3 yJx4a65c_elementData_915e3, Cond.code yJx4a65c_elementData_915e3 cJx4a65c_elementData_915e3 2 (some (.object "java/lang/Object")), Cond.methodLink RX5 72 yX5_cutBox, Cond.instanceMethod yX5_cutBox, Cond.selects RX5 yX5_cutBox yX5_cutBox, Cond.initialized RX5]
def wsX5_pieceBoxes_r3 : List Cond := [Cond.code yX5_cutBox cX5_cutBox 5 (some (.object "ColourParts$Box")), Cond.fieldLink RX5 26 "ColourParts$Shape" "standing" "Z", Cond.classLink RX5 50 RX0, Cond.instantiable RX0 4, Cond.initialized RX0, Cond.fieldLink RX5 18 "ColourParts$Shape" "places" "[J", Cond.fieldLink RX5 76 "ColourParts$Box" "left" "J", Cond.fieldLink RX5 79 "ColourParts$Box" "low" "J", Cond.fieldLink RX5 82 "ColourParts$Box" "right" "J", Cond.fieldLink RX5 85 "ColourParts$Box" "high" "J", Cond.methodLink RX5 61 yX0_init, Cond.instanceMethod yX0_init, Cond.code yX0_init cX0_init 9 none, Cond.methodLink RX0 1 objectInit, Cond.fieldLink RX0 7 "ColourParts$Box" "left" "J", Cond.fieldLink RX0 13 "ColourParts$Box" "low" "J", Cond.fieldLink RX0 16 "ColourParts$Box" "right" "J", Cond.fieldLink RX0 19 "ColourParts$Box" "high" "J", Cond.methodLink RX5 64 yJx4a65c_add_9ea2d, Cond.instanceMethod yJx4a65c_add_9ea2d, Cond.selects RJx4a65c yJx4a65c_add_9ea2d yJx4a65c_add_9ea2d, Cond.code yJx4a65c_add_9ea2d cJx4a65c_add_9ea2d 2 (some .boolean), Cond.fieldLink RJx4a65c 63 "java/util/ArrayList" "modCount" "I", Cond.sameField "java/util/ArrayList" "java/util/AbstractList" "modCount" "I"]
def wsX5_pieceBoxes_r4 : List Cond := [Cond.methodLink RJx4a65c 131 yJx4a65c_add_72be8, Cond.instanceMethod yJx4a65c_add_72be8, Cond.selects RJx4a65c yJx4a65c_add_72be8 yJx4a65c_add_72be8, Cond.code yJx4a65c_add_72be8 cJx4a65c_add_72be8 4 none, Cond.methodLink RJx4a65c 129 yJx4a65c_grow_d5877, Cond.instanceMethod yJx4a65c_grow_d5877, Cond.selects RJx4a65c yJx4a65c_grow_d5877 yJx4a65c_grow_d5877, Cond.code yJx4a65c_grow_d5877 cJx4a65c_grow_d5877 1 (some (.array (.object "java/lang/Object"))), Cond.methodLink RJx4a65c 69 yJx4a65c_grow_92f84, Cond.instanceMethod yJx4a65c_grow_92f84, Cond.selects RJx4a65c yJx4a65c_grow_92f84 yJx4a65c_grow_92f84, Cond.code yJx4a65c_grow_92f84 cJx4a65c_grow_92f84 4 (some (.array (.object "java/lang/Object"))), Cond.methodLink RJx4a65c 79 Lib.Math.max.name, Cond.static Lib.Math.max.name, Cond.initialized "java/lang/Math", Cond.code Lib.Math.max.name Lib.Math.max.code 2 (some .int), Cond.classLink RJx4a65c 7 "java/lang/Object", Cond.methodLink RJx4a65c 73 yJ8_newLength_cabcc, Cond.static yJ8_newLength_cabcc, Cond.initialized RJ8, Cond.code yJ8_newLength_cabcc cJ8_newLength_cabcc 4 (some .int), Cond.methodLink RJ8 194 Lib.Math.max.name, Cond.constant RJ8 200 (2147483639), Cond.methodLink RJ8 201 yJ8_hugeLength_7cf53]
def wsX5_pieceBoxes_r5 : List Cond := [Cond.static yJ8_hugeLength_7cf53, Cond.code yJ8_hugeLength_7cf53 cJ8_hugeLength_7cf53 3 (some .int), Cond.methodLink RJx4a65c 66 yJ7_copyOf_1904c, Cond.static yJ7_copyOf_1904c, Cond.initialized RJ7, Cond.code yJ7_copyOf_1904c cJ7_copyOf_1904c 2 (some (.array (.object "java/lang/Object"))), Cond.methodLink RJ7 86 ⟨"java/lang/Object", "getClass", "()Ljava/lang/Class;"⟩, Cond.selects "[Ljava/lang/Object;" ⟨"java/lang/Object", "getClass", "()Ljava/lang/Class;"⟩ ⟨"java/lang/Object", "getClass", "()Ljava/lang/Class;"⟩, Cond.instanceMethod ⟨"java/lang/Object", "getClass", "()Ljava/lang/Class;"⟩, Cond.native ⟨"java/lang/Object", "getClass", "()Ljava/lang/Class;"⟩, Cond.methodLink RJ7 300 yJ7_copyOf_6403c, Cond.static yJ7_copyOf_6403c, Cond.code yJ7_copyOf_6403c cJ7_copyOf_6403c 4 (some (.array (.object "java/lang/Object"))), Cond.classLink RJ7 110 "[Ljava/lang/Object;", Cond.classLink RJ7 2 "java/lang/Object", Cond.methodLink RJ7 304 Lib.Math.min.name, Cond.static Lib.Math.min.name, Cond.code Lib.Math.min.name Lib.Math.min.code 2 (some .int), Cond.methodLink RJ7 150 arraycopyName, Cond.native arraycopyName, Cond.static arraycopyName, Cond.initialized "java/lang/System"]
def wsX5_pieceBoxes : List Cond := .code yX5_pieceBoxes cX5_pieceBoxes 3 (some (.object "java/util/ArrayList")) :: ((wsX5_pieceBoxes_r1 ++ (wsX5_pieceBoxes_r2 ++ (wsX5_pieceBoxes_r3 ++ (wsX5_pieceBoxes_r4 ++ wsX5_pieceBoxes_r5)))) ++ wsX50 ++ wsJx4a65c0 ++ wsX00)
def wsX6_init_r1 : List Cond := [Cond.methodLink RX6 1 objectInit, Cond.instanceMethod objectInit, Cond.code objectInit ⟨#[0xb1]⟩ 1 none, Cond.classLink RX6 7 RJx4a65c, Cond.instantiable RJx4a65c 3, Cond.initialized RJx4a65c, Cond.fieldLink RX6 10 "ColourParts" "shapes" "Ljava/util/ArrayList;", Cond.arrayClass .int, Cond.fieldLink RX6 16 "ColourParts" "ringShapes" "[I", Cond.fieldLink RX6 20 "ColourParts" "ringLength" "I", Cond.fieldLink RX6 24 "ColourParts" "kept" "LColourParts$Colouring;", Cond.fieldLink RX6 28 "ColourParts" "latestClosed" "Z", Cond.constantLong RX6 32 (65536), Cond.methodLink RX6 34 Lib.MathLoose.min_long.x, Cond.static Lib.MathLoose.min_long.x, Cond.initialized "java/lang/Math", Cond.code Lib.MathLoose.min_long.x Lib.MathLoose.min_long.code 4 (some .long), Cond.methodLink RX6 40 Lib.MathLoose.max_long.x, Cond.static Lib.MathLoose.max_long.x, Cond.code Lib.MathLoose.max_long.x Lib.MathLoose.max_long.code 4 (some .long), Cond.fieldLink RX6 43 "ColourParts" "square" "J", Cond.methodLink RX6 9 yJx4a65c_init_da8c8, Cond.instanceMethod yJx4a65c_init_da8c8, Cond.code yJx4a65c_init_da8c8 cJx4a65c_init_da8c8 1 none]
def wsX6_init_r2 : List Cond := [Cond.fieldLink RJx4a65c 39 "java/util/ArrayList" "DEFAULTCAPACITY_EMPTY_ELEMENTDATA" "[Ljava/lang/Object;", Cond.fieldLink RJx4a65c 9 "java/util/ArrayList" "elementData" "[Ljava/lang/Object;", Cond.methodLink RJx4a65c 1 yJxc12de_init_da8c8, Cond.instanceMethod yJxc12de_init_da8c8, Cond.initialized RJxc12de, Cond.code yJxc12de_init_da8c8 cJxc12de_init_da8c8 1 none, Cond.fieldLink RJxc12de 7 "java/util/AbstractList" "modCount" "I", Cond.methodLink RJxc12de 1 yJxa1e45_init_da8c8, Cond.instanceMethod yJxa1e45_init_da8c8, Cond.initialized RJxa1e45, Cond.code yJxa1e45_init_da8c8 cJxa1e45_init_da8c8 1 none, Cond.methodLink RJxa1e45 1 objectInit]
def wsX6_init : List Cond := .code yX6_init cX6_init 5 none :: ((wsX6_init_r1 ++ wsX6_init_r2) ++ wsJx4a65c0 ++ wsX60)
def wsX6_countPieces_r1 : List Cond := [Cond.fieldLink RX6 10 "ColourParts" "shapes" "Ljava/util/ArrayList;", Cond.classLink RX6 61 "ColourParts$Shape", Cond.fieldLink RX6 79 "ColourParts$Shape" "stitchCount" "I", Cond.methodLink RX6 47 yJx4a65c_size_8abf5, Cond.instanceMethod yJx4a65c_size_8abf5, Cond.selects RJx4a65c yJx4a65c_size_8abf5 yJx4a65c_size_8abf5, Cond.initialized RJx4a65c, Cond.code yJx4a65c_size_8abf5 cJx4a65c_size_8abf5 1 (some .int), Cond.fieldLink RJx4a65c 48 "java/util/ArrayList" "size" "I", Cond.methodLink RX6 72 yJx4a65c_get_915e3, Cond.instanceMethod yJx4a65c_get_915e3, Cond.selects RJx4a65c yJx4a65c_get_915e3 yJx4a65c_get_915e3, Cond.code yJx4a65c_get_915e3 cJx4a65c_get_915e3 2 (some (.object "java/lang/Object")), Cond.methodLink RJx4a65c 118 yJ15_checkIndex_7cf53, Cond.static yJ15_checkIndex_7cf53, Cond.initialized RJ15, Cond.code yJ15_checkIndex_7cf53 cJ15_checkIndex_7cf53 2 (some .int), Cond.methodLink RJ15 105 yJ3_checkIndex_8e157, Cond.static yJ3_checkIndex_8e157, Cond.initialized RJ3, Cond.code yJ3_checkIndex_8e157 cJ3_checkIndex_8e157 3 (some .int), Cond.methodLink RJx4a65c 123 yJx4a65c_elementData_915e3, Cond.instanceMethod yJx4a65c_elementData_915e3, Cond.selects RJx4a65c yJx4a65c_elementData_915e3 yJx4a65c_elementData_915e3]
def wsX6_countPieces_r2 : List Cond := [Cond.code yJx4a65c_elementData_915e3 cJx4a65c_elementData_915e3 2 (some (.object "java/lang/Object")), Cond.fieldLink RJx4a65c 9 "java/util/ArrayList" "elementData" "[Ljava/lang/Object;"]
def wsX6_countPieces : List Cond := .code yX6_countPieces cX6_countPieces 3 (some .int) :: ((wsX6_countPieces_r1 ++ wsX6_countPieces_r2) ++ wsX60 ++ wsX50 ++ wsJx4a65c0)
def wsX6_shape_r1 : List Cond := [Cond.classLink RX6 54 "java/lang/IllegalStateException", Cond.initialized "java/lang/IllegalStateException", Cond.fieldLink RX6 10 "ColourParts" "shapes" "Ljava/util/ArrayList;", Cond.classLink RX6 61 RX5, Cond.instantiable RX5 9, Cond.initialized RX5, Cond.methodLink RX6 47 yJx4a65c_size_8abf5, Cond.instanceMethod yJx4a65c_size_8abf5, Cond.selects RJx4a65c yJx4a65c_size_8abf5 yJx4a65c_size_8abf5, Cond.initialized RJx4a65c, Cond.code yJx4a65c_size_8abf5 cJx4a65c_size_8abf5 1 (some .int), Cond.fieldLink RJx4a65c 48 "java/util/ArrayList" "size" "I", Cond.methodLink RX6 51 yX6_countPieces, Cond.instanceMethod yX6_countPieces, Cond.selects RX6 yX6_countPieces yX6_countPieces, Cond.initialized RX6, Cond.code yX6_countPieces cX6_countPieces 3 (some .int), Cond.classLink RX6 61 "ColourParts$Shape", Cond.fieldLink RX6 79 "ColourParts$Shape" "stitchCount" "I", Cond.methodLink RX6 72 yJx4a65c_get_915e3, Cond.instanceMethod yJx4a65c_get_915e3, Cond.selects RJx4a65c yJx4a65c_get_915e3 yJx4a65c_get_915e3, Cond.code yJx4a65c_get_915e3 cJx4a65c_get_915e3 2 (some (.object "java/lang/Object")), Cond.methodLink RJx4a65c 118 yJ15_checkIndex_7cf53]
def wsX6_shape_r2 : List Cond := [Cond.static yJ15_checkIndex_7cf53, Cond.initialized RJ15, Cond.code yJ15_checkIndex_7cf53 cJ15_checkIndex_7cf53 2 (some .int), Cond.methodLink RJ15 105 yJ3_checkIndex_8e157, Cond.static yJ3_checkIndex_8e157, Cond.initialized RJ3, Cond.code yJ3_checkIndex_8e157 cJ3_checkIndex_8e157 3 (some .int), Cond.methodLink RJx4a65c 123 yJx4a65c_elementData_915e3, Cond.instanceMethod yJx4a65c_elementData_915e3, Cond.selects RJx4a65c yJx4a65c_elementData_915e3 yJx4a65c_elementData_915e3, Cond.code yJx4a65c_elementData_915e3 cJx4a65c_elementData_915e3 2 (some (.object "java/lang/Object")), Cond.fieldLink RJx4a65c 9 "java/util/ArrayList" "elementData" "[Ljava/lang/Object;", Cond.instanceMethod yX5_init, Cond.code yX5_init cX5_init 1 none, Cond.methodLink RX5 3 objectInit, Cond.instanceMethod objectInit, Cond.code objectInit ⟨#[0xb1]⟩ 1 none, Cond.classLink RX5 9 RJx4a65c, Cond.instantiable RJx4a65c 3, Cond.fieldLink RX5 12 "ColourParts$Shape" "boxes" "Ljava/util/ArrayList;", Cond.arrayClass .long, Cond.fieldLink RX5 18 "ColourParts$Shape" "places" "[J", Cond.fieldLink RX5 22 "ColourParts$Shape" "stitchCount" "I", Cond.fieldLink RX5 26 "ColourParts$Shape" "standing" "Z"]
def wsX6_shape_r3 : List Cond := [Cond.fieldLink RX5 30 "ColourParts$Shape" "told" "I", Cond.fieldLink RX5 33 "ColourParts$Shape" "nearShapes" "I", Cond.fieldLink RX5 36 "ColourParts$Shape" "half" "Z", Cond.fieldLink RX5 39 "ColourParts$Shape" "halfX" "J", Cond.fieldLink RX5 43 "ColourParts$Shape" "halfY" "J", Cond.methodLink RX5 11 yJx4a65c_init_da8c8, Cond.instanceMethod yJx4a65c_init_da8c8, Cond.code yJx4a65c_init_da8c8 cJx4a65c_init_da8c8 1 none, Cond.fieldLink RJx4a65c 39 "java/util/ArrayList" "DEFAULTCAPACITY_EMPTY_ELEMENTDATA" "[Ljava/lang/Object;", Cond.methodLink RJx4a65c 1 yJxc12de_init_da8c8, Cond.instanceMethod yJxc12de_init_da8c8, Cond.initialized RJxc12de, Cond.code yJxc12de_init_da8c8 cJxc12de_init_da8c8 1 none, Cond.fieldLink RJxc12de 7 "java/util/AbstractList" "modCount" "I", Cond.methodLink RJxc12de 1 yJxa1e45_init_da8c8, Cond.instanceMethod yJxa1e45_init_da8c8, Cond.initialized RJxa1e45, Cond.code yJxa1e45_init_da8c8 cJxa1e45_init_da8c8 1 none, Cond.methodLink RJxa1e45 1 objectInit, Cond.methodLink RX6 64 yJx4a65c_add_9ea2d, Cond.instanceMethod yJx4a65c_add_9ea2d, Cond.selects RJx4a65c yJx4a65c_add_9ea2d yJx4a65c_add_9ea2d, Cond.code yJx4a65c_add_9ea2d cJx4a65c_add_9ea2d 2 (some .boolean), Cond.fieldLink RJx4a65c 63 "java/util/ArrayList" "modCount" "I"]
def wsX6_shape_r4 : List Cond := [Cond.sameField "java/util/ArrayList" "java/util/AbstractList" "modCount" "I", Cond.methodLink RJx4a65c 131 yJx4a65c_add_72be8, Cond.instanceMethod yJx4a65c_add_72be8, Cond.selects RJx4a65c yJx4a65c_add_72be8 yJx4a65c_add_72be8, Cond.code yJx4a65c_add_72be8 cJx4a65c_add_72be8 4 none, Cond.methodLink RJx4a65c 129 yJx4a65c_grow_d5877, Cond.instanceMethod yJx4a65c_grow_d5877, Cond.selects RJx4a65c yJx4a65c_grow_d5877 yJx4a65c_grow_d5877, Cond.code yJx4a65c_grow_d5877 cJx4a65c_grow_d5877 1 (some (.array (.object "java/lang/Object"))), Cond.methodLink RJx4a65c 69 yJx4a65c_grow_92f84, Cond.instanceMethod yJx4a65c_grow_92f84, Cond.selects RJx4a65c yJx4a65c_grow_92f84 yJx4a65c_grow_92f84, Cond.code yJx4a65c_grow_92f84 cJx4a65c_grow_92f84 4 (some (.array (.object "java/lang/Object"))), Cond.methodLink RJx4a65c 79 Lib.Math.max.name, Cond.static Lib.Math.max.name, Cond.initialized "java/lang/Math", Cond.code Lib.Math.max.name Lib.Math.max.code 2 (some .int), Cond.classLink RJx4a65c 7 "java/lang/Object", Cond.methodLink RJx4a65c 73 yJ8_newLength_cabcc, Cond.static yJ8_newLength_cabcc, Cond.initialized RJ8, Cond.code yJ8_newLength_cabcc cJ8_newLength_cabcc 4 (some .int), Cond.methodLink RJ8 194 Lib.Math.max.name, Cond.constant RJ8 200 (2147483639)]
def wsX6_shape_r5 : List Cond := [Cond.methodLink RJ8 201 yJ8_hugeLength_7cf53, Cond.static yJ8_hugeLength_7cf53, Cond.code yJ8_hugeLength_7cf53 cJ8_hugeLength_7cf53 3 (some .int), Cond.methodLink RJx4a65c 66 yJ7_copyOf_1904c, Cond.static yJ7_copyOf_1904c, Cond.initialized RJ7, Cond.code yJ7_copyOf_1904c cJ7_copyOf_1904c 2 (some (.array (.object "java/lang/Object"))), Cond.methodLink RJ7 86 ⟨"java/lang/Object", "getClass", "()Ljava/lang/Class;"⟩, Cond.selects "[Ljava/lang/Object;" ⟨"java/lang/Object", "getClass", "()Ljava/lang/Class;"⟩ ⟨"java/lang/Object", "getClass", "()Ljava/lang/Class;"⟩, Cond.instanceMethod ⟨"java/lang/Object", "getClass", "()Ljava/lang/Class;"⟩, Cond.native ⟨"java/lang/Object", "getClass", "()Ljava/lang/Class;"⟩, Cond.methodLink RJ7 300 yJ7_copyOf_6403c, Cond.static yJ7_copyOf_6403c, Cond.code yJ7_copyOf_6403c cJ7_copyOf_6403c 4 (some (.array (.object "java/lang/Object"))), Cond.classLink RJ7 110 "[Ljava/lang/Object;", Cond.classLink RJ7 2 "java/lang/Object", Cond.methodLink RJ7 304 Lib.Math.min.name, Cond.static Lib.Math.min.name, Cond.code Lib.Math.min.name Lib.Math.min.code 2 (some .int), Cond.methodLink RJ7 150 arraycopyName, Cond.native arraycopyName, Cond.static arraycopyName, Cond.initialized "java/lang/System"]
def wsX6_shape : List Cond := .code yX6_shape cX6_shape 1 (some .int) :: ((wsX6_shape_r1 ++ (wsX6_shape_r2 ++ (wsX6_shape_r3 ++ (wsX6_shape_r4 ++ wsX6_shape_r5)))) ++ wsX60 ++ wsX50 ++ wsJx4a65c0 ++ (vx_atS RX6 58 "java/lang/IllegalStateException" ["java/lang/RuntimeException", "java/lang/Exception"]).filter goodWord)
def wsX6_needShape : List Cond := .code yX6_needShape cX6_needShape 2 none :: ([.classLink RX6 153 "java/lang/IndexOutOfBoundsException", .initialized "java/lang/IndexOutOfBoundsException", .fieldLink RX6 10 "ColourParts" "shapes" "Ljava/util/ArrayList;", .methodLink RX6 47 yJx4a65c_size_8abf5, .instanceMethod yJx4a65c_size_8abf5, .selects RJx4a65c yJx4a65c_size_8abf5 yJx4a65c_size_8abf5, .initialized RJx4a65c, .code yJx4a65c_size_8abf5 cJx4a65c_size_8abf5 1 (some .int), .fieldLink RJx4a65c 48 "java/util/ArrayList" "size" "I"] ++ wsX60 ++ wsJx4a65c0 ++ (vx_atS RX6 157 "java/lang/IndexOutOfBoundsException" ["java/lang/RuntimeException", "java/lang/Exception"]).filter goodWord)
def wsX6_isTooFar : List Cond := .code yX6_isTooFar cX6_isTooFar 2 (some .boolean) :: ([.constantLong RX6 226 (-1000000), .constantLong RX6 228 (1000000)])
def wsX6_findNearOnes_r1 : List Cond := [Cond.fieldLink RX6 10 "ColourParts" "shapes" "Ljava/util/ArrayList;", Cond.classLink RX6 61 "ColourParts$Shape", Cond.fieldLink RX6 76 "ColourParts$Shape" "boxes" "Ljava/util/ArrayList;", Cond.classLink RX6 175 "ColourParts$Box", Cond.fieldLink RX6 43 "ColourParts" "square" "J", Cond.fieldLink RX6 103 "ColourParts$Shape" "nearShapes" "I", Cond.methodLink RX6 72 yJx4a65c_get_915e3, Cond.instanceMethod yJx4a65c_get_915e3, Cond.selects RJx4a65c yJx4a65c_get_915e3 yJx4a65c_get_915e3, Cond.initialized RJx4a65c, Cond.code yJx4a65c_get_915e3 cJx4a65c_get_915e3 2 (some (.object "java/lang/Object")), Cond.fieldLink RJx4a65c 48 "java/util/ArrayList" "size" "I", Cond.methodLink RJx4a65c 118 yJ15_checkIndex_7cf53, Cond.static yJ15_checkIndex_7cf53, Cond.initialized RJ15, Cond.code yJ15_checkIndex_7cf53 cJ15_checkIndex_7cf53 2 (some .int), Cond.methodLink RJ15 105 yJ3_checkIndex_8e157, Cond.static yJ3_checkIndex_8e157, Cond.initialized RJ3, Cond.code yJ3_checkIndex_8e157 cJ3_checkIndex_8e157 3 (some .int), Cond.methodLink RJx4a65c 123 yJx4a65c_elementData_915e3, Cond.instanceMethod yJx4a65c_elementData_915e3, Cond.selects RJx4a65c yJx4a65c_elementData_915e3 yJx4a65c_elementData_915e3, Cond.code yJx4a65c_elementData_915e3 cJx4a65c_elementData_915e3 2 (some (.object "java/lang/Object"))]
def wsX6_findNearOnes_r2 : List Cond := [Cond.fieldLink RJx4a65c 9 "java/util/ArrayList" "elementData" "[Ljava/lang/Object;", Cond.methodLink RX6 230 yJx4a65c_isEmpty_aae02, Cond.instanceMethod yJx4a65c_isEmpty_aae02, Cond.selects RJx4a65c yJx4a65c_isEmpty_aae02 yJx4a65c_isEmpty_aae02, Cond.code yJx4a65c_isEmpty_aae02 cJx4a65c_isEmpty_aae02 1 (some .boolean), Cond.methodLink RX6 47 yJx4a65c_size_8abf5, Cond.instanceMethod yJx4a65c_size_8abf5, Cond.selects RJx4a65c yJx4a65c_size_8abf5 yJx4a65c_size_8abf5, Cond.code yJx4a65c_size_8abf5 cJx4a65c_size_8abf5 1 (some .int), Cond.methodLink RX6 233 yX0_isNearAny, Cond.instanceMethod yX0_isNearAny, Cond.selects RX0 yX0_isNearAny yX0_isNearAny, Cond.initialized RX0, Cond.code yX0_isNearAny cX0_isNearAny 5 (some .boolean), Cond.classLink RX0 8 "ColourParts$Box", Cond.methodLink RX0 22 yJx4a65c_size_8abf5, Cond.methodLink RX0 28 yJx4a65c_get_915e3, Cond.methodLink RX0 32 yX0_isNearBox, Cond.instanceMethod yX0_isNearBox, Cond.selects RX0 yX0_isNearBox yX0_isNearBox, Cond.code yX0_isNearBox cX0_isNearBox 8 (some .boolean), Cond.fieldLink RX0 7 "ColourParts$Box" "left" "J", Cond.fieldLink RX0 16 "ColourParts$Box" "right" "J", Cond.fieldLink RX0 13 "ColourParts$Box" "low" "J"]
def wsX6_findNearOnes_r3 : List Cond := [Cond.fieldLink RX0 19 "ColourParts$Box" "high" "J", Cond.methodLink RX0 36 yX0_gap, Cond.static yX0_gap, Cond.code yX0_gap cX0_gap 8 (some .long), Cond.methodLink RX0 40 Lib.MathLoose.max_long.x, Cond.static Lib.MathLoose.max_long.x, Cond.initialized "java/lang/Math", Cond.code Lib.MathLoose.max_long.x Lib.MathLoose.max_long.code 4 (some .long)]
def wsX6_findNearOnes : List Cond := .code yX6_findNearOnes cX6_findNearOnes 6 none :: ((wsX6_findNearOnes_r1 ++ (wsX6_findNearOnes_r2 ++ wsX6_findNearOnes_r3)) ++ wsX60 ++ wsX50 ++ wsJx4a65c0 ++ wsX00)
def wsX6_corner_r1 : List Cond := [Cond.classLink RX6 54 "java/lang/IllegalStateException", Cond.initialized "java/lang/IllegalStateException", Cond.classLink RX6 88 "java/lang/IllegalArgumentException", Cond.initialized "java/lang/IllegalArgumentException", Cond.fieldLink RX6 10 "ColourParts" "shapes" "Ljava/util/ArrayList;", Cond.classLink RX6 61 "ColourParts$Shape", Cond.fieldLink RX6 76 "ColourParts$Shape" "boxes" "Ljava/util/ArrayList;", Cond.fieldLink RX6 79 "ColourParts$Shape" "stitchCount" "I", Cond.methodLink RX6 68 yX6_needShape, Cond.instanceMethod yX6_needShape, Cond.selects RX6 yX6_needShape yX6_needShape, Cond.initialized RX6, Cond.code yX6_needShape cX6_needShape 2 none, Cond.classLink RX6 153 "java/lang/IndexOutOfBoundsException", Cond.initialized "java/lang/IndexOutOfBoundsException", Cond.methodLink RX6 47 yJx4a65c_size_8abf5, Cond.instanceMethod yJx4a65c_size_8abf5, Cond.selects RJx4a65c yJx4a65c_size_8abf5 yJx4a65c_size_8abf5, Cond.initialized RJx4a65c, Cond.code yJx4a65c_size_8abf5 cJx4a65c_size_8abf5 1 (some .int), Cond.fieldLink RJx4a65c 48 "java/util/ArrayList" "size" "I", Cond.methodLink RX6 72 yJx4a65c_get_915e3, Cond.instanceMethod yJx4a65c_get_915e3, Cond.selects RJx4a65c yJx4a65c_get_915e3 yJx4a65c_get_915e3]
def wsX6_corner_r2 : List Cond := [Cond.code yJx4a65c_get_915e3 cJx4a65c_get_915e3 2 (some (.object "java/lang/Object")), Cond.methodLink RJx4a65c 118 yJ15_checkIndex_7cf53, Cond.static yJ15_checkIndex_7cf53, Cond.initialized RJ15, Cond.code yJ15_checkIndex_7cf53 cJ15_checkIndex_7cf53 2 (some .int), Cond.methodLink RJ15 105 yJ3_checkIndex_8e157, Cond.static yJ3_checkIndex_8e157, Cond.initialized RJ3, Cond.code yJ3_checkIndex_8e157 cJ3_checkIndex_8e157 3 (some .int), Cond.methodLink RJx4a65c 123 yJx4a65c_elementData_915e3, Cond.instanceMethod yJx4a65c_elementData_915e3, Cond.selects RJx4a65c yJx4a65c_elementData_915e3 yJx4a65c_elementData_915e3, Cond.code yJx4a65c_elementData_915e3 cJx4a65c_elementData_915e3 2 (some (.object "java/lang/Object")), Cond.fieldLink RJx4a65c 9 "java/util/ArrayList" "elementData" "[Ljava/lang/Object;", Cond.methodLink RX6 84 yX6_isTooFar, Cond.static yX6_isTooFar, Cond.code yX6_isTooFar cX6_isTooFar 2 (some .boolean), Cond.constantLong RX6 226 (-1000000), Cond.constantLong RX6 228 (1000000), Cond.methodLink RX6 93 yX5_addCorner, Cond.instanceMethod yX5_addCorner, Cond.selects RX5 yX5_addCorner yX5_addCorner, Cond.initialized RX5, Cond.code yX5_addCorner cX5_addCorner 5 (some .boolean)]
def wsX6_corner_r3 : List Cond := [Cond.fieldLink RX5 36 "ColourParts$Shape" "half" "Z", Cond.fieldLink RX5 12 "ColourParts$Shape" "boxes" "Ljava/util/ArrayList;", Cond.classLink RX5 50 RX0, Cond.instantiable RX0 4, Cond.initialized RX0, Cond.fieldLink RX5 39 "ColourParts$Shape" "halfX" "J", Cond.methodLink RX5 52 Lib.MathLoose.min_long.x, Cond.static Lib.MathLoose.min_long.x, Cond.initialized "java/lang/Math", Cond.code Lib.MathLoose.min_long.x Lib.MathLoose.min_long.code 4 (some .long), Cond.fieldLink RX5 43 "ColourParts$Shape" "halfY" "J", Cond.methodLink RX5 58 Lib.MathLoose.max_long.x, Cond.static Lib.MathLoose.max_long.x, Cond.code Lib.MathLoose.max_long.x Lib.MathLoose.max_long.code 4 (some .long), Cond.methodLink RX5 61 yX0_init, Cond.instanceMethod yX0_init, Cond.code yX0_init cX0_init 9 none, Cond.methodLink RX0 1 objectInit, Cond.instanceMethod objectInit, Cond.code objectInit ⟨#[0xb1]⟩ 1 none, Cond.fieldLink RX0 7 "ColourParts$Box" "left" "J", Cond.fieldLink RX0 13 "ColourParts$Box" "low" "J", Cond.fieldLink RX0 16 "ColourParts$Box" "right" "J", Cond.fieldLink RX0 19 "ColourParts$Box" "high" "J"]
def wsX6_corner_r4 : List Cond := [Cond.methodLink RX5 64 yJx4a65c_add_9ea2d, Cond.instanceMethod yJx4a65c_add_9ea2d, Cond.selects RJx4a65c yJx4a65c_add_9ea2d yJx4a65c_add_9ea2d, Cond.code yJx4a65c_add_9ea2d cJx4a65c_add_9ea2d 2 (some .boolean), Cond.fieldLink RJx4a65c 63 "java/util/ArrayList" "modCount" "I", Cond.sameField "java/util/ArrayList" "java/util/AbstractList" "modCount" "I", Cond.methodLink RJx4a65c 131 yJx4a65c_add_72be8, Cond.instanceMethod yJx4a65c_add_72be8, Cond.selects RJx4a65c yJx4a65c_add_72be8 yJx4a65c_add_72be8, Cond.code yJx4a65c_add_72be8 cJx4a65c_add_72be8 4 none, Cond.methodLink RJx4a65c 129 yJx4a65c_grow_d5877, Cond.instanceMethod yJx4a65c_grow_d5877, Cond.selects RJx4a65c yJx4a65c_grow_d5877 yJx4a65c_grow_d5877, Cond.code yJx4a65c_grow_d5877 cJx4a65c_grow_d5877 1 (some (.array (.object "java/lang/Object"))), Cond.methodLink RJx4a65c 69 yJx4a65c_grow_92f84, Cond.instanceMethod yJx4a65c_grow_92f84, Cond.selects RJx4a65c yJx4a65c_grow_92f84 yJx4a65c_grow_92f84, Cond.code yJx4a65c_grow_92f84 cJx4a65c_grow_92f84 4 (some (.array (.object "java/lang/Object"))), Cond.fieldLink RJx4a65c 39 "java/util/ArrayList" "DEFAULTCAPACITY_EMPTY_ELEMENTDATA" "[Ljava/lang/Object;", Cond.methodLink RJx4a65c 79 Lib.Math.max.name, Cond.static Lib.Math.max.name, Cond.code Lib.Math.max.name Lib.Math.max.code 2 (some .int), Cond.classLink RJx4a65c 7 "java/lang/Object", Cond.methodLink RJx4a65c 73 yJ8_newLength_cabcc]
def wsX6_corner_r5 : List Cond := [Cond.static yJ8_newLength_cabcc, Cond.initialized RJ8, Cond.code yJ8_newLength_cabcc cJ8_newLength_cabcc 4 (some .int), Cond.methodLink RJ8 194 Lib.Math.max.name, Cond.constant RJ8 200 (2147483639), Cond.methodLink RJ8 201 yJ8_hugeLength_7cf53, Cond.static yJ8_hugeLength_7cf53, Cond.code yJ8_hugeLength_7cf53 cJ8_hugeLength_7cf53 3 (some .int), Cond.methodLink RJx4a65c 66 yJ7_copyOf_1904c, Cond.static yJ7_copyOf_1904c, Cond.initialized RJ7, Cond.code yJ7_copyOf_1904c cJ7_copyOf_1904c 2 (some (.array (.object "java/lang/Object"))), Cond.methodLink RJ7 86 ⟨"java/lang/Object", "getClass", "()Ljava/lang/Class;"⟩, Cond.selects "[Ljava/lang/Object;" ⟨"java/lang/Object", "getClass", "()Ljava/lang/Class;"⟩ ⟨"java/lang/Object", "getClass", "()Ljava/lang/Class;"⟩, Cond.instanceMethod ⟨"java/lang/Object", "getClass", "()Ljava/lang/Class;"⟩, Cond.native ⟨"java/lang/Object", "getClass", "()Ljava/lang/Class;"⟩, Cond.methodLink RJ7 300 yJ7_copyOf_6403c, Cond.static yJ7_copyOf_6403c, Cond.code yJ7_copyOf_6403c cJ7_copyOf_6403c 4 (some (.array (.object "java/lang/Object"))), Cond.classLink RJ7 110 "[Ljava/lang/Object;", Cond.classLink RJ7 2 "java/lang/Object", Cond.methodLink RJ7 304 Lib.Math.min.name, Cond.static Lib.Math.min.name, Cond.code Lib.Math.min.name Lib.Math.min.code 2 (some .int)]
def wsX6_corner_r6 : List Cond := [Cond.methodLink RJ7 150 arraycopyName, Cond.native arraycopyName, Cond.static arraycopyName, Cond.initialized "java/lang/System", Cond.methodLink RX6 97 yX6_findNearOnes, Cond.instanceMethod yX6_findNearOnes, Cond.selects RX6 yX6_findNearOnes yX6_findNearOnes, Cond.code yX6_findNearOnes cX6_findNearOnes 6 none, Cond.classLink RX6 175 "ColourParts$Box", Cond.fieldLink RX6 43 "ColourParts" "square" "J", Cond.fieldLink RX6 103 "ColourParts$Shape" "nearShapes" "I", Cond.methodLink RX6 230 yJx4a65c_isEmpty_aae02, Cond.instanceMethod yJx4a65c_isEmpty_aae02, Cond.selects RJx4a65c yJx4a65c_isEmpty_aae02 yJx4a65c_isEmpty_aae02, Cond.code yJx4a65c_isEmpty_aae02 cJx4a65c_isEmpty_aae02 1 (some .boolean), Cond.methodLink RX6 233 yX0_isNearAny, Cond.instanceMethod yX0_isNearAny, Cond.selects RX0 yX0_isNearAny yX0_isNearAny, Cond.code yX0_isNearAny cX0_isNearAny 5 (some .boolean), Cond.classLink RX0 8 "ColourParts$Box", Cond.methodLink RX0 22 yJx4a65c_size_8abf5, Cond.methodLink RX0 28 yJx4a65c_get_915e3, Cond.methodLink RX0 32 yX0_isNearBox, Cond.instanceMethod yX0_isNearBox]
def wsX6_corner_r7 : List Cond := [Cond.selects RX0 yX0_isNearBox yX0_isNearBox, Cond.code yX0_isNearBox cX0_isNearBox 8 (some .boolean), Cond.methodLink RX0 36 yX0_gap, Cond.static yX0_gap, Cond.code yX0_gap cX0_gap 8 (some .long), Cond.methodLink RX0 40 Lib.MathLoose.max_long.x]
def wsX6_corner : List Cond := .code yX6_corner cX6_corner 8 (some .boolean) :: ((wsX6_corner_r1 ++ (wsX6_corner_r2 ++ (wsX6_corner_r3 ++ (wsX6_corner_r4 ++ (wsX6_corner_r5 ++ (wsX6_corner_r6 ++ wsX6_corner_r7)))))) ++ wsX60 ++ wsX50 ++ wsJx4a65c0 ++ wsX00 ++ (vx_atS RX6 58 "java/lang/IllegalStateException" ["java/lang/RuntimeException", "java/lang/Exception"]).filter goodWord ++ (vx_atS RX6 92 "java/lang/IllegalArgumentException" ["java/lang/RuntimeException", "java/lang/Exception"]).filter goodWord ++ (vx_atS RX6 157 "java/lang/IndexOutOfBoundsException" ["java/lang/RuntimeException", "java/lang/Exception"]).filter goodWord)
def wsX6_needNoneOpen_r1 : List Cond := [Cond.classLink RX6 54 "java/lang/IllegalStateException", Cond.initialized "java/lang/IllegalStateException", Cond.fieldLink RX6 10 "ColourParts" "shapes" "Ljava/util/ArrayList;", Cond.classLink RX6 61 "ColourParts$Shape", Cond.methodLink RX6 47 yJx4a65c_size_8abf5, Cond.instanceMethod yJx4a65c_size_8abf5, Cond.selects RJx4a65c yJx4a65c_size_8abf5 yJx4a65c_size_8abf5, Cond.initialized RJx4a65c, Cond.code yJx4a65c_size_8abf5 cJx4a65c_size_8abf5 1 (some .int), Cond.fieldLink RJx4a65c 48 "java/util/ArrayList" "size" "I", Cond.methodLink RX6 72 yJx4a65c_get_915e3, Cond.instanceMethod yJx4a65c_get_915e3, Cond.selects RJx4a65c yJx4a65c_get_915e3 yJx4a65c_get_915e3, Cond.code yJx4a65c_get_915e3 cJx4a65c_get_915e3 2 (some (.object "java/lang/Object")), Cond.methodLink RJx4a65c 118 yJ15_checkIndex_7cf53, Cond.static yJ15_checkIndex_7cf53, Cond.initialized RJ15, Cond.code yJ15_checkIndex_7cf53 cJ15_checkIndex_7cf53 2 (some .int), Cond.methodLink RJ15 105 yJ3_checkIndex_8e157, Cond.static yJ3_checkIndex_8e157, Cond.initialized RJ3, Cond.code yJ3_checkIndex_8e157 cJ3_checkIndex_8e157 3 (some .int), Cond.methodLink RJx4a65c 123 yJx4a65c_elementData_915e3, Cond.instanceMethod yJx4a65c_elementData_915e3]
def wsX6_needNoneOpen_r2 : List Cond := [Cond.selects RJx4a65c yJx4a65c_elementData_915e3 yJx4a65c_elementData_915e3, Cond.code yJx4a65c_elementData_915e3 cJx4a65c_elementData_915e3 2 (some (.object "java/lang/Object")), Cond.fieldLink RJx4a65c 9 "java/util/ArrayList" "elementData" "[Ljava/lang/Object;", Cond.methodLink RX6 221 yX5_isOpen, Cond.instanceMethod yX5_isOpen, Cond.selects RX5 yX5_isOpen yX5_isOpen, Cond.initialized RX5, Cond.code yX5_isOpen cX5_isOpen 1 (some .boolean), Cond.fieldLink RX5 36 "ColourParts$Shape" "half" "Z", Cond.fieldLink RX5 12 "ColourParts$Shape" "boxes" "Ljava/util/ArrayList;", Cond.methodLink RX5 46 yJx4a65c_isEmpty_aae02, Cond.instanceMethod yJx4a65c_isEmpty_aae02, Cond.selects RJx4a65c yJx4a65c_isEmpty_aae02 yJx4a65c_isEmpty_aae02, Cond.code yJx4a65c_isEmpty_aae02 cJx4a65c_isEmpty_aae02 1 (some .boolean)]
def wsX6_needNoneOpen : List Cond := .code yX6_needNoneOpen cX6_needNoneOpen 2 none :: ((wsX6_needNoneOpen_r1 ++ wsX6_needNoneOpen_r2) ++ wsX60 ++ wsJx4a65c0 ++ wsX50 ++ (vx_atS RX6 58 "java/lang/IllegalStateException" ["java/lang/RuntimeException", "java/lang/Exception"]).filter goodWord)
def wsJ6_bitCount_0f7a4 : List Cond := .code yJ6_bitCount_0f7a4 cJ6_bitCount_0f7a4 1 (some .int) :: ([.constant RJ6 265 (1431655765), .constant RJ6 266 (858993459), .constant RJ6 267 (252645135)])
def wsX6_near_r1 : List Cond := [Cond.fieldLink RX6 10 "ColourParts" "shapes" "Ljava/util/ArrayList;", Cond.classLink RX6 61 "ColourParts$Shape", Cond.fieldLink RX6 103 "ColourParts$Shape" "nearShapes" "I", Cond.methodLink RX6 100 yX6_needNoneOpen, Cond.instanceMethod yX6_needNoneOpen, Cond.selects RX6 yX6_needNoneOpen yX6_needNoneOpen, Cond.initialized RX6, Cond.code yX6_needNoneOpen cX6_needNoneOpen 2 none, Cond.classLink RX6 54 "java/lang/IllegalStateException", Cond.initialized "java/lang/IllegalStateException", Cond.methodLink RX6 47 yJx4a65c_size_8abf5, Cond.instanceMethod yJx4a65c_size_8abf5, Cond.selects RJx4a65c yJx4a65c_size_8abf5 yJx4a65c_size_8abf5, Cond.initialized RJx4a65c, Cond.code yJx4a65c_size_8abf5 cJx4a65c_size_8abf5 1 (some .int), Cond.fieldLink RJx4a65c 48 "java/util/ArrayList" "size" "I", Cond.methodLink RX6 72 yJx4a65c_get_915e3, Cond.instanceMethod yJx4a65c_get_915e3, Cond.selects RJx4a65c yJx4a65c_get_915e3 yJx4a65c_get_915e3, Cond.code yJx4a65c_get_915e3 cJx4a65c_get_915e3 2 (some (.object "java/lang/Object")), Cond.methodLink RJx4a65c 118 yJ15_checkIndex_7cf53, Cond.static yJ15_checkIndex_7cf53, Cond.initialized RJ15, Cond.code yJ15_checkIndex_7cf53 cJ15_checkIndex_7cf53 2 (some .int)]
def wsX6_near_r2 : List Cond := [Cond.methodLink RJ15 105 yJ3_checkIndex_8e157, Cond.static yJ3_checkIndex_8e157, Cond.initialized RJ3, Cond.code yJ3_checkIndex_8e157 cJ3_checkIndex_8e157 3 (some .int), Cond.methodLink RJx4a65c 123 yJx4a65c_elementData_915e3, Cond.instanceMethod yJx4a65c_elementData_915e3, Cond.selects RJx4a65c yJx4a65c_elementData_915e3 yJx4a65c_elementData_915e3, Cond.code yJx4a65c_elementData_915e3 cJx4a65c_elementData_915e3 2 (some (.object "java/lang/Object")), Cond.fieldLink RJx4a65c 9 "java/util/ArrayList" "elementData" "[Ljava/lang/Object;", Cond.methodLink RX6 221 yX5_isOpen, Cond.instanceMethod yX5_isOpen, Cond.selects RX5 yX5_isOpen yX5_isOpen, Cond.initialized RX5, Cond.code yX5_isOpen cX5_isOpen 1 (some .boolean), Cond.fieldLink RX5 36 "ColourParts$Shape" "half" "Z", Cond.fieldLink RX5 12 "ColourParts$Shape" "boxes" "Ljava/util/ArrayList;", Cond.methodLink RX5 46 yJx4a65c_isEmpty_aae02, Cond.instanceMethod yJx4a65c_isEmpty_aae02, Cond.selects RJx4a65c yJx4a65c_isEmpty_aae02 yJx4a65c_isEmpty_aae02, Cond.code yJx4a65c_isEmpty_aae02 cJx4a65c_isEmpty_aae02 1 (some .boolean), Cond.methodLink RX6 106 yJ6_bitCount_0f7a4, Cond.static yJ6_bitCount_0f7a4, Cond.initialized RJ6, Cond.code yJ6_bitCount_0f7a4 cJ6_bitCount_0f7a4 1 (some .int)]
def wsX6_near_r3 : List Cond := [Cond.constant RJ6 265 (1431655765), Cond.constant RJ6 266 (858993459), Cond.constant RJ6 267 (252645135)]
def wsX6_near : List Cond := .code yX6_near cX6_near 3 (some .int) :: ((wsX6_near_r1 ++ (wsX6_near_r2 ++ wsX6_near_r3)) ++ wsX60 ++ wsX50 ++ wsJx4a65c0 ++ (vx_atS RX6 58 "java/lang/IllegalStateException" ["java/lang/RuntimeException", "java/lang/Exception"]).filter goodWord)
def wsX6_cutShapes_r1 : List Cond := [Cond.classLink RX6 119 RX3, Cond.instantiable RX3 1, Cond.initialized RX3, Cond.fieldLink RX6 10 "ColourParts" "shapes" "Ljava/util/ArrayList;", Cond.classLink RX6 61 "ColourParts$Shape", Cond.fieldLink RX6 79 "ColourParts$Shape" "stitchCount" "I", Cond.fieldLink RX6 164 "ColourParts$Shape" "told" "I", Cond.instanceMethod yX3_init, Cond.code yX3_init cX3_init 1 none, Cond.methodLink RX3 3 objectInit, Cond.instanceMethod objectInit, Cond.code objectInit ⟨#[0xb1]⟩ 1 none, Cond.classLink RX3 9 RJx4a65c, Cond.instantiable RJx4a65c 3, Cond.initialized RJx4a65c, Cond.fieldLink RX3 12 "ColourParts$Pieces" "row" "Ljava/util/ArrayList;", Cond.methodLink RX3 11 yJx4a65c_init_da8c8, Cond.instanceMethod yJx4a65c_init_da8c8, Cond.code yJx4a65c_init_da8c8 cJx4a65c_init_da8c8 1 none, Cond.fieldLink RJx4a65c 39 "java/util/ArrayList" "DEFAULTCAPACITY_EMPTY_ELEMENTDATA" "[Ljava/lang/Object;", Cond.fieldLink RJx4a65c 9 "java/util/ArrayList" "elementData" "[Ljava/lang/Object;", Cond.methodLink RJx4a65c 1 yJxc12de_init_da8c8, Cond.instanceMethod yJxc12de_init_da8c8, Cond.initialized RJxc12de]
def wsX6_cutShapes_r2 : List Cond := [Cond.code yJxc12de_init_da8c8 cJxc12de_init_da8c8 1 none, Cond.fieldLink RJxc12de 7 "java/util/AbstractList" "modCount" "I", Cond.methodLink RJxc12de 1 yJxa1e45_init_da8c8, Cond.instanceMethod yJxa1e45_init_da8c8, Cond.initialized RJxa1e45, Cond.code yJxa1e45_init_da8c8 cJxa1e45_init_da8c8 1 none, Cond.methodLink RJxa1e45 1 objectInit, Cond.methodLink RX6 47 yJx4a65c_size_8abf5, Cond.instanceMethod yJx4a65c_size_8abf5, Cond.selects RJx4a65c yJx4a65c_size_8abf5 yJx4a65c_size_8abf5, Cond.code yJx4a65c_size_8abf5 cJx4a65c_size_8abf5 1 (some .int), Cond.fieldLink RJx4a65c 48 "java/util/ArrayList" "size" "I", Cond.methodLink RX6 72 yJx4a65c_get_915e3, Cond.instanceMethod yJx4a65c_get_915e3, Cond.selects RJx4a65c yJx4a65c_get_915e3 yJx4a65c_get_915e3, Cond.code yJx4a65c_get_915e3 cJx4a65c_get_915e3 2 (some (.object "java/lang/Object")), Cond.methodLink RJx4a65c 118 yJ15_checkIndex_7cf53, Cond.static yJ15_checkIndex_7cf53, Cond.initialized RJ15, Cond.code yJ15_checkIndex_7cf53 cJ15_checkIndex_7cf53 2 (some .int), Cond.methodLink RJ15 105 yJ3_checkIndex_8e157, Cond.static yJ3_checkIndex_8e157, Cond.initialized RJ3, Cond.code yJ3_checkIndex_8e157 cJ3_checkIndex_8e157 3 (some .int)]
def wsX6_cutShapes_r3 : List Cond := [Cond.methodLink RJx4a65c 123 yJx4a65c_elementData_915e3, Cond.instanceMethod yJx4a65c_elementData_915e3, Cond.selects RJx4a65c yJx4a65c_elementData_915e3 yJx4a65c_elementData_915e3, Cond.code yJx4a65c_elementData_915e3 cJx4a65c_elementData_915e3 2 (some (.object "java/lang/Object")), Cond.methodLink RX6 238 yX5_pieceBoxes, Cond.instanceMethod yX5_pieceBoxes, Cond.selects RX5 yX5_pieceBoxes yX5_pieceBoxes, Cond.initialized RX5, Cond.code yX5_pieceBoxes cX5_pieceBoxes 3 (some (.object "java/util/ArrayList")), Cond.fieldLink RX5 22 "ColourParts$Shape" "stitchCount" "I", Cond.fieldLink RX5 12 "ColourParts$Shape" "boxes" "Ljava/util/ArrayList;", Cond.classLink RX5 9 RJx4a65c, Cond.classLink RX5 50 "ColourParts$Box", Cond.methodLink RX5 46 yJx4a65c_isEmpty_aae02, Cond.instanceMethod yJx4a65c_isEmpty_aae02, Cond.selects RJx4a65c yJx4a65c_isEmpty_aae02 yJx4a65c_isEmpty_aae02, Cond.code yJx4a65c_isEmpty_aae02 cJx4a65c_isEmpty_aae02 1 (some .boolean), Cond.methodLink RX5 11 yJx4a65c_init_da8c8, Cond.methodLink RX5 68 yJx4a65c_get_915e3, Cond.methodLink RX5 72 yX5_cutBox, Cond.instanceMethod yX5_cutBox, Cond.selects RX5 yX5_cutBox yX5_cutBox, Cond.code yX5_cutBox cX5_cutBox 5 (some (.object "ColourParts$Box")), Cond.fieldLink RX5 26 "ColourParts$Shape" "standing" "Z"]
def wsX6_cutShapes_r4 : List Cond := [Cond.classLink RX5 50 RX0, Cond.instantiable RX0 4, Cond.initialized RX0, Cond.fieldLink RX5 18 "ColourParts$Shape" "places" "[J", Cond.fieldLink RX5 76 "ColourParts$Box" "left" "J", Cond.fieldLink RX5 79 "ColourParts$Box" "low" "J", Cond.fieldLink RX5 82 "ColourParts$Box" "right" "J", Cond.fieldLink RX5 85 "ColourParts$Box" "high" "J", Cond.methodLink RX5 61 yX0_init, Cond.instanceMethod yX0_init, Cond.code yX0_init cX0_init 9 none, Cond.methodLink RX0 1 objectInit, Cond.fieldLink RX0 7 "ColourParts$Box" "left" "J", Cond.fieldLink RX0 13 "ColourParts$Box" "low" "J", Cond.fieldLink RX0 16 "ColourParts$Box" "right" "J", Cond.fieldLink RX0 19 "ColourParts$Box" "high" "J", Cond.methodLink RX5 64 yJx4a65c_add_9ea2d, Cond.instanceMethod yJx4a65c_add_9ea2d, Cond.selects RJx4a65c yJx4a65c_add_9ea2d yJx4a65c_add_9ea2d, Cond.code yJx4a65c_add_9ea2d cJx4a65c_add_9ea2d 2 (some .boolean), Cond.fieldLink RJx4a65c 63 "java/util/ArrayList" "modCount" "I", Cond.sameField "java/util/ArrayList" "java/util/AbstractList" "modCount" "I", Cond.methodLink RJx4a65c 131 yJx4a65c_add_72be8, Cond.instanceMethod yJx4a65c_add_72be8]
def wsX6_cutShapes_r5 : List Cond := [Cond.selects RJx4a65c yJx4a65c_add_72be8 yJx4a65c_add_72be8, Cond.code yJx4a65c_add_72be8 cJx4a65c_add_72be8 4 none, Cond.methodLink RJx4a65c 129 yJx4a65c_grow_d5877, Cond.instanceMethod yJx4a65c_grow_d5877, Cond.selects RJx4a65c yJx4a65c_grow_d5877 yJx4a65c_grow_d5877, Cond.code yJx4a65c_grow_d5877 cJx4a65c_grow_d5877 1 (some (.array (.object "java/lang/Object"))), Cond.methodLink RJx4a65c 69 yJx4a65c_grow_92f84, Cond.instanceMethod yJx4a65c_grow_92f84, Cond.selects RJx4a65c yJx4a65c_grow_92f84 yJx4a65c_grow_92f84, Cond.code yJx4a65c_grow_92f84 cJx4a65c_grow_92f84 4 (some (.array (.object "java/lang/Object"))), Cond.methodLink RJx4a65c 79 Lib.Math.max.name, Cond.static Lib.Math.max.name, Cond.initialized "java/lang/Math", Cond.code Lib.Math.max.name Lib.Math.max.code 2 (some .int), Cond.classLink RJx4a65c 7 "java/lang/Object", Cond.methodLink RJx4a65c 73 yJ8_newLength_cabcc, Cond.static yJ8_newLength_cabcc, Cond.initialized RJ8, Cond.code yJ8_newLength_cabcc cJ8_newLength_cabcc 4 (some .int), Cond.methodLink RJ8 194 Lib.Math.max.name, Cond.constant RJ8 200 (2147483639), Cond.methodLink RJ8 201 yJ8_hugeLength_7cf53, Cond.static yJ8_hugeLength_7cf53, Cond.code yJ8_hugeLength_7cf53 cJ8_hugeLength_7cf53 3 (some .int)]
def wsX6_cutShapes_r6 : List Cond := [Cond.methodLink RJx4a65c 66 yJ7_copyOf_1904c, Cond.static yJ7_copyOf_1904c, Cond.initialized RJ7, Cond.code yJ7_copyOf_1904c cJ7_copyOf_1904c 2 (some (.array (.object "java/lang/Object"))), Cond.methodLink RJ7 86 ⟨"java/lang/Object", "getClass", "()Ljava/lang/Class;"⟩, Cond.selects "[Ljava/lang/Object;" ⟨"java/lang/Object", "getClass", "()Ljava/lang/Class;"⟩ ⟨"java/lang/Object", "getClass", "()Ljava/lang/Class;"⟩, Cond.instanceMethod ⟨"java/lang/Object", "getClass", "()Ljava/lang/Class;"⟩, Cond.native ⟨"java/lang/Object", "getClass", "()Ljava/lang/Class;"⟩, Cond.methodLink RJ7 300 yJ7_copyOf_6403c, Cond.static yJ7_copyOf_6403c, Cond.code yJ7_copyOf_6403c cJ7_copyOf_6403c 4 (some (.array (.object "java/lang/Object"))), Cond.classLink RJ7 110 "[Ljava/lang/Object;", Cond.classLink RJ7 2 "java/lang/Object", Cond.methodLink RJ7 304 Lib.Math.min.name, Cond.static Lib.Math.min.name, Cond.code Lib.Math.min.name Lib.Math.min.code 2 (some .int), Cond.methodLink RJ7 150 arraycopyName, Cond.native arraycopyName, Cond.static arraycopyName, Cond.initialized "java/lang/System", Cond.methodLink RX6 242 yX3_add, Cond.instanceMethod yX3_add, Cond.selects RX3 yX3_add yX3_add, Cond.code yX3_add cX3_add 4 none]
def wsX6_cutShapes_r7 : List Cond := [Cond.classLink RX3 22 RX2, Cond.instantiable RX2 4, Cond.initialized RX2, Cond.methodLink RX3 18 yJx4a65c_size_8abf5, Cond.methodLink RX3 24 yX2_init, Cond.instanceMethod yX2_init, Cond.code yX2_init cX2_init 4 none, Cond.methodLink RX2 1 objectInit, Cond.fieldLink RX2 7 "ColourParts$Piece" "nearPieces" "I", Cond.fieldLink RX2 13 "ColourParts$Piece" "owner" "I", Cond.fieldLink RX2 16 "ColourParts$Piece" "told" "I", Cond.fieldLink RX2 19 "ColourParts$Piece" "boxes" "Ljava/util/ArrayList;", Cond.methodLink RX3 27 yJx4a65c_add_9ea2d]
def wsX6_cutShapes : List Cond := .code yX6_cutShapes cX6_cutShapes 5 (some (.object "ColourParts$Pieces")) :: ((wsX6_cutShapes_r1 ++ (wsX6_cutShapes_r2 ++ (wsX6_cutShapes_r3 ++ (wsX6_cutShapes_r4 ++ (wsX6_cutShapes_r5 ++ (wsX6_cutShapes_r6 ++ wsX6_cutShapes_r7)))))) ++ wsX30 ++ wsX60 ++ wsX50 ++ wsJx4a65c0 ++ wsX00 ++ wsX20)
def wsX6_run_r1 : List Cond := [Cond.classLink RX6 88 "java/lang/IllegalArgumentException", Cond.initialized "java/lang/IllegalArgumentException", Cond.fieldLink RX6 28 "ColourParts" "latestClosed" "Z", Cond.fieldLink RX6 43 "ColourParts" "square" "J", Cond.classLink RX6 123 RX4, Cond.instantiable RX4 9, Cond.initialized RX4, Cond.fieldLink RX6 20 "ColourParts" "ringLength" "I", Cond.classLink RX6 135 RX1, Cond.instantiable RX1 6, Cond.initialized RX1, Cond.fieldLink RX6 137 "ColourParts$Search" "best" "[I", Cond.fieldLink RX6 140 "ColourParts$Search" "fewest" "I", Cond.fieldLink RX6 24 "ColourParts" "kept" "LColourParts$Colouring;", Cond.fieldLink RX6 16 "ColourParts" "ringShapes" "[I", Cond.methodLink RX6 100 yX6_needNoneOpen, Cond.instanceMethod yX6_needNoneOpen, Cond.selects RX6 yX6_needNoneOpen yX6_needNoneOpen, Cond.initialized RX6, Cond.code yX6_needNoneOpen cX6_needNoneOpen 2 none, Cond.classLink RX6 54 "java/lang/IllegalStateException", Cond.initialized "java/lang/IllegalStateException", Cond.fieldLink RX6 10 "ColourParts" "shapes" "Ljava/util/ArrayList;", Cond.classLink RX6 61 "ColourParts$Shape"]
def wsX6_run_r2 : List Cond := [Cond.methodLink RX6 47 yJx4a65c_size_8abf5, Cond.instanceMethod yJx4a65c_size_8abf5, Cond.selects RJx4a65c yJx4a65c_size_8abf5 yJx4a65c_size_8abf5, Cond.initialized RJx4a65c, Cond.code yJx4a65c_size_8abf5 cJx4a65c_size_8abf5 1 (some .int), Cond.fieldLink RJx4a65c 48 "java/util/ArrayList" "size" "I", Cond.methodLink RX6 72 yJx4a65c_get_915e3, Cond.instanceMethod yJx4a65c_get_915e3, Cond.selects RJx4a65c yJx4a65c_get_915e3 yJx4a65c_get_915e3, Cond.code yJx4a65c_get_915e3 cJx4a65c_get_915e3 2 (some (.object "java/lang/Object")), Cond.methodLink RJx4a65c 118 yJ15_checkIndex_7cf53, Cond.static yJ15_checkIndex_7cf53, Cond.initialized RJ15, Cond.code yJ15_checkIndex_7cf53 cJ15_checkIndex_7cf53 2 (some .int), Cond.methodLink RJ15 105 yJ3_checkIndex_8e157, Cond.static yJ3_checkIndex_8e157, Cond.initialized RJ3, Cond.code yJ3_checkIndex_8e157 cJ3_checkIndex_8e157 3 (some .int), Cond.methodLink RJx4a65c 123 yJx4a65c_elementData_915e3, Cond.instanceMethod yJx4a65c_elementData_915e3, Cond.selects RJx4a65c yJx4a65c_elementData_915e3 yJx4a65c_elementData_915e3, Cond.code yJx4a65c_elementData_915e3 cJx4a65c_elementData_915e3 2 (some (.object "java/lang/Object")), Cond.fieldLink RJx4a65c 9 "java/util/ArrayList" "elementData" "[Ljava/lang/Object;", Cond.methodLink RX6 221 yX5_isOpen]
def wsX6_run_r3 : List Cond := [Cond.instanceMethod yX5_isOpen, Cond.selects RX5 yX5_isOpen yX5_isOpen, Cond.initialized RX5, Cond.code yX5_isOpen cX5_isOpen 1 (some .boolean), Cond.fieldLink RX5 36 "ColourParts$Shape" "half" "Z", Cond.fieldLink RX5 12 "ColourParts$Shape" "boxes" "Ljava/util/ArrayList;", Cond.methodLink RX5 46 yJx4a65c_isEmpty_aae02, Cond.instanceMethod yJx4a65c_isEmpty_aae02, Cond.selects RJx4a65c yJx4a65c_isEmpty_aae02 yJx4a65c_isEmpty_aae02, Cond.code yJx4a65c_isEmpty_aae02 cJx4a65c_isEmpty_aae02 1 (some .boolean), Cond.methodLink RX6 51 yX6_countPieces, Cond.instanceMethod yX6_countPieces, Cond.selects RX6 yX6_countPieces yX6_countPieces, Cond.code yX6_countPieces cX6_countPieces 3 (some .int), Cond.fieldLink RX6 79 "ColourParts$Shape" "stitchCount" "I", Cond.methodLink RX6 114 yX6_cutShapes, Cond.instanceMethod yX6_cutShapes, Cond.selects RX6 yX6_cutShapes yX6_cutShapes, Cond.code yX6_cutShapes cX6_cutShapes 5 (some (.object "ColourParts$Pieces")), Cond.classLink RX6 119 RX3, Cond.instantiable RX3 1, Cond.initialized RX3, Cond.fieldLink RX6 164 "ColourParts$Shape" "told" "I", Cond.instanceMethod yX3_init]
def wsX6_run_r4 : List Cond := [Cond.code yX3_init cX3_init 1 none, Cond.methodLink RX3 3 objectInit, Cond.instanceMethod objectInit, Cond.code objectInit ⟨#[0xb1]⟩ 1 none, Cond.classLink RX3 9 RJx4a65c, Cond.instantiable RJx4a65c 3, Cond.fieldLink RX3 12 "ColourParts$Pieces" "row" "Ljava/util/ArrayList;", Cond.methodLink RX3 11 yJx4a65c_init_da8c8, Cond.instanceMethod yJx4a65c_init_da8c8, Cond.code yJx4a65c_init_da8c8 cJx4a65c_init_da8c8 1 none, Cond.fieldLink RJx4a65c 39 "java/util/ArrayList" "DEFAULTCAPACITY_EMPTY_ELEMENTDATA" "[Ljava/lang/Object;", Cond.methodLink RJx4a65c 1 yJxc12de_init_da8c8, Cond.instanceMethod yJxc12de_init_da8c8, Cond.initialized RJxc12de, Cond.code yJxc12de_init_da8c8 cJxc12de_init_da8c8 1 none, Cond.fieldLink RJxc12de 7 "java/util/AbstractList" "modCount" "I", Cond.methodLink RJxc12de 1 yJxa1e45_init_da8c8, Cond.instanceMethod yJxa1e45_init_da8c8, Cond.initialized RJxa1e45, Cond.code yJxa1e45_init_da8c8 cJxa1e45_init_da8c8 1 none, Cond.methodLink RJxa1e45 1 objectInit, Cond.methodLink RX6 238 yX5_pieceBoxes, Cond.instanceMethod yX5_pieceBoxes, Cond.selects RX5 yX5_pieceBoxes yX5_pieceBoxes]
def wsX6_run_r5 : List Cond := [Cond.code yX5_pieceBoxes cX5_pieceBoxes 3 (some (.object "java/util/ArrayList")), Cond.fieldLink RX5 22 "ColourParts$Shape" "stitchCount" "I", Cond.classLink RX5 9 RJx4a65c, Cond.classLink RX5 50 "ColourParts$Box", Cond.methodLink RX5 11 yJx4a65c_init_da8c8, Cond.methodLink RX5 68 yJx4a65c_get_915e3, Cond.methodLink RX5 72 yX5_cutBox, Cond.instanceMethod yX5_cutBox, Cond.selects RX5 yX5_cutBox yX5_cutBox, Cond.code yX5_cutBox cX5_cutBox 5 (some (.object "ColourParts$Box")), Cond.fieldLink RX5 26 "ColourParts$Shape" "standing" "Z", Cond.classLink RX5 50 RX0, Cond.instantiable RX0 4, Cond.initialized RX0, Cond.fieldLink RX5 18 "ColourParts$Shape" "places" "[J", Cond.fieldLink RX5 76 "ColourParts$Box" "left" "J", Cond.fieldLink RX5 79 "ColourParts$Box" "low" "J", Cond.fieldLink RX5 82 "ColourParts$Box" "right" "J", Cond.fieldLink RX5 85 "ColourParts$Box" "high" "J", Cond.methodLink RX5 61 yX0_init, Cond.instanceMethod yX0_init, Cond.code yX0_init cX0_init 9 none, Cond.methodLink RX0 1 objectInit, Cond.fieldLink RX0 7 "ColourParts$Box" "left" "J"]
def wsX6_run_r6 : List Cond := [Cond.fieldLink RX0 13 "ColourParts$Box" "low" "J", Cond.fieldLink RX0 16 "ColourParts$Box" "right" "J", Cond.fieldLink RX0 19 "ColourParts$Box" "high" "J", Cond.methodLink RX5 64 yJx4a65c_add_9ea2d, Cond.instanceMethod yJx4a65c_add_9ea2d, Cond.selects RJx4a65c yJx4a65c_add_9ea2d yJx4a65c_add_9ea2d, Cond.code yJx4a65c_add_9ea2d cJx4a65c_add_9ea2d 2 (some .boolean), Cond.fieldLink RJx4a65c 63 "java/util/ArrayList" "modCount" "I", Cond.sameField "java/util/ArrayList" "java/util/AbstractList" "modCount" "I", Cond.methodLink RJx4a65c 131 yJx4a65c_add_72be8, Cond.instanceMethod yJx4a65c_add_72be8, Cond.selects RJx4a65c yJx4a65c_add_72be8 yJx4a65c_add_72be8, Cond.code yJx4a65c_add_72be8 cJx4a65c_add_72be8 4 none, Cond.methodLink RJx4a65c 129 yJx4a65c_grow_d5877, Cond.instanceMethod yJx4a65c_grow_d5877, Cond.selects RJx4a65c yJx4a65c_grow_d5877 yJx4a65c_grow_d5877, Cond.code yJx4a65c_grow_d5877 cJx4a65c_grow_d5877 1 (some (.array (.object "java/lang/Object"))), Cond.methodLink RJx4a65c 69 yJx4a65c_grow_92f84, Cond.instanceMethod yJx4a65c_grow_92f84, Cond.selects RJx4a65c yJx4a65c_grow_92f84 yJx4a65c_grow_92f84, Cond.code yJx4a65c_grow_92f84 cJx4a65c_grow_92f84 4 (some (.array (.object "java/lang/Object"))), Cond.methodLink RJx4a65c 79 Lib.Math.max.name, Cond.static Lib.Math.max.name, Cond.initialized "java/lang/Math"]
def wsX6_run_r7 : List Cond := [Cond.code Lib.Math.max.name Lib.Math.max.code 2 (some .int), Cond.classLink RJx4a65c 7 "java/lang/Object", Cond.methodLink RJx4a65c 73 yJ8_newLength_cabcc, Cond.static yJ8_newLength_cabcc, Cond.initialized RJ8, Cond.code yJ8_newLength_cabcc cJ8_newLength_cabcc 4 (some .int), Cond.methodLink RJ8 194 Lib.Math.max.name, Cond.constant RJ8 200 (2147483639), Cond.methodLink RJ8 201 yJ8_hugeLength_7cf53, Cond.static yJ8_hugeLength_7cf53, Cond.code yJ8_hugeLength_7cf53 cJ8_hugeLength_7cf53 3 (some .int), Cond.methodLink RJx4a65c 66 yJ7_copyOf_1904c, Cond.static yJ7_copyOf_1904c, Cond.initialized RJ7, Cond.code yJ7_copyOf_1904c cJ7_copyOf_1904c 2 (some (.array (.object "java/lang/Object"))), Cond.methodLink RJ7 86 ⟨"java/lang/Object", "getClass", "()Ljava/lang/Class;"⟩, Cond.selects "[Ljava/lang/Object;" ⟨"java/lang/Object", "getClass", "()Ljava/lang/Class;"⟩ ⟨"java/lang/Object", "getClass", "()Ljava/lang/Class;"⟩, Cond.instanceMethod ⟨"java/lang/Object", "getClass", "()Ljava/lang/Class;"⟩, Cond.native ⟨"java/lang/Object", "getClass", "()Ljava/lang/Class;"⟩, Cond.methodLink RJ7 300 yJ7_copyOf_6403c, Cond.static yJ7_copyOf_6403c, Cond.code yJ7_copyOf_6403c cJ7_copyOf_6403c 4 (some (.array (.object "java/lang/Object"))), Cond.classLink RJ7 110 "[Ljava/lang/Object;", Cond.classLink RJ7 2 "java/lang/Object"]
def wsX6_run_r8 : List Cond := [Cond.methodLink RJ7 304 Lib.Math.min.name, Cond.static Lib.Math.min.name, Cond.code Lib.Math.min.name Lib.Math.min.code 2 (some .int), Cond.methodLink RJ7 150 arraycopyName, Cond.native arraycopyName, Cond.static arraycopyName, Cond.initialized "java/lang/System", Cond.methodLink RX6 242 yX3_add, Cond.instanceMethod yX3_add, Cond.selects RX3 yX3_add yX3_add, Cond.code yX3_add cX3_add 4 none, Cond.classLink RX3 22 RX2, Cond.instantiable RX2 4, Cond.initialized RX2, Cond.methodLink RX3 18 yJx4a65c_size_8abf5, Cond.methodLink RX3 24 yX2_init, Cond.instanceMethod yX2_init, Cond.code yX2_init cX2_init 4 none, Cond.methodLink RX2 1 objectInit, Cond.fieldLink RX2 7 "ColourParts$Piece" "nearPieces" "I", Cond.fieldLink RX2 13 "ColourParts$Piece" "owner" "I", Cond.fieldLink RX2 16 "ColourParts$Piece" "told" "I", Cond.fieldLink RX2 19 "ColourParts$Piece" "boxes" "Ljava/util/ArrayList;", Cond.methodLink RX3 27 yJx4a65c_add_9ea2d]
def wsX6_run_r9 : List Cond := [Cond.methodLink RX6 118 yX3_findNearOnes, Cond.instanceMethod yX3_findNearOnes, Cond.selects RX3 yX3_findNearOnes yX3_findNearOnes, Cond.code yX3_findNearOnes cX3_findNearOnes 7 none, Cond.classLink RX3 22 "ColourParts$Piece", Cond.fieldLink RX3 35 "ColourParts$Piece" "owner" "I", Cond.fieldLink RX3 42 "ColourParts$Piece" "nearPieces" "I", Cond.methodLink RX3 31 yJx4a65c_get_915e3, Cond.methodLink RX3 52 yX2_isNearPiece, Cond.instanceMethod yX2_isNearPiece, Cond.selects RX2 yX2_isNearPiece yX2_isNearPiece, Cond.code yX2_isNearPiece cX2_isNearPiece 5 (some .boolean), Cond.classLink RX2 33 "ColourParts$Box", Cond.methodLink RX2 23 yJx4a65c_size_8abf5, Cond.methodLink RX2 29 yJx4a65c_get_915e3, Cond.methodLink RX2 39 yX0_isNearAny, Cond.instanceMethod yX0_isNearAny, Cond.selects RX0 yX0_isNearAny yX0_isNearAny, Cond.code yX0_isNearAny cX0_isNearAny 5 (some .boolean), Cond.classLink RX0 8 "ColourParts$Box", Cond.methodLink RX0 22 yJx4a65c_size_8abf5, Cond.methodLink RX0 28 yJx4a65c_get_915e3, Cond.methodLink RX0 32 yX0_isNearBox, Cond.instanceMethod yX0_isNearBox]
def wsX6_run_r10 : List Cond := [Cond.selects RX0 yX0_isNearBox yX0_isNearBox, Cond.code yX0_isNearBox cX0_isNearBox 8 (some .boolean), Cond.methodLink RX0 36 yX0_gap, Cond.static yX0_gap, Cond.code yX0_gap cX0_gap 8 (some .long), Cond.methodLink RX0 40 Lib.MathLoose.max_long.x, Cond.static Lib.MathLoose.max_long.x, Cond.code Lib.MathLoose.max_long.x Lib.MathLoose.max_long.code 4 (some .long), Cond.methodLink RX6 125 yX4_init, Cond.instanceMethod yX4_init, Cond.code yX4_init cX4_init 4 none, Cond.methodLink RX4 3 objectInit, Cond.arrayClass .int, Cond.fieldLink RX4 9 "ColourParts$Search" "near" "[I", Cond.fieldLink RX4 15 "ColourParts$Search" "told" "[I", Cond.arrayClass .boolean, Cond.fieldLink RX4 18 "ColourParts$Search" "afterStitch" "[Z", Cond.fieldLink RX4 22 "ColourParts$Search" "holders" "[I", Cond.fieldLink RX4 25 "ColourParts$Search" "row" "[I", Cond.fieldLink RX4 28 "ColourParts$Search" "best" "[I", Cond.fieldLink RX4 31 "ColourParts$Search" "fewest" "I", Cond.methodLink RX4 35 Lib.Math.min.name, Cond.methodLink RX4 41 Lib.Math.max.name, Cond.fieldLink RX4 44 "ColourParts$Search" "colours" "I"]
def wsX6_run_r11 : List Cond := [Cond.fieldLink RX4 53 "ColourParts$Search" "count" "I", Cond.methodLink RX4 47 yX3_count, Cond.instanceMethod yX3_count, Cond.selects RX3 yX3_count yX3_count, Cond.code yX3_count cX3_count 1 (some .int), Cond.methodLink RX4 55 yX3_nearPieces, Cond.instanceMethod yX3_nearPieces, Cond.selects RX3 yX3_nearPieces yX3_nearPieces, Cond.code yX3_nearPieces cX3_nearPieces 2 (some .int), Cond.methodLink RX4 59 yX3_told, Cond.instanceMethod yX3_told, Cond.selects RX3 yX3_told yX3_told, Cond.code yX3_told cX3_told 2 (some .int), Cond.fieldLink RX3 39 "ColourParts$Piece" "told" "I", Cond.methodLink RX4 61 yX3_isAfterStitch, Cond.instanceMethod yX3_isAfterStitch, Cond.selects RX3 yX3_isAfterStitch yX3_isAfterStitch, Cond.code yX3_isAfterStitch cX3_isAfterStitch 2 (some .boolean), Cond.methodLink RX3 49 yX3_owner, Cond.instanceMethod yX3_owner, Cond.selects RX3 yX3_owner yX3_owner, Cond.code yX3_owner cX3_owner 2 (some .int), Cond.methodLink RX6 128 yX4_findBest, Cond.instanceMethod yX4_findBest]
def wsX6_run_r12 : List Cond := [Cond.selects RX4 yX4_findBest yX4_findBest, Cond.code yX4_findBest cX4_findBest 3 none, Cond.methodLink RX4 65 yX4_goOn, Cond.instanceMethod yX4_goOn, Cond.selects RX4 yX4_goOn yX4_goOn, Cond.code yX4_goOn cX4_goOn 7 none, Cond.methodLink RX4 72 arraycopyName, Cond.methodLink RX4 69 yX4_isDeadEnd, Cond.instanceMethod yX4_isDeadEnd, Cond.selects RX4 yX4_isDeadEnd yX4_isDeadEnd, Cond.code yX4_isDeadEnd cX4_isDeadEnd 5 (some .boolean), Cond.methodLink RX4 78 yX4_canHave, Cond.instanceMethod yX4_canHave, Cond.selects RX4 yX4_canHave yX4_canHave, Cond.code yX4_canHave cX4_canHave 3 (some .boolean), Cond.methodLink RX4 82 yX4_tryColour, Cond.instanceMethod yX4_tryColour, Cond.selects RX4 yX4_tryColour yX4_tryColour, Cond.code yX4_tryColour cX4_tryColour 7 none, Cond.methodLink RX6 131 yX4_isFound, Cond.instanceMethod yX4_isFound, Cond.selects RX4 yX4_isFound yX4_isFound, Cond.code yX4_isFound cX4_isFound 1 (some .boolean), Cond.methodLink RX6 143 yX1_init]
def wsX6_run_r13 : List Cond := [Cond.instanceMethod yX1_init, Cond.code yX1_init cX1_init 5 none, Cond.methodLink RX1 3 objectInit, Cond.fieldLink RX1 9 "ColourParts$Colouring" "firstColours" "[I", Cond.fieldLink RX1 15 "ColourParts$Colouring" "stitchCounts" "[I", Cond.fieldLink RX1 18 "ColourParts$Colouring" "usedStitches" "[I", Cond.fieldLink RX1 21 "ColourParts$Colouring" "pieceCounts" "[I", Cond.arrayClass .long, Cond.fieldLink RX1 24 "ColourParts$Colouring" "areas" "[J", Cond.fieldLink RX1 28 "ColourParts$Colouring" "usedInAll" "I", Cond.methodLink RX1 32 yX3_count, Cond.methodLink RX1 38 yX3_areas, Cond.instanceMethod yX3_areas, Cond.selects RX3 yX3_areas yX3_areas, Cond.code yX3_areas cX3_areas 2 (some .long), Cond.methodLink RX3 45 yX2_areas, Cond.instanceMethod yX2_areas, Cond.selects RX2 yX2_areas yX2_areas, Cond.code yX2_areas cX2_areas 4 (some .long), Cond.methodLink RX2 35 yX0_area, Cond.instanceMethod yX0_area, Cond.selects RX0 yX0_area yX0_area, Cond.code yX0_area cX0_area 1 (some .long), Cond.methodLink RX1 41 yX1_weigh]
def wsX6_run_r14 : List Cond := [Cond.instanceMethod yX1_weigh, Cond.selects RX1 yX1_weigh yX1_weigh, Cond.code yX1_weigh cX1_weigh 4 none, Cond.methodLink RX1 45 yX3_isAfterStitch, Cond.methodLink RX1 49 yX3_owner, Cond.methodLink RX1 53 yX1_noteStitch, Cond.instanceMethod yX1_noteStitch, Cond.selects RX1 yX1_noteStitch yX1_noteStitch, Cond.code yX1_noteStitch cX1_noteStitch 3 none, Cond.methodLink RX1 57 yX1_noteFirst, Cond.instanceMethod yX1_noteFirst, Cond.selects RX1 yX1_noteFirst yX1_noteFirst, Cond.code yX1_noteFirst cX1_noteFirst 3 none, Cond.methodLink RX6 146 yX3_findOddRing, Cond.instanceMethod yX3_findOddRing, Cond.selects RX3 yX3_findOddRing yX3_findOddRing, Cond.code yX3_findOddRing cX3_findOddRing 5 (some .int), Cond.methodLink RX3 56 yX3_fillWalks, Cond.instanceMethod yX3_fillWalks, Cond.selects RX3 yX3_fillWalks yX3_fillWalks, Cond.code yX3_fillWalks cX3_fillWalks 5 none, Cond.methodLink RX3 64 yX3_nearAnyOf, Cond.instanceMethod yX3_nearAnyOf, Cond.selects RX3 yX3_nearAnyOf yX3_nearAnyOf]
def wsX6_run_r15 : List Cond := [Cond.code yX3_nearAnyOf cX3_nearAnyOf 4 (some .int), Cond.methodLink RX3 67 yX3_nearPieces, Cond.methodLink RX3 60 yX3_writeLeastRing, Cond.instanceMethod yX3_writeLeastRing, Cond.selects RX3 yX3_writeLeastRing yX3_writeLeastRing, Cond.code yX3_writeLeastRing cX3_writeLeastRing 7 none, Cond.methodLink RX3 69 yJ6_numberOfTrailingZeros_0f7a4, Cond.static yJ6_numberOfTrailingZeros_0f7a4, Cond.initialized RJ6, Cond.code yJ6_numberOfTrailingZeros_0f7a4 cJ6_numberOfTrailingZeros_0f7a4 2 (some .int), Cond.constant RJ6 264 (65536)]
def wsX6_run : List Cond := .code yX6_run cX6_run 6 (some .int) :: ((wsX6_run_r1 ++ (wsX6_run_r2 ++ (wsX6_run_r3 ++ (wsX6_run_r4 ++ (wsX6_run_r5 ++ (wsX6_run_r6 ++ (wsX6_run_r7 ++ (wsX6_run_r8 ++ (wsX6_run_r9 ++ (wsX6_run_r10 ++ (wsX6_run_r11 ++ (wsX6_run_r12 ++ (wsX6_run_r13 ++ (wsX6_run_r14 ++ wsX6_run_r15)))))))))))))) ++ wsX60 ++ wsX40 ++ wsX10 ++ wsJx4a65c0 ++ wsX50 ++ wsX30 ++ wsX00 ++ wsX20 ++ (vx_atS RX6 92 "java/lang/IllegalArgumentException" ["java/lang/RuntimeException", "java/lang/Exception"]).filter goodWord ++ (vx_atS RX6 58 "java/lang/IllegalStateException" ["java/lang/RuntimeException", "java/lang/Exception"]).filter goodWord)
def wsX6_colour : List Cond := .code yX6_colour cX6_colour 2 (some .int) :: ([.fieldLink RX6 24 "ColourParts" "kept" "LColourParts$Colouring;", .fieldLink RX6 150 "ColourParts$Colouring" "firstColours" "[I", .methodLink RX6 68 yX6_needShape, .instanceMethod yX6_needShape, .selects RX6 yX6_needShape yX6_needShape, .initialized RX6, .code yX6_needShape cX6_needShape 2 none, .classLink RX6 153 "java/lang/IndexOutOfBoundsException", .initialized "java/lang/IndexOutOfBoundsException", .fieldLink RX6 10 "ColourParts" "shapes" "Ljava/util/ArrayList;", .methodLink RX6 47 yJx4a65c_size_8abf5, .instanceMethod yJx4a65c_size_8abf5, .selects RJx4a65c yJx4a65c_size_8abf5 yJx4a65c_size_8abf5, .initialized RJx4a65c, .code yJx4a65c_size_8abf5 cJx4a65c_size_8abf5 1 (some .int), .fieldLink RJx4a65c 48 "java/util/ArrayList" "size" "I"] ++ wsX60 ++ wsX10 ++ wsJx4a65c0 ++ (vx_atS RX6 157 "java/lang/IndexOutOfBoundsException" ["java/lang/RuntimeException", "java/lang/Exception"]).filter goodWord)
def wsX6_ring : List Cond := .code yX6_ring cX6_ring 2 (some .int) :: ([.classLink RX6 153 "java/lang/IndexOutOfBoundsException", .initialized "java/lang/IndexOutOfBoundsException", .fieldLink RX6 20 "ColourParts" "ringLength" "I", .fieldLink RX6 16 "ColourParts" "ringShapes" "[I"] ++ wsX60 ++ (vx_atS RX6 157 "java/lang/IndexOutOfBoundsException" ["java/lang/RuntimeException", "java/lang/Exception"]).filter goodWord)
def wsX6_length : List Cond := .code yX6_length cX6_length 1 (some .int) :: ([.fieldLink RX6 20 "ColourParts" "ringLength" "I"] ++ wsX60)
def wsX6_isNoColour : List Cond := .code yX6_isNoColour cX6_isNoColour 1 (some .boolean) :: ([])
def wsX6_pre_r1 : List Cond := [Cond.classLink RX6 88 "java/lang/IllegalArgumentException", Cond.initialized "java/lang/IllegalArgumentException", Cond.fieldLink RX6 10 "ColourParts" "shapes" "Ljava/util/ArrayList;", Cond.classLink RX6 61 "ColourParts$Shape", Cond.fieldLink RX6 164 "ColourParts$Shape" "told" "I", Cond.methodLink RX6 68 yX6_needShape, Cond.instanceMethod yX6_needShape, Cond.selects RX6 yX6_needShape yX6_needShape, Cond.initialized RX6, Cond.code yX6_needShape cX6_needShape 2 none, Cond.classLink RX6 153 "java/lang/IndexOutOfBoundsException", Cond.initialized "java/lang/IndexOutOfBoundsException", Cond.methodLink RX6 47 yJx4a65c_size_8abf5, Cond.instanceMethod yJx4a65c_size_8abf5, Cond.selects RJx4a65c yJx4a65c_size_8abf5 yJx4a65c_size_8abf5, Cond.initialized RJx4a65c, Cond.code yJx4a65c_size_8abf5 cJx4a65c_size_8abf5 1 (some .int), Cond.fieldLink RJx4a65c 48 "java/util/ArrayList" "size" "I", Cond.methodLink RX6 100 yX6_needNoneOpen, Cond.instanceMethod yX6_needNoneOpen, Cond.selects RX6 yX6_needNoneOpen yX6_needNoneOpen, Cond.code yX6_needNoneOpen cX6_needNoneOpen 2 none, Cond.classLink RX6 54 "java/lang/IllegalStateException", Cond.initialized "java/lang/IllegalStateException"]
def wsX6_pre_r2 : List Cond := [Cond.methodLink RX6 72 yJx4a65c_get_915e3, Cond.instanceMethod yJx4a65c_get_915e3, Cond.selects RJx4a65c yJx4a65c_get_915e3 yJx4a65c_get_915e3, Cond.code yJx4a65c_get_915e3 cJx4a65c_get_915e3 2 (some (.object "java/lang/Object")), Cond.methodLink RJx4a65c 118 yJ15_checkIndex_7cf53, Cond.static yJ15_checkIndex_7cf53, Cond.initialized RJ15, Cond.code yJ15_checkIndex_7cf53 cJ15_checkIndex_7cf53 2 (some .int), Cond.methodLink RJ15 105 yJ3_checkIndex_8e157, Cond.static yJ3_checkIndex_8e157, Cond.initialized RJ3, Cond.code yJ3_checkIndex_8e157 cJ3_checkIndex_8e157 3 (some .int), Cond.methodLink RJx4a65c 123 yJx4a65c_elementData_915e3, Cond.instanceMethod yJx4a65c_elementData_915e3, Cond.selects RJx4a65c yJx4a65c_elementData_915e3 yJx4a65c_elementData_915e3, Cond.code yJx4a65c_elementData_915e3 cJx4a65c_elementData_915e3 2 (some (.object "java/lang/Object")), Cond.fieldLink RJx4a65c 9 "java/util/ArrayList" "elementData" "[Ljava/lang/Object;", Cond.methodLink RX6 221 yX5_isOpen, Cond.instanceMethod yX5_isOpen, Cond.selects RX5 yX5_isOpen yX5_isOpen, Cond.initialized RX5, Cond.code yX5_isOpen cX5_isOpen 1 (some .boolean), Cond.fieldLink RX5 36 "ColourParts$Shape" "half" "Z", Cond.fieldLink RX5 12 "ColourParts$Shape" "boxes" "Ljava/util/ArrayList;"]
def wsX6_pre_r3 : List Cond := [Cond.methodLink RX5 46 yJx4a65c_isEmpty_aae02, Cond.instanceMethod yJx4a65c_isEmpty_aae02, Cond.selects RJx4a65c yJx4a65c_isEmpty_aae02 yJx4a65c_isEmpty_aae02, Cond.code yJx4a65c_isEmpty_aae02 cJx4a65c_isEmpty_aae02 1 (some .boolean), Cond.methodLink RX6 158 yX6_isNoColour, Cond.static yX6_isNoColour, Cond.code yX6_isNoColour cX6_isNoColour 1 (some .boolean)]
def wsX6_pre : List Cond := .code yX6_pre cX6_pre 5 (some .boolean) :: ((wsX6_pre_r1 ++ (wsX6_pre_r2 ++ wsX6_pre_r3)) ++ wsX60 ++ wsX50 ++ wsJx4a65c0 ++ (vx_atS RX6 92 "java/lang/IllegalArgumentException" ["java/lang/RuntimeException", "java/lang/Exception"]).filter goodWord ++ (vx_atS RX6 157 "java/lang/IndexOutOfBoundsException" ["java/lang/RuntimeException", "java/lang/Exception"]).filter goodWord ++ (vx_atS RX6 58 "java/lang/IllegalStateException" ["java/lang/RuntimeException", "java/lang/Exception"]).filter goodWord)
def wsX6_stitch_r1 : List Cond := [Cond.classLink RX6 54 "java/lang/IllegalStateException", Cond.initialized "java/lang/IllegalStateException", Cond.classLink RX6 88 "java/lang/IllegalArgumentException", Cond.initialized "java/lang/IllegalArgumentException", Cond.fieldLink RX6 10 "ColourParts" "shapes" "Ljava/util/ArrayList;", Cond.classLink RX6 61 "ColourParts$Shape", Cond.fieldLink RX6 76 "ColourParts$Shape" "boxes" "Ljava/util/ArrayList;", Cond.fieldLink RX6 79 "ColourParts$Shape" "stitchCount" "I", Cond.classLink RX6 175 "ColourParts$Box", Cond.fieldLink RX6 182 "ColourParts$Shape" "standing" "Z", Cond.methodLink RX6 68 yX6_needShape, Cond.instanceMethod yX6_needShape, Cond.selects RX6 yX6_needShape yX6_needShape, Cond.initialized RX6, Cond.code yX6_needShape cX6_needShape 2 none, Cond.classLink RX6 153 "java/lang/IndexOutOfBoundsException", Cond.initialized "java/lang/IndexOutOfBoundsException", Cond.methodLink RX6 47 yJx4a65c_size_8abf5, Cond.instanceMethod yJx4a65c_size_8abf5, Cond.selects RJx4a65c yJx4a65c_size_8abf5 yJx4a65c_size_8abf5, Cond.initialized RJx4a65c, Cond.code yJx4a65c_size_8abf5 cJx4a65c_size_8abf5 1 (some .int), Cond.fieldLink RJx4a65c 48 "java/util/ArrayList" "size" "I", Cond.methodLink RX6 100 yX6_needNoneOpen]
def wsX6_stitch_r2 : List Cond := [Cond.instanceMethod yX6_needNoneOpen, Cond.selects RX6 yX6_needNoneOpen yX6_needNoneOpen, Cond.code yX6_needNoneOpen cX6_needNoneOpen 2 none, Cond.methodLink RX6 72 yJx4a65c_get_915e3, Cond.instanceMethod yJx4a65c_get_915e3, Cond.selects RJx4a65c yJx4a65c_get_915e3 yJx4a65c_get_915e3, Cond.code yJx4a65c_get_915e3 cJx4a65c_get_915e3 2 (some (.object "java/lang/Object")), Cond.methodLink RJx4a65c 118 yJ15_checkIndex_7cf53, Cond.static yJ15_checkIndex_7cf53, Cond.initialized RJ15, Cond.code yJ15_checkIndex_7cf53 cJ15_checkIndex_7cf53 2 (some .int), Cond.methodLink RJ15 105 yJ3_checkIndex_8e157, Cond.static yJ3_checkIndex_8e157, Cond.initialized RJ3, Cond.code yJ3_checkIndex_8e157 cJ3_checkIndex_8e157 3 (some .int), Cond.methodLink RJx4a65c 123 yJx4a65c_elementData_915e3, Cond.instanceMethod yJx4a65c_elementData_915e3, Cond.selects RJx4a65c yJx4a65c_elementData_915e3 yJx4a65c_elementData_915e3, Cond.code yJx4a65c_elementData_915e3 cJx4a65c_elementData_915e3 2 (some (.object "java/lang/Object")), Cond.fieldLink RJx4a65c 9 "java/util/ArrayList" "elementData" "[Ljava/lang/Object;", Cond.methodLink RX6 221 yX5_isOpen, Cond.instanceMethod yX5_isOpen, Cond.selects RX5 yX5_isOpen yX5_isOpen, Cond.initialized RX5]
def wsX6_stitch_r3 : List Cond := [Cond.code yX5_isOpen cX5_isOpen 1 (some .boolean), Cond.fieldLink RX5 36 "ColourParts$Shape" "half" "Z", Cond.fieldLink RX5 12 "ColourParts$Shape" "boxes" "Ljava/util/ArrayList;", Cond.methodLink RX5 46 yJx4a65c_isEmpty_aae02, Cond.instanceMethod yJx4a65c_isEmpty_aae02, Cond.selects RJx4a65c yJx4a65c_isEmpty_aae02 yJx4a65c_isEmpty_aae02, Cond.code yJx4a65c_isEmpty_aae02 cJx4a65c_isEmpty_aae02 1 (some .boolean), Cond.methodLink RX6 169 yX5_hasStitch, Cond.instanceMethod yX5_hasStitch, Cond.selects RX5 yX5_hasStitch yX5_hasStitch, Cond.code yX5_hasStitch cX5_hasStitch 5 (some .boolean), Cond.fieldLink RX5 26 "ColourParts$Shape" "standing" "Z", Cond.fieldLink RX5 22 "ColourParts$Shape" "stitchCount" "I", Cond.fieldLink RX5 18 "ColourParts$Shape" "places" "[J", Cond.methodLink RX6 51 yX6_countPieces, Cond.instanceMethod yX6_countPieces, Cond.selects RX6 yX6_countPieces yX6_countPieces, Cond.code yX6_countPieces cX6_countPieces 3 (some .int), Cond.methodLink RX6 177 yX0_isWithin, Cond.instanceMethod yX0_isWithin, Cond.selects RX0 yX0_isWithin yX0_isWithin, Cond.initialized RX0, Cond.code yX0_isWithin cX0_isWithin 4 (some .boolean), Cond.fieldLink RX0 7 "ColourParts$Box" "left" "J"]
def wsX6_stitch_r4 : List Cond := [Cond.fieldLink RX0 16 "ColourParts$Box" "right" "J", Cond.fieldLink RX0 13 "ColourParts$Box" "low" "J", Cond.fieldLink RX0 19 "ColourParts$Box" "high" "J", Cond.methodLink RX6 187 yX5_addStitch, Cond.instanceMethod yX5_addStitch, Cond.selects RX5 yX5_addStitch yX5_addStitch, Cond.code yX5_addStitch cX5_addStitch 5 none]
def wsX6_stitch : List Cond := .code yX6_stitch cX6_stitch 6 (some .boolean) :: ((wsX6_stitch_r1 ++ (wsX6_stitch_r2 ++ (wsX6_stitch_r3 ++ wsX6_stitch_r4))) ++ wsX60 ++ wsX50 ++ wsJx4a65c0 ++ wsX00 ++ (vx_atS RX6 58 "java/lang/IllegalStateException" ["java/lang/RuntimeException", "java/lang/Exception"]).filter goodWord ++ (vx_atS RX6 92 "java/lang/IllegalArgumentException" ["java/lang/RuntimeException", "java/lang/Exception"]).filter goodWord ++ (vx_atS RX6 157 "java/lang/IndexOutOfBoundsException" ["java/lang/RuntimeException", "java/lang/Exception"]).filter goodWord)
def wsX6_stitches : List Cond := .code yX6_stitches cX6_stitches 1 (some .int) :: ([.fieldLink RX6 24 "ColourParts" "kept" "LColourParts$Colouring;", .fieldLink RX6 191 "ColourParts$Colouring" "usedInAll" "I"] ++ wsX60 ++ wsX10)
def wsX6_used : List Cond := .code yX6_used cX6_used 3 (some .boolean) :: ([.classLink RX6 153 "java/lang/IndexOutOfBoundsException", .initialized "java/lang/IndexOutOfBoundsException", .fieldLink RX6 24 "ColourParts" "kept" "LColourParts$Colouring;", .fieldLink RX6 194 "ColourParts$Colouring" "stitchCounts" "[I", .fieldLink RX6 199 "ColourParts$Colouring" "usedStitches" "[I", .methodLink RX6 68 yX6_needShape, .instanceMethod yX6_needShape, .selects RX6 yX6_needShape yX6_needShape, .initialized RX6, .code yX6_needShape cX6_needShape 2 none, .fieldLink RX6 10 "ColourParts" "shapes" "Ljava/util/ArrayList;", .methodLink RX6 47 yJx4a65c_size_8abf5, .instanceMethod yJx4a65c_size_8abf5, .selects RJx4a65c yJx4a65c_size_8abf5 yJx4a65c_size_8abf5, .initialized RJx4a65c, .code yJx4a65c_size_8abf5 cJx4a65c_size_8abf5 1 (some .int), .fieldLink RJx4a65c 48 "java/util/ArrayList" "size" "I"] ++ wsX60 ++ wsX10 ++ wsJx4a65c0 ++ (vx_atS RX6 157 "java/lang/IndexOutOfBoundsException" ["java/lang/RuntimeException", "java/lang/Exception"]).filter goodWord)
def wsX6_balance : List Cond := .code yX6_balance cX6_balance 3 (some .long) :: ([.classLink RX6 153 "java/lang/IndexOutOfBoundsException", .initialized "java/lang/IndexOutOfBoundsException", .classLink RX6 88 "java/lang/IllegalArgumentException", .initialized "java/lang/IllegalArgumentException", .fieldLink RX6 24 "ColourParts" "kept" "LColourParts$Colouring;", .fieldLink RX6 204 "ColourParts$Colouring" "pieceCounts" "[I", .fieldLink RX6 207 "ColourParts$Colouring" "areas" "[J", .methodLink RX6 158 yX6_isNoColour, .static yX6_isNoColour, .initialized RX6, .code yX6_isNoColour cX6_isNoColour 1 (some .boolean)] ++ wsX60 ++ wsX10 ++ (vx_atS RX6 157 "java/lang/IndexOutOfBoundsException" ["java/lang/RuntimeException", "java/lang/Exception"]).filter goodWord ++ (vx_atS RX6 92 "java/lang/IllegalArgumentException" ["java/lang/RuntimeException", "java/lang/Exception"]).filter goodWord)
def wsX6_pair_r1 : List Cond := [Cond.classLink RX6 153 "java/lang/IndexOutOfBoundsException", Cond.initialized "java/lang/IndexOutOfBoundsException", Cond.fieldLink RX6 10 "ColourParts" "shapes" "Ljava/util/ArrayList;", Cond.classLink RX6 61 "ColourParts$Shape", Cond.methodLink RX6 100 yX6_needNoneOpen, Cond.instanceMethod yX6_needNoneOpen, Cond.selects RX6 yX6_needNoneOpen yX6_needNoneOpen, Cond.initialized RX6, Cond.code yX6_needNoneOpen cX6_needNoneOpen 2 none, Cond.classLink RX6 54 "java/lang/IllegalStateException", Cond.initialized "java/lang/IllegalStateException", Cond.methodLink RX6 47 yJx4a65c_size_8abf5, Cond.instanceMethod yJx4a65c_size_8abf5, Cond.selects RJx4a65c yJx4a65c_size_8abf5 yJx4a65c_size_8abf5, Cond.initialized RJx4a65c, Cond.code yJx4a65c_size_8abf5 cJx4a65c_size_8abf5 1 (some .int), Cond.fieldLink RJx4a65c 48 "java/util/ArrayList" "size" "I", Cond.methodLink RX6 72 yJx4a65c_get_915e3, Cond.instanceMethod yJx4a65c_get_915e3, Cond.selects RJx4a65c yJx4a65c_get_915e3 yJx4a65c_get_915e3, Cond.code yJx4a65c_get_915e3 cJx4a65c_get_915e3 2 (some (.object "java/lang/Object")), Cond.methodLink RJx4a65c 118 yJ15_checkIndex_7cf53, Cond.static yJ15_checkIndex_7cf53, Cond.initialized RJ15]
def wsX6_pair_r2 : List Cond := [Cond.code yJ15_checkIndex_7cf53 cJ15_checkIndex_7cf53 2 (some .int), Cond.methodLink RJ15 105 yJ3_checkIndex_8e157, Cond.static yJ3_checkIndex_8e157, Cond.initialized RJ3, Cond.code yJ3_checkIndex_8e157 cJ3_checkIndex_8e157 3 (some .int), Cond.methodLink RJx4a65c 123 yJx4a65c_elementData_915e3, Cond.instanceMethod yJx4a65c_elementData_915e3, Cond.selects RJx4a65c yJx4a65c_elementData_915e3 yJx4a65c_elementData_915e3, Cond.code yJx4a65c_elementData_915e3 cJx4a65c_elementData_915e3 2 (some (.object "java/lang/Object")), Cond.fieldLink RJx4a65c 9 "java/util/ArrayList" "elementData" "[Ljava/lang/Object;", Cond.methodLink RX6 221 yX5_isOpen, Cond.instanceMethod yX5_isOpen, Cond.selects RX5 yX5_isOpen yX5_isOpen, Cond.initialized RX5, Cond.code yX5_isOpen cX5_isOpen 1 (some .boolean), Cond.fieldLink RX5 36 "ColourParts$Shape" "half" "Z", Cond.fieldLink RX5 12 "ColourParts$Shape" "boxes" "Ljava/util/ArrayList;", Cond.methodLink RX5 46 yJx4a65c_isEmpty_aae02, Cond.instanceMethod yJx4a65c_isEmpty_aae02, Cond.selects RJx4a65c yJx4a65c_isEmpty_aae02 yJx4a65c_isEmpty_aae02, Cond.code yJx4a65c_isEmpty_aae02 cJx4a65c_isEmpty_aae02 1 (some .boolean), Cond.methodLink RX6 213 yX5_isNearShape, Cond.instanceMethod yX5_isNearShape, Cond.selects RX5 yX5_isNearShape yX5_isNearShape]
def wsX6_pair_r3 : List Cond := [Cond.code yX5_isNearShape cX5_isNearShape 2 (some .boolean), Cond.fieldLink RX5 33 "ColourParts$Shape" "nearShapes" "I"]
def wsX6_pair : List Cond := .code yX6_pair cX6_pair 6 (some .int) :: ((wsX6_pair_r1 ++ (wsX6_pair_r2 ++ wsX6_pair_r3)) ++ wsX60 ++ wsJx4a65c0 ++ wsX50 ++ (vx_atS RX6 157 "java/lang/IndexOutOfBoundsException" ["java/lang/RuntimeException", "java/lang/Exception"]).filter goodWord ++ (vx_atS RX6 58 "java/lang/IllegalStateException" ["java/lang/RuntimeException", "java/lang/Exception"]).filter goodWord)
def wsX6_closed : List Cond := .code yX6_closed cX6_closed 1 (some .boolean) :: ([.fieldLink RX6 28 "ColourParts" "latestClosed" "Z"] ++ wsX60)
def wsJx4a65c_clear_da8c8 : List Cond := .code yJx4a65c_clear_da8c8 cJx4a65c_clear_da8c8 4 none :: ([.fieldLink RJx4a65c 63 "java/util/ArrayList" "modCount" "I", .sameField "java/util/ArrayList" "java/util/AbstractList" "modCount" "I", .fieldLink RJx4a65c 9 "java/util/ArrayList" "elementData" "[Ljava/lang/Object;", .fieldLink RJx4a65c 48 "java/util/ArrayList" "size" "I"] ++ wsJx4a65c0)
def wsX6_clear : List Cond := .code yX6_clear cX6_clear 1 none :: ([.fieldLink RX6 10 "ColourParts" "shapes" "Ljava/util/ArrayList;", .fieldLink RX6 24 "ColourParts" "kept" "LColourParts$Colouring;", .fieldLink RX6 20 "ColourParts" "ringLength" "I", .fieldLink RX6 28 "ColourParts" "latestClosed" "Z", .methodLink RX6 216 yJx4a65c_clear_da8c8, .instanceMethod yJx4a65c_clear_da8c8, .selects RJx4a65c yJx4a65c_clear_da8c8 yJx4a65c_clear_da8c8, .initialized RJx4a65c, .code yJx4a65c_clear_da8c8 cJx4a65c_clear_da8c8 4 none, .fieldLink RJx4a65c 63 "java/util/ArrayList" "modCount" "I", .sameField "java/util/ArrayList" "java/util/AbstractList" "modCount" "I", .fieldLink RJx4a65c 9 "java/util/ArrayList" "elementData" "[Ljava/lang/Object;", .fieldLink RJx4a65c 48 "java/util/ArrayList" "size" "I"] ++ wsX60 ++ wsJx4a65c0)
def wsX7_init_r1 : List Cond := [Cond.methodLink RX7 1 objectInit, Cond.instanceMethod objectInit, Cond.code objectInit ⟨#[0xb1]⟩ 1 none, Cond.arrayClass .long, Cond.fieldLink RX7 7 "ColourPartsModel" "cornerX" "[J", Cond.fieldLink RX7 13 "ColourPartsModel" "cornerY" "[J", Cond.arrayClass .int, Cond.fieldLink RX7 16 "ColourPartsModel" "corners" "[I", Cond.fieldLink RX7 20 "ColourPartsModel" "told" "[I", Cond.fieldLink RX7 23 "ColourPartsModel" "cuts" "[J", Cond.fieldLink RX7 26 "ColourPartsModel" "cutCounts" "[I", Cond.arrayClass .boolean, Cond.fieldLink RX7 29 "ColourPartsModel" "standing" "[Z", Cond.fieldLink RX7 33 "ColourPartsModel" "pieceShapes" "[I", Cond.fieldLink RX7 36 "ColourPartsModel" "pieceNumbers" "[I", Cond.fieldLink RX7 39 "ColourPartsModel" "nears" "[Z", Cond.fieldLink RX7 42 "ColourPartsModel" "one" "[J", Cond.fieldLink RX7 45 "ColourPartsModel" "two" "[J", Cond.fieldLink RX7 48 "ColourPartsModel" "colours" "[I", Cond.fieldLink RX7 51 "ColourPartsModel" "keptShapes" "[I", Cond.fieldLink RX7 54 "ColourPartsModel" "keptColours" "[I", Cond.fieldLink RX7 57 "ColourPartsModel" "keptAreas" "[J", Cond.fieldLink RX7 60 "ColourPartsModel" "walk" "[I", Cond.fieldLink RX7 63 "ColourPartsModel" "ringShapes" "[I"]
def wsX7_init_r2 : List Cond := [Cond.constantLong RX7 66 (65536), Cond.fieldLink RX7 68 "ColourPartsModel" "distance" "J"]
def wsX7_init : List Cond := .code yX7_init cX7_init 3 none :: ((wsX7_init_r1 ++ wsX7_init_r2) ++ wsX70)
def wsX7_thrown : List Cond := .code yX7_thrown cX7_thrown 1 (some .int) :: ([.fieldLink RX7 72 "ColourPartsModel" "code" "I"] ++ wsX70)
def wsX7_isShape : List Cond := .code yX7_isShape cX7_isShape 2 (some .boolean) :: ([.fieldLink RX7 76 "ColourPartsModel" "shapes" "I"] ++ wsX70)
def wsX7_isOpen : List Cond := .code yX7_isOpen cX7_isOpen 3 (some .boolean) :: ([.fieldLink RX7 76 "ColourPartsModel" "shapes" "I", .fieldLink RX7 16 "ColourPartsModel" "corners" "[I"] ++ wsX70)
def wsX7_allPieces : List Cond := .code yX7_allPieces cX7_allPieces 3 (some .int) :: ([.fieldLink RX7 76 "ColourPartsModel" "shapes" "I", .fieldLink RX7 26 "ColourPartsModel" "cutCounts" "[I"] ++ wsX70)
def wsX7_shape : List Cond := .code yX7_shape cX7_shape 1 (some .int) :: ([.fieldLink RX7 76 "ColourPartsModel" "shapes" "I", .fieldLink RX7 72 "ColourPartsModel" "code" "I", .fieldLink RX7 16 "ColourPartsModel" "corners" "[I", .fieldLink RX7 20 "ColourPartsModel" "told" "[I", .fieldLink RX7 26 "ColourPartsModel" "cutCounts" "[I", .methodLink RX7 79 yX7_allPieces, .instanceMethod yX7_allPieces, .selects RX7 yX7_allPieces yX7_allPieces, .initialized RX7, .code yX7_allPieces cX7_allPieces 3 (some .int)] ++ wsX70)
def wsX7_corner : List Cond := .code yX7_corner cX7_corner 6 (some .boolean) :: ([.fieldLink RX7 16 "ColourPartsModel" "corners" "[I", .fieldLink RX7 26 "ColourPartsModel" "cutCounts" "[I", .constantLong RX7 87 (-1000000), .constantLong RX7 89 (1000000), .fieldLink RX7 72 "ColourPartsModel" "code" "I", .fieldLink RX7 7 "ColourPartsModel" "cornerX" "[J", .fieldLink RX7 13 "ColourPartsModel" "cornerY" "[J", .methodLink RX7 83 yX7_isShape, .instanceMethod yX7_isShape, .selects RX7 yX7_isShape yX7_isShape, .initialized RX7, .code yX7_isShape cX7_isShape 2 (some .boolean), .fieldLink RX7 76 "ColourPartsModel" "shapes" "I"] ++ wsX70)
def wsX7_clear : List Cond := .code yX7_clear cX7_clear 1 none :: ([.fieldLink RX7 72 "ColourPartsModel" "code" "I", .fieldLink RX7 76 "ColourPartsModel" "shapes" "I", .fieldLink RX7 91 "ColourPartsModel" "kept" "Z", .fieldLink RX7 95 "ColourPartsModel" "ringLength" "I", .fieldLink RX7 98 "ColourPartsModel" "closed" "Z"] ++ wsX70)
def wsX7_low : List Cond := .code yX7_low cX7_low 4 (some .long) :: ([])
def wsX7_high : List Cond := .code yX7_high cX7_high 4 (some .long) :: ([])
def wsX7_boxes : List Cond := .code yX7_boxes cX7_boxes 2 (some .int) :: ([.fieldLink RX7 26 "ColourPartsModel" "cutCounts" "[I", .fieldLink RX7 16 "ColourPartsModel" "corners" "[I"] ++ wsX70)
def wsX7_load : List Cond := .code yX7_load cX7_load 14 none :: ([.fieldLink RX7 7 "ColourPartsModel" "cornerX" "[J", .fieldLink RX7 13 "ColourPartsModel" "cornerY" "[J", .fieldLink RX7 26 "ColourPartsModel" "cutCounts" "[I", .fieldLink RX7 29 "ColourPartsModel" "standing" "[Z", .fieldLink RX7 23 "ColourPartsModel" "cuts" "[J", .fieldLink RX7 42 "ColourPartsModel" "one" "[J", .fieldLink RX7 45 "ColourPartsModel" "two" "[J", .methodLink RX7 101 yX7_low, .static yX7_low, .initialized RX7, .code yX7_low cX7_low 4 (some .long), .methodLink RX7 105 yX7_high, .static yX7_high, .code yX7_high cX7_high 4 (some .long)] ++ wsX70)
def wsX7_isNearBox : List Cond := .code yX7_isNearBox cX7_isNearBox 5 (some .boolean) :: ([.fieldLink RX7 42 "ColourPartsModel" "one" "[J", .fieldLink RX7 45 "ColourPartsModel" "two" "[J", .fieldLink RX7 68 "ColourPartsModel" "distance" "J", .methodLink RX7 105 yX7_high, .static yX7_high, .initialized RX7, .code yX7_high cX7_high 4 (some .long), .methodLink RX7 101 yX7_low, .static yX7_low, .code yX7_low cX7_low 4 (some .long)] ++ wsX70)
def wsX7_isNearPiece_r1 : List Cond := [Cond.methodLink RX7 108 yX7_boxes, Cond.instanceMethod yX7_boxes, Cond.selects RX7 yX7_boxes yX7_boxes, Cond.initialized RX7, Cond.code yX7_boxes cX7_boxes 2 (some .int), Cond.fieldLink RX7 26 "ColourPartsModel" "cutCounts" "[I", Cond.fieldLink RX7 16 "ColourPartsModel" "corners" "[I", Cond.methodLink RX7 112 yX7_load, Cond.instanceMethod yX7_load, Cond.selects RX7 yX7_load yX7_load, Cond.code yX7_load cX7_load 14 none, Cond.fieldLink RX7 7 "ColourPartsModel" "cornerX" "[J", Cond.fieldLink RX7 13 "ColourPartsModel" "cornerY" "[J", Cond.fieldLink RX7 29 "ColourPartsModel" "standing" "[Z", Cond.fieldLink RX7 23 "ColourPartsModel" "cuts" "[J", Cond.fieldLink RX7 42 "ColourPartsModel" "one" "[J", Cond.fieldLink RX7 45 "ColourPartsModel" "two" "[J", Cond.methodLink RX7 101 yX7_low, Cond.static yX7_low, Cond.code yX7_low cX7_low 4 (some .long), Cond.methodLink RX7 105 yX7_high, Cond.static yX7_high, Cond.code yX7_high cX7_high 4 (some .long), Cond.methodLink RX7 116 yX7_isNearBox]
def wsX7_isNearPiece_r2 : List Cond := [Cond.instanceMethod yX7_isNearBox, Cond.selects RX7 yX7_isNearBox yX7_isNearBox, Cond.code yX7_isNearBox cX7_isNearBox 5 (some .boolean), Cond.fieldLink RX7 68 "ColourPartsModel" "distance" "J"]
def wsX7_isNearPiece : List Cond := .code yX7_isNearPiece cX7_isNearPiece 8 (some .boolean) :: ((wsX7_isNearPiece_r1 ++ wsX7_isNearPiece_r2) ++ wsX70)
def wsX7_isNear_r1 : List Cond := [Cond.fieldLink RX7 26 "ColourPartsModel" "cutCounts" "[I", Cond.methodLink RX7 120 yX7_isNearPiece, Cond.instanceMethod yX7_isNearPiece, Cond.selects RX7 yX7_isNearPiece yX7_isNearPiece, Cond.initialized RX7, Cond.code yX7_isNearPiece cX7_isNearPiece 8 (some .boolean), Cond.methodLink RX7 108 yX7_boxes, Cond.instanceMethod yX7_boxes, Cond.selects RX7 yX7_boxes yX7_boxes, Cond.code yX7_boxes cX7_boxes 2 (some .int), Cond.fieldLink RX7 16 "ColourPartsModel" "corners" "[I", Cond.methodLink RX7 112 yX7_load, Cond.instanceMethod yX7_load, Cond.selects RX7 yX7_load yX7_load, Cond.code yX7_load cX7_load 14 none, Cond.fieldLink RX7 7 "ColourPartsModel" "cornerX" "[J", Cond.fieldLink RX7 13 "ColourPartsModel" "cornerY" "[J", Cond.fieldLink RX7 29 "ColourPartsModel" "standing" "[Z", Cond.fieldLink RX7 23 "ColourPartsModel" "cuts" "[J", Cond.fieldLink RX7 42 "ColourPartsModel" "one" "[J", Cond.fieldLink RX7 45 "ColourPartsModel" "two" "[J", Cond.methodLink RX7 101 yX7_low, Cond.static yX7_low, Cond.code yX7_low cX7_low 4 (some .long)]
def wsX7_isNear_r2 : List Cond := [Cond.methodLink RX7 105 yX7_high, Cond.static yX7_high, Cond.code yX7_high cX7_high 4 (some .long), Cond.methodLink RX7 116 yX7_isNearBox, Cond.instanceMethod yX7_isNearBox, Cond.selects RX7 yX7_isNearBox yX7_isNearBox, Cond.code yX7_isNearBox cX7_isNearBox 5 (some .boolean), Cond.fieldLink RX7 68 "ColourPartsModel" "distance" "J"]
def wsX7_isNear : List Cond := .code yX7_isNear cX7_isNear 6 (some .boolean) :: ((wsX7_isNear_r1 ++ wsX7_isNear_r2) ++ wsX70)
def wsX7_near_r1 : List Cond := [Cond.fieldLink RX7 72 "ColourPartsModel" "code" "I", Cond.fieldLink RX7 76 "ColourPartsModel" "shapes" "I", Cond.methodLink RX7 124 yX7_isOpen, Cond.instanceMethod yX7_isOpen, Cond.selects RX7 yX7_isOpen yX7_isOpen, Cond.initialized RX7, Cond.code yX7_isOpen cX7_isOpen 3 (some .boolean), Cond.fieldLink RX7 16 "ColourPartsModel" "corners" "[I", Cond.methodLink RX7 127 yX7_isNear, Cond.instanceMethod yX7_isNear, Cond.selects RX7 yX7_isNear yX7_isNear, Cond.code yX7_isNear cX7_isNear 6 (some .boolean), Cond.fieldLink RX7 26 "ColourPartsModel" "cutCounts" "[I", Cond.methodLink RX7 120 yX7_isNearPiece, Cond.instanceMethod yX7_isNearPiece, Cond.selects RX7 yX7_isNearPiece yX7_isNearPiece, Cond.code yX7_isNearPiece cX7_isNearPiece 8 (some .boolean), Cond.methodLink RX7 108 yX7_boxes, Cond.instanceMethod yX7_boxes, Cond.selects RX7 yX7_boxes yX7_boxes, Cond.code yX7_boxes cX7_boxes 2 (some .int), Cond.methodLink RX7 112 yX7_load, Cond.instanceMethod yX7_load, Cond.selects RX7 yX7_load yX7_load]
def wsX7_near_r2 : List Cond := [Cond.code yX7_load cX7_load 14 none, Cond.fieldLink RX7 7 "ColourPartsModel" "cornerX" "[J", Cond.fieldLink RX7 13 "ColourPartsModel" "cornerY" "[J", Cond.fieldLink RX7 29 "ColourPartsModel" "standing" "[Z", Cond.fieldLink RX7 23 "ColourPartsModel" "cuts" "[J", Cond.fieldLink RX7 42 "ColourPartsModel" "one" "[J", Cond.fieldLink RX7 45 "ColourPartsModel" "two" "[J", Cond.methodLink RX7 101 yX7_low, Cond.static yX7_low, Cond.code yX7_low cX7_low 4 (some .long), Cond.methodLink RX7 105 yX7_high, Cond.static yX7_high, Cond.code yX7_high cX7_high 4 (some .long), Cond.methodLink RX7 116 yX7_isNearBox, Cond.instanceMethod yX7_isNearBox, Cond.selects RX7 yX7_isNearBox yX7_isNearBox, Cond.code yX7_isNearBox cX7_isNearBox 5 (some .boolean), Cond.fieldLink RX7 68 "ColourPartsModel" "distance" "J"]
def wsX7_near : List Cond := .code yX7_near cX7_near 4 (some .int) :: ((wsX7_near_r1 ++ wsX7_near_r2) ++ wsX70)
def wsX7_pair_r1 : List Cond := [Cond.fieldLink RX7 72 "ColourPartsModel" "code" "I", Cond.fieldLink RX7 76 "ColourPartsModel" "shapes" "I", Cond.methodLink RX7 124 yX7_isOpen, Cond.instanceMethod yX7_isOpen, Cond.selects RX7 yX7_isOpen yX7_isOpen, Cond.initialized RX7, Cond.code yX7_isOpen cX7_isOpen 3 (some .boolean), Cond.fieldLink RX7 16 "ColourPartsModel" "corners" "[I", Cond.methodLink RX7 127 yX7_isNear, Cond.instanceMethod yX7_isNear, Cond.selects RX7 yX7_isNear yX7_isNear, Cond.code yX7_isNear cX7_isNear 6 (some .boolean), Cond.fieldLink RX7 26 "ColourPartsModel" "cutCounts" "[I", Cond.methodLink RX7 120 yX7_isNearPiece, Cond.instanceMethod yX7_isNearPiece, Cond.selects RX7 yX7_isNearPiece yX7_isNearPiece, Cond.code yX7_isNearPiece cX7_isNearPiece 8 (some .boolean), Cond.methodLink RX7 108 yX7_boxes, Cond.instanceMethod yX7_boxes, Cond.selects RX7 yX7_boxes yX7_boxes, Cond.code yX7_boxes cX7_boxes 2 (some .int), Cond.methodLink RX7 112 yX7_load, Cond.instanceMethod yX7_load, Cond.selects RX7 yX7_load yX7_load]
def wsX7_pair_r2 : List Cond := [Cond.code yX7_load cX7_load 14 none, Cond.fieldLink RX7 7 "ColourPartsModel" "cornerX" "[J", Cond.fieldLink RX7 13 "ColourPartsModel" "cornerY" "[J", Cond.fieldLink RX7 29 "ColourPartsModel" "standing" "[Z", Cond.fieldLink RX7 23 "ColourPartsModel" "cuts" "[J", Cond.fieldLink RX7 42 "ColourPartsModel" "one" "[J", Cond.fieldLink RX7 45 "ColourPartsModel" "two" "[J", Cond.methodLink RX7 101 yX7_low, Cond.static yX7_low, Cond.code yX7_low cX7_low 4 (some .long), Cond.methodLink RX7 105 yX7_high, Cond.static yX7_high, Cond.code yX7_high cX7_high 4 (some .long), Cond.methodLink RX7 116 yX7_isNearBox, Cond.instanceMethod yX7_isNearBox, Cond.selects RX7 yX7_isNearBox yX7_isNearBox, Cond.code yX7_isNearBox cX7_isNearBox 5 (some .boolean), Cond.fieldLink RX7 68 "ColourPartsModel" "distance" "J"]
def wsX7_pair : List Cond := .code yX7_pair cX7_pair 6 (some .int) :: ((wsX7_pair_r1 ++ wsX7_pair_r2) ++ wsX70)
def wsX7_pre : List Cond := .code yX7_pre cX7_pre 3 (some .boolean) :: ([.fieldLink RX7 72 "ColourPartsModel" "code" "I", .fieldLink RX7 20 "ColourPartsModel" "told" "[I", .methodLink RX7 83 yX7_isShape, .instanceMethod yX7_isShape, .selects RX7 yX7_isShape yX7_isShape, .initialized RX7, .code yX7_isShape cX7_isShape 2 (some .boolean), .fieldLink RX7 76 "ColourPartsModel" "shapes" "I", .methodLink RX7 124 yX7_isOpen, .instanceMethod yX7_isOpen, .selects RX7 yX7_isOpen yX7_isOpen, .code yX7_isOpen cX7_isOpen 3 (some .boolean), .fieldLink RX7 16 "ColourPartsModel" "corners" "[I"] ++ wsX70)
def wsX7_hasCut : List Cond := .code yX7_hasCut cX7_hasCut 7 (some .boolean) :: ([.fieldLink RX7 26 "ColourPartsModel" "cutCounts" "[I", .fieldLink RX7 29 "ColourPartsModel" "standing" "[Z", .fieldLink RX7 23 "ColourPartsModel" "cuts" "[J"] ++ wsX70)
def wsX7_isWithin : List Cond := .code yX7_isWithin cX7_isWithin 9 (some .boolean) :: ([.fieldLink RX7 7 "ColourPartsModel" "cornerX" "[J", .fieldLink RX7 13 "ColourPartsModel" "cornerY" "[J", .methodLink RX7 101 yX7_low, .static yX7_low, .initialized RX7, .code yX7_low cX7_low 4 (some .long), .methodLink RX7 105 yX7_high, .static yX7_high, .code yX7_high cX7_high 4 (some .long)] ++ wsX70)
def wsX7_stitch_r1 : List Cond := [Cond.fieldLink RX7 72 "ColourPartsModel" "code" "I", Cond.fieldLink RX7 16 "ColourPartsModel" "corners" "[I", Cond.fieldLink RX7 26 "ColourPartsModel" "cutCounts" "[I", Cond.fieldLink RX7 29 "ColourPartsModel" "standing" "[Z", Cond.fieldLink RX7 23 "ColourPartsModel" "cuts" "[J", Cond.methodLink RX7 83 yX7_isShape, Cond.instanceMethod yX7_isShape, Cond.selects RX7 yX7_isShape yX7_isShape, Cond.initialized RX7, Cond.code yX7_isShape cX7_isShape 2 (some .boolean), Cond.fieldLink RX7 76 "ColourPartsModel" "shapes" "I", Cond.methodLink RX7 124 yX7_isOpen, Cond.instanceMethod yX7_isOpen, Cond.selects RX7 yX7_isOpen yX7_isOpen, Cond.code yX7_isOpen cX7_isOpen 3 (some .boolean), Cond.methodLink RX7 131 yX7_hasCut, Cond.instanceMethod yX7_hasCut, Cond.selects RX7 yX7_hasCut yX7_hasCut, Cond.code yX7_hasCut cX7_hasCut 7 (some .boolean), Cond.methodLink RX7 79 yX7_allPieces, Cond.instanceMethod yX7_allPieces, Cond.selects RX7 yX7_allPieces yX7_allPieces, Cond.code yX7_allPieces cX7_allPieces 3 (some .int), Cond.methodLink RX7 135 yX7_isWithin]
def wsX7_stitch_r2 : List Cond := [Cond.instanceMethod yX7_isWithin, Cond.selects RX7 yX7_isWithin yX7_isWithin, Cond.code yX7_isWithin cX7_isWithin 9 (some .boolean), Cond.fieldLink RX7 7 "ColourPartsModel" "cornerX" "[J", Cond.fieldLink RX7 13 "ColourPartsModel" "cornerY" "[J", Cond.methodLink RX7 101 yX7_low, Cond.static yX7_low, Cond.code yX7_low cX7_low 4 (some .long), Cond.methodLink RX7 105 yX7_high, Cond.static yX7_high, Cond.code yX7_high cX7_high 4 (some .long)]
def wsX7_stitch : List Cond := .code yX7_stitch cX7_stitch 7 (some .boolean) :: ((wsX7_stitch_r1 ++ wsX7_stitch_r2) ++ wsX70)
def wsX7_part_r1 : List Cond := [Cond.fieldLink RX7 138 "ColourPartsModel" "pieces" "I", Cond.fieldLink RX7 76 "ColourPartsModel" "shapes" "I", Cond.fieldLink RX7 26 "ColourPartsModel" "cutCounts" "[I", Cond.fieldLink RX7 33 "ColourPartsModel" "pieceShapes" "[I", Cond.fieldLink RX7 36 "ColourPartsModel" "pieceNumbers" "[I", Cond.fieldLink RX7 39 "ColourPartsModel" "nears" "[Z", Cond.methodLink RX7 120 yX7_isNearPiece, Cond.instanceMethod yX7_isNearPiece, Cond.selects RX7 yX7_isNearPiece yX7_isNearPiece, Cond.initialized RX7, Cond.code yX7_isNearPiece cX7_isNearPiece 8 (some .boolean), Cond.methodLink RX7 108 yX7_boxes, Cond.instanceMethod yX7_boxes, Cond.selects RX7 yX7_boxes yX7_boxes, Cond.code yX7_boxes cX7_boxes 2 (some .int), Cond.fieldLink RX7 16 "ColourPartsModel" "corners" "[I", Cond.methodLink RX7 112 yX7_load, Cond.instanceMethod yX7_load, Cond.selects RX7 yX7_load yX7_load, Cond.code yX7_load cX7_load 14 none, Cond.fieldLink RX7 7 "ColourPartsModel" "cornerX" "[J", Cond.fieldLink RX7 13 "ColourPartsModel" "cornerY" "[J", Cond.fieldLink RX7 29 "ColourPartsModel" "standing" "[Z", Cond.fieldLink RX7 23 "ColourPartsModel" "cuts" "[J"]
def wsX7_part_r2 : List Cond := [Cond.fieldLink RX7 42 "ColourPartsModel" "one" "[J", Cond.fieldLink RX7 45 "ColourPartsModel" "two" "[J", Cond.methodLink RX7 101 yX7_low, Cond.static yX7_low, Cond.code yX7_low cX7_low 4 (some .long), Cond.methodLink RX7 105 yX7_high, Cond.static yX7_high, Cond.code yX7_high cX7_high 4 (some .long), Cond.methodLink RX7 116 yX7_isNearBox, Cond.instanceMethod yX7_isNearBox, Cond.selects RX7 yX7_isNearBox yX7_isNearBox, Cond.code yX7_isNearBox cX7_isNearBox 5 (some .boolean), Cond.fieldLink RX7 68 "ColourPartsModel" "distance" "J"]
def wsX7_part : List Cond := .code yX7_part cX7_part 3 none :: ((wsX7_part_r1 ++ wsX7_part_r2) ++ wsX70)
def wsX7_usedUpTo : List Cond := .code yX7_usedUpTo cX7_usedUpTo 4 (some .int) :: ([.fieldLink RX7 33 "ColourPartsModel" "pieceShapes" "[I", .fieldLink RX7 48 "ColourPartsModel" "colours" "[I"] ++ wsX70)
def wsX7_fits : List Cond := .code yX7_fits cX7_fits 6 (some .boolean) :: ([.fieldLink RX7 20 "ColourPartsModel" "told" "[I", .fieldLink RX7 33 "ColourPartsModel" "pieceShapes" "[I", .fieldLink RX7 48 "ColourPartsModel" "colours" "[I", .fieldLink RX7 39 "ColourPartsModel" "nears" "[Z", .methodLink RX7 141 yX7_usedUpTo, .instanceMethod yX7_usedUpTo, .selects RX7 yX7_usedUpTo yX7_usedUpTo, .initialized RX7, .code yX7_usedUpTo cX7_usedUpTo 4 (some .int)] ++ wsX70)
def wsX7_isFound : List Cond := .code yX7_isFound cX7_isFound 4 (some .boolean) :: ([.fieldLink RX7 48 "ColourPartsModel" "colours" "[I", .fieldLink RX7 138 "ColourPartsModel" "pieces" "I", .methodLink RX7 144 yX7_fits, .instanceMethod yX7_fits, .selects RX7 yX7_fits yX7_fits, .initialized RX7, .code yX7_fits cX7_fits 6 (some .boolean), .fieldLink RX7 20 "ColourPartsModel" "told" "[I", .fieldLink RX7 33 "ColourPartsModel" "pieceShapes" "[I", .fieldLink RX7 39 "ColourPartsModel" "nears" "[Z", .methodLink RX7 141 yX7_usedUpTo, .instanceMethod yX7_usedUpTo, .selects RX7 yX7_usedUpTo yX7_usedUpTo, .code yX7_usedUpTo cX7_usedUpTo 4 (some .int)] ++ wsX70)
def wsX7_areaOf_r1 : List Cond := [Cond.fieldLink RX7 33 "ColourPartsModel" "pieceShapes" "[I", Cond.fieldLink RX7 36 "ColourPartsModel" "pieceNumbers" "[I", Cond.fieldLink RX7 42 "ColourPartsModel" "one" "[J", Cond.methodLink RX7 108 yX7_boxes, Cond.instanceMethod yX7_boxes, Cond.selects RX7 yX7_boxes yX7_boxes, Cond.initialized RX7, Cond.code yX7_boxes cX7_boxes 2 (some .int), Cond.fieldLink RX7 26 "ColourPartsModel" "cutCounts" "[I", Cond.fieldLink RX7 16 "ColourPartsModel" "corners" "[I", Cond.methodLink RX7 112 yX7_load, Cond.instanceMethod yX7_load, Cond.selects RX7 yX7_load yX7_load, Cond.code yX7_load cX7_load 14 none, Cond.fieldLink RX7 7 "ColourPartsModel" "cornerX" "[J", Cond.fieldLink RX7 13 "ColourPartsModel" "cornerY" "[J", Cond.fieldLink RX7 29 "ColourPartsModel" "standing" "[Z", Cond.fieldLink RX7 23 "ColourPartsModel" "cuts" "[J", Cond.fieldLink RX7 45 "ColourPartsModel" "two" "[J", Cond.methodLink RX7 101 yX7_low, Cond.static yX7_low, Cond.code yX7_low cX7_low 4 (some .long), Cond.methodLink RX7 105 yX7_high, Cond.static yX7_high]
def wsX7_areaOf_r2 : List Cond := [Cond.code yX7_high cX7_high 4 (some .long)]
def wsX7_areaOf : List Cond := .code yX7_areaOf cX7_areaOf 5 (some .long) :: ((wsX7_areaOf_r1 ++ wsX7_areaOf_r2) ++ wsX70)
def wsX7_keep_r1 : List Cond := [Cond.fieldLink RX7 91 "ColourPartsModel" "kept" "Z", Cond.fieldLink RX7 138 "ColourPartsModel" "pieces" "I", Cond.fieldLink RX7 147 "ColourPartsModel" "keptPieces" "I", Cond.fieldLink RX7 150 "ColourPartsModel" "keptStitches" "I", Cond.fieldLink RX7 51 "ColourPartsModel" "keptShapes" "[I", Cond.fieldLink RX7 33 "ColourPartsModel" "pieceShapes" "[I", Cond.fieldLink RX7 54 "ColourPartsModel" "keptColours" "[I", Cond.fieldLink RX7 48 "ColourPartsModel" "colours" "[I", Cond.fieldLink RX7 57 "ColourPartsModel" "keptAreas" "[J", Cond.methodLink RX7 141 yX7_usedUpTo, Cond.instanceMethod yX7_usedUpTo, Cond.selects RX7 yX7_usedUpTo yX7_usedUpTo, Cond.initialized RX7, Cond.code yX7_usedUpTo cX7_usedUpTo 4 (some .int), Cond.methodLink RX7 153 yX7_areaOf, Cond.instanceMethod yX7_areaOf, Cond.selects RX7 yX7_areaOf yX7_areaOf, Cond.code yX7_areaOf cX7_areaOf 5 (some .long), Cond.fieldLink RX7 36 "ColourPartsModel" "pieceNumbers" "[I", Cond.fieldLink RX7 42 "ColourPartsModel" "one" "[J", Cond.methodLink RX7 108 yX7_boxes, Cond.instanceMethod yX7_boxes, Cond.selects RX7 yX7_boxes yX7_boxes, Cond.code yX7_boxes cX7_boxes 2 (some .int)]
def wsX7_keep_r2 : List Cond := [Cond.fieldLink RX7 26 "ColourPartsModel" "cutCounts" "[I", Cond.fieldLink RX7 16 "ColourPartsModel" "corners" "[I", Cond.methodLink RX7 112 yX7_load, Cond.instanceMethod yX7_load, Cond.selects RX7 yX7_load yX7_load, Cond.code yX7_load cX7_load 14 none, Cond.fieldLink RX7 7 "ColourPartsModel" "cornerX" "[J", Cond.fieldLink RX7 13 "ColourPartsModel" "cornerY" "[J", Cond.fieldLink RX7 29 "ColourPartsModel" "standing" "[Z", Cond.fieldLink RX7 23 "ColourPartsModel" "cuts" "[J", Cond.fieldLink RX7 45 "ColourPartsModel" "two" "[J", Cond.methodLink RX7 101 yX7_low, Cond.static yX7_low, Cond.code yX7_low cX7_low 4 (some .long), Cond.methodLink RX7 105 yX7_high, Cond.static yX7_high, Cond.code yX7_high cX7_high 4 (some .long)]
def wsX7_keep : List Cond := .code yX7_keep cX7_keep 2 none :: ((wsX7_keep_r1 ++ wsX7_keep_r2) ++ wsX70)
def wsX7_isStep : List Cond := .code yX7_isStep cX7_isStep 6 (some .boolean) :: ([.fieldLink RX7 60 "ColourPartsModel" "walk" "[I", .fieldLink RX7 39 "ColourPartsModel" "nears" "[Z"] ++ wsX70)
def wsX7_isRing : List Cond := .code yX7_isRing cX7_isRing 3 (some .boolean) :: ([.fieldLink RX7 60 "ColourPartsModel" "walk" "[I", .fieldLink RX7 138 "ColourPartsModel" "pieces" "I", .methodLink RX7 157 yX7_isStep, .instanceMethod yX7_isStep, .selects RX7 yX7_isStep yX7_isStep, .initialized RX7, .code yX7_isStep cX7_isStep 6 (some .boolean), .fieldLink RX7 39 "ColourPartsModel" "nears" "[Z"] ++ wsX70)
def wsX7_findRing : List Cond := .code yX7_findRing cX7_findRing 3 none :: ([.fieldLink RX7 138 "ColourPartsModel" "pieces" "I", .fieldLink RX7 95 "ColourPartsModel" "ringLength" "I", .fieldLink RX7 63 "ColourPartsModel" "ringShapes" "[I", .fieldLink RX7 33 "ColourPartsModel" "pieceShapes" "[I", .fieldLink RX7 60 "ColourPartsModel" "walk" "[I", .methodLink RX7 160 yX7_isRing, .instanceMethod yX7_isRing, .selects RX7 yX7_isRing yX7_isRing, .initialized RX7, .code yX7_isRing cX7_isRing 3 (some .boolean), .methodLink RX7 157 yX7_isStep, .instanceMethod yX7_isStep, .selects RX7 yX7_isStep yX7_isStep, .code yX7_isStep cX7_isStep 6 (some .boolean), .fieldLink RX7 39 "ColourPartsModel" "nears" "[Z"] ++ wsX70)
def wsX7_run_r1 : List Cond := [Cond.fieldLink RX7 72 "ColourPartsModel" "code" "I", Cond.fieldLink RX7 98 "ColourPartsModel" "closed" "Z", Cond.fieldLink RX7 91 "ColourPartsModel" "kept" "Z", Cond.fieldLink RX7 95 "ColourPartsModel" "ringLength" "I", Cond.methodLink RX7 124 yX7_isOpen, Cond.instanceMethod yX7_isOpen, Cond.selects RX7 yX7_isOpen yX7_isOpen, Cond.initialized RX7, Cond.code yX7_isOpen cX7_isOpen 3 (some .boolean), Cond.fieldLink RX7 76 "ColourPartsModel" "shapes" "I", Cond.fieldLink RX7 16 "ColourPartsModel" "corners" "[I", Cond.methodLink RX7 79 yX7_allPieces, Cond.instanceMethod yX7_allPieces, Cond.selects RX7 yX7_allPieces yX7_allPieces, Cond.code yX7_allPieces cX7_allPieces 3 (some .int), Cond.fieldLink RX7 26 "ColourPartsModel" "cutCounts" "[I", Cond.methodLink RX7 163 yX7_part, Cond.instanceMethod yX7_part, Cond.selects RX7 yX7_part yX7_part, Cond.code yX7_part cX7_part 3 none, Cond.fieldLink RX7 138 "ColourPartsModel" "pieces" "I", Cond.fieldLink RX7 33 "ColourPartsModel" "pieceShapes" "[I", Cond.fieldLink RX7 36 "ColourPartsModel" "pieceNumbers" "[I", Cond.fieldLink RX7 39 "ColourPartsModel" "nears" "[Z"]
def wsX7_run_r2 : List Cond := [Cond.methodLink RX7 120 yX7_isNearPiece, Cond.instanceMethod yX7_isNearPiece, Cond.selects RX7 yX7_isNearPiece yX7_isNearPiece, Cond.code yX7_isNearPiece cX7_isNearPiece 8 (some .boolean), Cond.methodLink RX7 108 yX7_boxes, Cond.instanceMethod yX7_boxes, Cond.selects RX7 yX7_boxes yX7_boxes, Cond.code yX7_boxes cX7_boxes 2 (some .int), Cond.methodLink RX7 112 yX7_load, Cond.instanceMethod yX7_load, Cond.selects RX7 yX7_load yX7_load, Cond.code yX7_load cX7_load 14 none, Cond.fieldLink RX7 7 "ColourPartsModel" "cornerX" "[J", Cond.fieldLink RX7 13 "ColourPartsModel" "cornerY" "[J", Cond.fieldLink RX7 29 "ColourPartsModel" "standing" "[Z", Cond.fieldLink RX7 23 "ColourPartsModel" "cuts" "[J", Cond.fieldLink RX7 42 "ColourPartsModel" "one" "[J", Cond.fieldLink RX7 45 "ColourPartsModel" "two" "[J", Cond.methodLink RX7 101 yX7_low, Cond.static yX7_low, Cond.code yX7_low cX7_low 4 (some .long), Cond.methodLink RX7 105 yX7_high, Cond.static yX7_high, Cond.code yX7_high cX7_high 4 (some .long)]
def wsX7_run_r3 : List Cond := [Cond.methodLink RX7 116 yX7_isNearBox, Cond.instanceMethod yX7_isNearBox, Cond.selects RX7 yX7_isNearBox yX7_isNearBox, Cond.code yX7_isNearBox cX7_isNearBox 5 (some .boolean), Cond.fieldLink RX7 68 "ColourPartsModel" "distance" "J", Cond.methodLink RX7 166 yX7_isFound, Cond.instanceMethod yX7_isFound, Cond.selects RX7 yX7_isFound yX7_isFound, Cond.code yX7_isFound cX7_isFound 4 (some .boolean), Cond.fieldLink RX7 48 "ColourPartsModel" "colours" "[I", Cond.methodLink RX7 144 yX7_fits, Cond.instanceMethod yX7_fits, Cond.selects RX7 yX7_fits yX7_fits, Cond.code yX7_fits cX7_fits 6 (some .boolean), Cond.fieldLink RX7 20 "ColourPartsModel" "told" "[I", Cond.methodLink RX7 141 yX7_usedUpTo, Cond.instanceMethod yX7_usedUpTo, Cond.selects RX7 yX7_usedUpTo yX7_usedUpTo, Cond.code yX7_usedUpTo cX7_usedUpTo 4 (some .int), Cond.methodLink RX7 169 yX7_keep, Cond.instanceMethod yX7_keep, Cond.selects RX7 yX7_keep yX7_keep, Cond.code yX7_keep cX7_keep 2 none, Cond.fieldLink RX7 147 "ColourPartsModel" "keptPieces" "I"]
def wsX7_run_r4 : List Cond := [Cond.fieldLink RX7 150 "ColourPartsModel" "keptStitches" "I", Cond.fieldLink RX7 51 "ColourPartsModel" "keptShapes" "[I", Cond.fieldLink RX7 54 "ColourPartsModel" "keptColours" "[I", Cond.fieldLink RX7 57 "ColourPartsModel" "keptAreas" "[J", Cond.methodLink RX7 153 yX7_areaOf, Cond.instanceMethod yX7_areaOf, Cond.selects RX7 yX7_areaOf yX7_areaOf, Cond.code yX7_areaOf cX7_areaOf 5 (some .long), Cond.methodLink RX7 172 yX7_findRing, Cond.instanceMethod yX7_findRing, Cond.selects RX7 yX7_findRing yX7_findRing, Cond.code yX7_findRing cX7_findRing 3 none, Cond.fieldLink RX7 63 "ColourPartsModel" "ringShapes" "[I", Cond.fieldLink RX7 60 "ColourPartsModel" "walk" "[I", Cond.methodLink RX7 160 yX7_isRing, Cond.instanceMethod yX7_isRing, Cond.selects RX7 yX7_isRing yX7_isRing, Cond.code yX7_isRing cX7_isRing 3 (some .boolean), Cond.methodLink RX7 157 yX7_isStep, Cond.instanceMethod yX7_isStep, Cond.selects RX7 yX7_isStep yX7_isStep, Cond.code yX7_isStep cX7_isStep 6 (some .boolean)]
def wsX7_run : List Cond := .code yX7_run cX7_run 5 (some .int) :: ((wsX7_run_r1 ++ (wsX7_run_r2 ++ (wsX7_run_r3 ++ wsX7_run_r4))) ++ wsX70)
def wsX7_firstOf : List Cond := .code yX7_firstOf cX7_firstOf 3 (some .int) :: ([.fieldLink RX7 147 "ColourPartsModel" "keptPieces" "I", .fieldLink RX7 91 "ColourPartsModel" "kept" "Z", .fieldLink RX7 51 "ColourPartsModel" "keptShapes" "[I"] ++ wsX70)
def wsX7_colour : List Cond := .code yX7_colour cX7_colour 3 (some .int) :: ([.fieldLink RX7 72 "ColourPartsModel" "code" "I", .fieldLink RX7 54 "ColourPartsModel" "keptColours" "[I", .methodLink RX7 83 yX7_isShape, .instanceMethod yX7_isShape, .selects RX7 yX7_isShape yX7_isShape, .initialized RX7, .code yX7_isShape cX7_isShape 2 (some .boolean), .fieldLink RX7 76 "ColourPartsModel" "shapes" "I", .methodLink RX7 175 yX7_firstOf, .instanceMethod yX7_firstOf, .selects RX7 yX7_firstOf yX7_firstOf, .code yX7_firstOf cX7_firstOf 3 (some .int), .fieldLink RX7 147 "ColourPartsModel" "keptPieces" "I", .fieldLink RX7 91 "ColourPartsModel" "kept" "Z", .fieldLink RX7 51 "ColourPartsModel" "keptShapes" "[I"] ++ wsX70)
def wsX7_ring : List Cond := .code yX7_ring cX7_ring 2 (some .int) :: ([.fieldLink RX7 95 "ColourPartsModel" "ringLength" "I", .fieldLink RX7 72 "ColourPartsModel" "code" "I", .fieldLink RX7 63 "ColourPartsModel" "ringShapes" "[I"] ++ wsX70)
def wsX7_length : List Cond := .code yX7_length cX7_length 1 (some .int) :: ([.fieldLink RX7 72 "ColourPartsModel" "code" "I", .fieldLink RX7 95 "ColourPartsModel" "ringLength" "I"] ++ wsX70)
def wsX7_stitches : List Cond := .code yX7_stitches cX7_stitches 1 (some .int) :: ([.fieldLink RX7 72 "ColourPartsModel" "code" "I", .fieldLink RX7 91 "ColourPartsModel" "kept" "Z", .fieldLink RX7 150 "ColourPartsModel" "keptStitches" "I"] ++ wsX70)
def wsX7_used : List Cond := .code yX7_used cX7_used 5 (some .boolean) :: ([.fieldLink RX7 26 "ColourPartsModel" "cutCounts" "[I", .fieldLink RX7 147 "ColourPartsModel" "keptPieces" "I", .fieldLink RX7 51 "ColourPartsModel" "keptShapes" "[I", .fieldLink RX7 72 "ColourPartsModel" "code" "I", .fieldLink RX7 54 "ColourPartsModel" "keptColours" "[I", .methodLink RX7 83 yX7_isShape, .instanceMethod yX7_isShape, .selects RX7 yX7_isShape yX7_isShape, .initialized RX7, .code yX7_isShape cX7_isShape 2 (some .boolean), .fieldLink RX7 76 "ColourPartsModel" "shapes" "I", .methodLink RX7 175 yX7_firstOf, .instanceMethod yX7_firstOf, .selects RX7 yX7_firstOf yX7_firstOf, .code yX7_firstOf cX7_firstOf 3 (some .int), .fieldLink RX7 91 "ColourPartsModel" "kept" "Z"] ++ wsX70)
def wsX7_balance : List Cond := .code yX7_balance cX7_balance 6 (some .long) :: ([.fieldLink RX7 72 "ColourPartsModel" "code" "I", .fieldLink RX7 147 "ColourPartsModel" "keptPieces" "I", .fieldLink RX7 91 "ColourPartsModel" "kept" "Z", .fieldLink RX7 54 "ColourPartsModel" "keptColours" "[I", .fieldLink RX7 57 "ColourPartsModel" "keptAreas" "[J"] ++ wsX70)
def wsX7_closed : List Cond := .code yX7_closed cX7_closed 1 (some .boolean) :: ([.fieldLink RX7 72 "ColourPartsModel" "code" "I", .fieldLink RX7 98 "ColourPartsModel" "closed" "Z"] ++ wsX70)
def wsJ9_max_7cf53 : List Cond := .code yJ9_max_7cf53 cJ9_max_7cf53 2 (some .int) :: ([])
def wsJ9_max_f86c9 : List Cond := .code yJ9_max_f86c9 cJ9_max_f86c9 4 (some .long) :: ([])
def wsJ9_min_7cf53 : List Cond := .code yJ9_min_7cf53 cJ9_min_7cf53 2 (some .int) :: ([])
def wsJ9_min_f86c9 : List Cond := .code yJ9_min_f86c9 cJ9_min_f86c9 4 (some .long) :: ([])
abbrev vwCl : List vw_C := [(RJx4a65c, TJx4a65c, 3), (RX0, TX0, 4), (RX1, TX1, 6), (RX2, TX2, 4), (RX3, TX3, 1), (RX4, TX4, 9), (RX5, TX5, 9), (RX6, TX6, 6), (RX7, TX7, 27)]
end
section
set_option maxRecDepth 20000 in
theorem ggX0_isNearAny_Jx4a65c_size_8abf5 : GoodIn wsX0_isNearAny wsJx4a65c_size_8abf5 := goodIn_r _ [6, 7, 41, 42, 43] (by decide +kernel) (by decide +kernel)
set_option maxRecDepth 20000 in
theorem gX0_isNearAny_Jx4a65c_size_8abf5 : GoodIn wsX0_isNearAny (wsV RX0 22 RJx4a65c yJx4a65c_size_8abf5 wsJx4a65c_size_8abf5) := goodIn_app (goodIn_of _ (by decide +kernel)) ggX0_isNearAny_Jx4a65c_size_8abf5
set_option maxRecDepth 20000 in
theorem ggX0_isNearAny_Jx4a65c_get_915e3 : GoodIn wsX0_isNearAny wsJx4a65c_get_915e3 := goodIn_r _ [11, 7, 12, 13, 14, 15, 16, 17, 18, 19, 20, 21, 22, 5, 23, 24, 41, 42, 43] (by decide +kernel) (by decide +kernel)
set_option maxRecDepth 20000 in
theorem gX0_isNearAny_Jx4a65c_get_915e3 : GoodIn wsX0_isNearAny (wsV RX0 28 RJx4a65c yJx4a65c_get_915e3 wsJx4a65c_get_915e3) := goodIn_app (goodIn_of _ (by decide +kernel)) ggX0_isNearAny_Jx4a65c_get_915e3
set_option maxRecDepth 20000 in
theorem ggX0_isNearAny_X0_isNearBox : GoodIn wsX0_isNearAny wsX0_isNearBox := goodIn_r _ [29, 30, 31, 32, 33, 34, 35, 28, 36, 37, 38, 39, 40, 44, 45, 46, 47] (by decide +kernel) (by decide +kernel)
set_option maxRecDepth 20000 in
theorem gX0_isNearAny_X0_isNearBox : GoodIn wsX0_isNearAny (wsV RX0 32 RX0 yX0_isNearBox wsX0_isNearBox) := goodIn_app (goodIn_of _ (by decide +kernel)) ggX0_isNearAny_X0_isNearBox
set_option maxRecDepth 20000 in
theorem ggX0_isNearBox_X0_gap : GoodIn wsX0_isNearBox wsX0_gap := goodIn_r _ [8, 9, 10, 11, 12] (by decide +kernel) (by decide +kernel)
set_option maxRecDepth 20000 in
theorem gX0_isNearBox_X0_gap : GoodIn wsX0_isNearBox (va_wsS RX0 36 yX0_gap wsX0_gap) := goodIn_app (goodIn_of _ (by decide +kernel)) ggX0_isNearBox_X0_gap
set_option maxRecDepth 20000 in
theorem ggX1_init_X3_count : GoodIn wsX1_init wsX3_count := goodIn_r _ [16, 17, 18, 19, 20, 21, 22, 23, 93, 94, 95, 96] (by decide +kernel) (by decide +kernel)
set_option maxRecDepth 20000 in
theorem gX1_init_X3_count : GoodIn wsX1_init (wsV RX1 32 RX3 yX3_count wsX3_count) := goodIn_app (goodIn_of _ (by decide +kernel)) ggX1_init_X3_count
set_option maxRecDepth 20000 in
theorem ggX1_init_X3_areas : GoodIn wsX1_init wsX3_areas := goodIn_r _ [27, 17, 28, 18, 19, 20, 21, 22, 23, 29, 30, 31, 32, 33, 34, 35, 36, 37, 38, 39, 40, 41, 42, 43, 44, 45, 46, 47, 48, 49, 50, 51, 52, 53, 54, 55, 56, 57, 58, 59, 60, 61, 62, 63, 93, 94, 95, 96, 97, 98, 99, 100, 101, 102, 103, 104] (by decide +kernel) (by decide +kernel)
set_option maxRecDepth 20000 in
theorem gX1_init_X3_areas : GoodIn wsX1_init (wsV RX1 38 RX3 yX3_areas wsX3_areas) := goodIn_app (goodIn_of _ (by decide +kernel)) ggX1_init_X3_areas
set_option maxRecDepth 20000 in
theorem ggX1_init_X1_weigh : GoodIn wsX1_init wsX1_weigh := goodIn_r _ [68, 8, 10, 87, 88, 89, 90, 91, 92] (by decide +kernel) (by decide +kernel)
set_option maxRecDepth 20000 in
theorem gX1_init_X1_weigh : GoodIn wsX1_init (wsV RX1 41 RX1 yX1_weigh wsX1_weigh) := goodIn_app (goodIn_of _ (by decide +kernel)) ggX1_init_X1_weigh
set_option maxRecDepth 20000 in
theorem ggX1_init_X3_isAfterStitch : GoodIn wsX1_init wsX3_isAfterStitch := goodIn_r _ [72, 73, 74, 75, 15, 76, 17, 28, 77, 18, 19, 20, 21, 22, 23, 29, 30, 31, 32, 33, 34, 35, 36, 37, 38, 39, 40, 41, 42, 43, 44, 45, 93, 97, 98, 99, 100, 94, 95, 96] (by decide +kernel) (by decide +kernel)
set_option maxRecDepth 20000 in
theorem gX1_init_X3_isAfterStitch : GoodIn wsX1_init (wsV RX1 45 RX3 yX3_isAfterStitch wsX3_isAfterStitch) := goodIn_app (goodIn_of _ (by decide +kernel)) ggX1_init_X3_isAfterStitch
set_option maxRecDepth 20000 in
theorem ggX1_init_X3_owner : GoodIn wsX1_init wsX3_owner := goodIn_r _ [76, 17, 28, 77, 18, 19, 20, 21, 22, 23, 29, 30, 31, 32, 33, 34, 35, 36, 37, 38, 39, 40, 41, 42, 43, 44, 45, 93, 97, 98, 99, 100, 94, 95, 96] (by decide +kernel) (by decide +kernel)
set_option maxRecDepth 20000 in
theorem gX1_init_X3_owner : GoodIn wsX1_init (wsV RX1 49 RX3 yX3_owner wsX3_owner) := goodIn_app (goodIn_of _ (by decide +kernel)) ggX1_init_X3_owner
set_option maxRecDepth 20000 in
theorem ggX1_init_X1_noteStitch : GoodIn wsX1_init wsX1_noteStitch := goodIn_r _ [82, 7, 6, 87, 88, 89, 90, 91, 92] (by decide +kernel) (by decide +kernel)
set_option maxRecDepth 20000 in
theorem gX1_init_X1_noteStitch : GoodIn wsX1_init (wsV RX1 53 RX1 yX1_noteStitch wsX1_noteStitch) := goodIn_app (goodIn_of _ (by decide +kernel)) ggX1_init_X1_noteStitch
set_option maxRecDepth 20000 in
theorem ggX1_init_X1_noteFirst : GoodIn wsX1_init wsX1_noteFirst := goodIn_r _ [86, 5, 87, 88, 89, 90, 91, 92] (by decide +kernel) (by decide +kernel)
set_option maxRecDepth 20000 in
theorem gX1_init_X1_noteFirst : GoodIn wsX1_init (wsV RX1 57 RX1 yX1_noteFirst wsX1_noteFirst) := goodIn_app (goodIn_of _ (by decide +kernel)) ggX1_init_X1_noteFirst
set_option maxRecDepth 20000 in
theorem ggX2_areas_Jx4a65c_size_8abf5 : GoodIn wsX2_areas wsJx4a65c_size_8abf5 := goodIn_r _ [7, 8, 39, 40, 41] (by decide +kernel) (by decide +kernel)
set_option maxRecDepth 20000 in
theorem gX2_areas_Jx4a65c_size_8abf5 : GoodIn wsX2_areas (wsV RX2 23 RJx4a65c yJx4a65c_size_8abf5 wsJx4a65c_size_8abf5) := goodIn_app (goodIn_of _ (by decide +kernel)) ggX2_areas_Jx4a65c_size_8abf5
set_option maxRecDepth 20000 in
theorem ggX2_areas_Jx4a65c_get_915e3 : GoodIn wsX2_areas wsJx4a65c_get_915e3 := goodIn_r _ [12, 8, 13, 14, 15, 16, 17, 18, 19, 20, 21, 22, 23, 6, 24, 25, 39, 40, 41] (by decide +kernel) (by decide +kernel)
set_option maxRecDepth 20000 in
theorem gX2_areas_Jx4a65c_get_915e3 : GoodIn wsX2_areas (wsV RX2 29 RJx4a65c yJx4a65c_get_915e3 wsJx4a65c_get_915e3) := goodIn_app (goodIn_of _ (by decide +kernel)) ggX2_areas_Jx4a65c_get_915e3
set_option maxRecDepth 20000 in
theorem ggX2_areas_X0_area : GoodIn wsX2_areas wsX0_area := goodIn_r _ [30, 31, 32, 33, 34, 42, 43, 44, 45] (by decide +kernel) (by decide +kernel)
set_option maxRecDepth 20000 in
theorem gX2_areas_X0_area : GoodIn wsX2_areas (wsV RX2 35 RX0 yX0_area wsX0_area) := goodIn_app (goodIn_of _ (by decide +kernel)) ggX2_areas_X0_area
set_option maxRecDepth 20000 in
theorem ggX2_isNearPiece_Jx4a65c_size_8abf5 : GoodIn wsX2_isNearPiece wsJx4a65c_size_8abf5 := goodIn_r _ [7, 8, 53, 54, 55] (by decide +kernel) (by decide +kernel)
set_option maxRecDepth 20000 in
theorem gX2_isNearPiece_Jx4a65c_size_8abf5 : GoodIn wsX2_isNearPiece (wsV RX2 23 RJx4a65c yJx4a65c_size_8abf5 wsJx4a65c_size_8abf5) := goodIn_app (goodIn_of _ (by decide +kernel)) ggX2_isNearPiece_Jx4a65c_size_8abf5
set_option maxRecDepth 20000 in
theorem ggX2_isNearPiece_Jx4a65c_get_915e3 : GoodIn wsX2_isNearPiece wsJx4a65c_get_915e3 := goodIn_r _ [12, 8, 13, 14, 15, 16, 17, 18, 19, 20, 21, 22, 23, 6, 24, 25, 53, 54, 55] (by decide +kernel) (by decide +kernel)
set_option maxRecDepth 20000 in
theorem gX2_isNearPiece_Jx4a65c_get_915e3 : GoodIn wsX2_isNearPiece (wsV RX2 29 RJx4a65c yJx4a65c_get_915e3 wsJx4a65c_get_915e3) := goodIn_app (goodIn_of _ (by decide +kernel)) ggX2_isNearPiece_Jx4a65c_get_915e3
set_option maxRecDepth 20000 in
theorem ggX2_isNearPiece_X0_isNearAny : GoodIn wsX2_isNearPiece wsX0_isNearAny := goodIn_r _ [30, 31, 32, 4, 5, 6, 7, 8, 33, 10, 11, 12, 13, 14, 15, 16, 17, 18, 19, 20, 21, 22, 23, 24, 25, 34, 35, 36, 29, 37, 38, 39, 40, 41, 42, 43, 44, 45, 46, 47, 48, 53, 54, 55, 56, 57, 58, 59] (by decide +kernel) (by decide +kernel)
set_option maxRecDepth 20000 in
theorem gX2_isNearPiece_X0_isNearAny : GoodIn wsX2_isNearPiece (wsV RX2 39 RX0 yX0_isNearAny wsX0_isNearAny) := goodIn_app (goodIn_of _ (by decide +kernel)) ggX2_isNearPiece_X0_isNearAny
set_option maxRecDepth 20000 in
theorem ggX3_init_Jx4a65c_init_da8c8 : GoodIn wsX3_init wsJx4a65c_init_da8c8 := goodIn_r _ [10, 11, 12, 13, 14, 15, 16, 17, 18, 19, 20, 21, 22, 2, 3, 23, 24, 25] (by decide +kernel) (by decide +kernel)
set_option maxRecDepth 20000 in
theorem gX3_init_Jx4a65c_init_da8c8 : GoodIn wsX3_init (wsJx4a65c_init_da8c8) := ggX3_init_Jx4a65c_init_da8c8
set_option maxRecDepth 20000 in
theorem ggX3_add_Jx4a65c_size_8abf5 : GoodIn wsX3_add wsJx4a65c_size_8abf5 := goodIn_r _ [9, 10, 80, 81, 82] (by decide +kernel) (by decide +kernel)
set_option maxRecDepth 20000 in
theorem gX3_add_Jx4a65c_size_8abf5 : GoodIn wsX3_add (wsV RX3 18 RJx4a65c yJx4a65c_size_8abf5 wsJx4a65c_size_8abf5) := goodIn_app (goodIn_of _ (by decide +kernel)) ggX3_add_Jx4a65c_size_8abf5
set_option maxRecDepth 20000 in
theorem ggX3_add_X2_init : GoodIn wsX3_add wsX2_init := goodIn_r _ [13, 14, 15, 16, 17, 18, 19, 20, 76, 77, 78, 79] (by decide +kernel) (by decide +kernel)
set_option maxRecDepth 20000 in
theorem gX3_add_X2_init : GoodIn wsX3_add (wsX2_init) := ggX3_add_X2_init
set_option maxRecDepth 20000 in
theorem ggX3_add_Jx4a65c_add_9ea2d : GoodIn wsX3_add wsJx4a65c_add_9ea2d := goodIn_r _ [24, 25, 26, 27, 10, 28, 29, 30, 8, 31, 32, 33, 34, 35, 36, 37, 38, 39, 40, 41, 42, 43, 44, 45, 46, 47, 48, 49, 50, 51, 52, 53, 54, 55, 56, 57, 58, 59, 60, 61, 62, 63, 64, 65, 66, 67, 68, 69, 70, 71, 72, 73, 74, 80, 81, 82] (by decide +kernel) (by decide +kernel)
set_option maxRecDepth 20000 in
theorem gX3_add_Jx4a65c_add_9ea2d : GoodIn wsX3_add (wsV RX3 27 RJx4a65c yJx4a65c_add_9ea2d wsJx4a65c_add_9ea2d) := goodIn_app (goodIn_of _ (by decide +kernel)) ggX3_add_Jx4a65c_add_9ea2d
set_option maxRecDepth 20000 in
theorem ggX3_count_Jx4a65c_size_8abf5 : GoodIn wsX3_count wsJx4a65c_size_8abf5 := goodIn_r _ [6, 7, 9, 10, 11] (by decide +kernel) (by decide +kernel)
set_option maxRecDepth 20000 in
theorem gX3_count_Jx4a65c_size_8abf5 : GoodIn wsX3_count (wsV RX3 18 RJx4a65c yJx4a65c_size_8abf5 wsJx4a65c_size_8abf5) := goodIn_app (goodIn_of _ (by decide +kernel)) ggX3_count_Jx4a65c_size_8abf5
set_option maxRecDepth 20000 in
theorem ggX3_owner_Jx4a65c_size_8abf5 : GoodIn wsX3_owner wsJx4a65c_size_8abf5 := goodIn_r _ [8, 9, 32, 33, 34] (by decide +kernel) (by decide +kernel)
set_option maxRecDepth 20000 in
theorem gX3_owner_Jx4a65c_size_8abf5 : GoodIn wsX3_owner (wsV RX3 18 RJx4a65c yJx4a65c_size_8abf5 wsJx4a65c_size_8abf5) := goodIn_app (goodIn_of _ (by decide +kernel)) ggX3_owner_Jx4a65c_size_8abf5
set_option maxRecDepth 20000 in
theorem ggX3_owner_Jx4a65c_get_915e3 : GoodIn wsX3_owner wsJx4a65c_get_915e3 := goodIn_r _ [13, 9, 14, 15, 16, 17, 18, 19, 20, 21, 22, 23, 24, 7, 25, 26, 32, 33, 34] (by decide +kernel) (by decide +kernel)
set_option maxRecDepth 20000 in
theorem gX3_owner_Jx4a65c_get_915e3 : GoodIn wsX3_owner (wsV RX3 31 RJx4a65c yJx4a65c_get_915e3 wsJx4a65c_get_915e3) := goodIn_app (goodIn_of _ (by decide +kernel)) ggX3_owner_Jx4a65c_get_915e3
set_option maxRecDepth 20000 in
theorem ggX3_told_Jx4a65c_size_8abf5 : GoodIn wsX3_told wsJx4a65c_size_8abf5 := goodIn_r _ [8, 9, 32, 33, 34] (by decide +kernel) (by decide +kernel)
set_option maxRecDepth 20000 in
theorem gX3_told_Jx4a65c_size_8abf5 : GoodIn wsX3_told (wsV RX3 18 RJx4a65c yJx4a65c_size_8abf5 wsJx4a65c_size_8abf5) := goodIn_app (goodIn_of _ (by decide +kernel)) ggX3_told_Jx4a65c_size_8abf5
set_option maxRecDepth 20000 in
theorem ggX3_told_Jx4a65c_get_915e3 : GoodIn wsX3_told wsJx4a65c_get_915e3 := goodIn_r _ [13, 9, 14, 15, 16, 17, 18, 19, 20, 21, 22, 23, 24, 7, 25, 26, 32, 33, 34] (by decide +kernel) (by decide +kernel)
set_option maxRecDepth 20000 in
theorem gX3_told_Jx4a65c_get_915e3 : GoodIn wsX3_told (wsV RX3 31 RJx4a65c yJx4a65c_get_915e3 wsJx4a65c_get_915e3) := goodIn_app (goodIn_of _ (by decide +kernel)) ggX3_told_Jx4a65c_get_915e3
set_option maxRecDepth 20000 in
theorem ggX3_nearPieces_Jx4a65c_size_8abf5 : GoodIn wsX3_nearPieces wsJx4a65c_size_8abf5 := goodIn_r _ [8, 9, 32, 33, 34] (by decide +kernel) (by decide +kernel)
set_option maxRecDepth 20000 in
theorem gX3_nearPieces_Jx4a65c_size_8abf5 : GoodIn wsX3_nearPieces (wsV RX3 18 RJx4a65c yJx4a65c_size_8abf5 wsJx4a65c_size_8abf5) := goodIn_app (goodIn_of _ (by decide +kernel)) ggX3_nearPieces_Jx4a65c_size_8abf5
set_option maxRecDepth 20000 in
theorem ggX3_nearPieces_Jx4a65c_get_915e3 : GoodIn wsX3_nearPieces wsJx4a65c_get_915e3 := goodIn_r _ [13, 9, 14, 15, 16, 17, 18, 19, 20, 21, 22, 23, 24, 7, 25, 26, 32, 33, 34] (by decide +kernel) (by decide +kernel)
set_option maxRecDepth 20000 in
theorem gX3_nearPieces_Jx4a65c_get_915e3 : GoodIn wsX3_nearPieces (wsV RX3 31 RJx4a65c yJx4a65c_get_915e3 wsJx4a65c_get_915e3) := goodIn_app (goodIn_of _ (by decide +kernel)) ggX3_nearPieces_Jx4a65c_get_915e3
set_option maxRecDepth 20000 in
theorem ggX3_areas_Jx4a65c_size_8abf5 : GoodIn wsX3_areas wsJx4a65c_size_8abf5 := goodIn_r _ [7, 8, 45, 46, 47] (by decide +kernel) (by decide +kernel)
set_option maxRecDepth 20000 in
theorem gX3_areas_Jx4a65c_size_8abf5 : GoodIn wsX3_areas (wsV RX3 18 RJx4a65c yJx4a65c_size_8abf5 wsJx4a65c_size_8abf5) := goodIn_app (goodIn_of _ (by decide +kernel)) ggX3_areas_Jx4a65c_size_8abf5
set_option maxRecDepth 20000 in
theorem ggX3_areas_Jx4a65c_get_915e3 : GoodIn wsX3_areas wsJx4a65c_get_915e3 := goodIn_r _ [12, 8, 13, 14, 15, 16, 17, 18, 19, 20, 21, 22, 23, 6, 24, 25, 45, 46, 47] (by decide +kernel) (by decide +kernel)
set_option maxRecDepth 20000 in
theorem gX3_areas_Jx4a65c_get_915e3 : GoodIn wsX3_areas (wsV RX3 31 RJx4a65c yJx4a65c_get_915e3 wsJx4a65c_get_915e3) := goodIn_app (goodIn_of _ (by decide +kernel)) ggX3_areas_Jx4a65c_get_915e3
end
section
set_option maxRecDepth 20000 in
theorem ggX3_areas_X2_areas : GoodIn wsX3_areas wsX2_areas := goodIn_r _ [30, 31, 32, 33, 4, 5, 6, 7, 8, 34, 10, 11, 12, 13, 14, 15, 16, 17, 18, 19, 20, 21, 22, 23, 24, 25, 35, 36, 37, 38, 39, 40, 41, 42, 43, 48, 49, 50, 51, 45, 46, 47, 52, 53, 54, 55] (by decide +kernel) (by decide +kernel)
set_option maxRecDepth 20000 in
theorem gX3_areas_X2_areas : GoodIn wsX3_areas (wsV RX3 45 RX2 yX2_areas wsX2_areas) := goodIn_app (goodIn_of _ (by decide +kernel)) ggX3_areas_X2_areas
set_option maxRecDepth 20000 in
theorem ggX3_isAfterStitch_X3_owner : GoodIn wsX3_isAfterStitch wsX3_owner := goodIn_r _ [5, 6, 7, 8, 9, 10, 11, 12, 13, 14, 15, 16, 17, 18, 19, 20, 21, 22, 23, 24, 25, 26, 27, 28, 29, 30, 31, 32, 33, 34, 35, 36, 37, 38, 39] (by decide +kernel) (by decide +kernel)
set_option maxRecDepth 20000 in
theorem gX3_isAfterStitch_X3_owner : GoodIn wsX3_isAfterStitch (wsV RX3 49 RX3 yX3_owner wsX3_owner) := goodIn_app (goodIn_of _ (by decide +kernel)) ggX3_isAfterStitch_X3_owner
set_option maxRecDepth 20000 in
theorem ggX3_findNearOnes_Jx4a65c_size_8abf5 : GoodIn wsX3_findNearOnes wsJx4a65c_size_8abf5 := goodIn_r _ [9, 10, 65, 66, 67] (by decide +kernel) (by decide +kernel)
set_option maxRecDepth 20000 in
theorem gX3_findNearOnes_Jx4a65c_size_8abf5 : GoodIn wsX3_findNearOnes (wsV RX3 18 RJx4a65c yJx4a65c_size_8abf5 wsJx4a65c_size_8abf5) := goodIn_app (goodIn_of _ (by decide +kernel)) ggX3_findNearOnes_Jx4a65c_size_8abf5
set_option maxRecDepth 20000 in
theorem ggX3_findNearOnes_Jx4a65c_get_915e3 : GoodIn wsX3_findNearOnes wsJx4a65c_get_915e3 := goodIn_r _ [14, 10, 15, 16, 17, 18, 19, 20, 21, 22, 23, 24, 25, 8, 26, 27, 65, 66, 67] (by decide +kernel) (by decide +kernel)
set_option maxRecDepth 20000 in
theorem gX3_findNearOnes_Jx4a65c_get_915e3 : GoodIn wsX3_findNearOnes (wsV RX3 31 RJx4a65c yJx4a65c_get_915e3 wsJx4a65c_get_915e3) := goodIn_app (goodIn_of _ (by decide +kernel)) ggX3_findNearOnes_Jx4a65c_get_915e3
set_option maxRecDepth 20000 in
theorem ggX3_findNearOnes_X2_isNearPiece : GoodIn wsX3_findNearOnes wsX2_isNearPiece := goodIn_r _ [32, 33, 34, 35, 6, 7, 8, 9, 10, 36, 12, 13, 14, 15, 16, 17, 18, 19, 20, 21, 22, 23, 24, 25, 26, 27, 37, 38, 39, 40, 41, 42, 43, 44, 45, 46, 47, 48, 49, 50, 51, 52, 53, 54, 55, 56, 57, 58, 59, 61, 62, 63, 64, 65, 66, 67, 68, 69, 70, 71] (by decide +kernel) (by decide +kernel)
set_option maxRecDepth 20000 in
theorem gX3_findNearOnes_X2_isNearPiece : GoodIn wsX3_findNearOnes (wsV RX3 52 RX2 yX2_isNearPiece wsX2_isNearPiece) := goodIn_app (goodIn_of _ (by decide +kernel)) ggX3_findNearOnes_X2_isNearPiece
set_option maxRecDepth 20000 in
theorem ggX3_findOddRing_Jx4a65c_size_8abf5 : GoodIn wsX3_findOddRing wsJx4a65c_size_8abf5 := goodIn_r _ [7, 8, 56, 57, 58] (by decide +kernel) (by decide +kernel)
set_option maxRecDepth 20000 in
theorem gX3_findOddRing_Jx4a65c_size_8abf5 : GoodIn wsX3_findOddRing (wsV RX3 18 RJx4a65c yJx4a65c_size_8abf5 wsJx4a65c_size_8abf5) := goodIn_app (goodIn_of _ (by decide +kernel)) ggX3_findOddRing_Jx4a65c_size_8abf5
set_option maxRecDepth 20000 in
theorem ggX3_findOddRing_X3_fillWalks : GoodIn wsX3_findOddRing wsX3_fillWalks := goodIn_r _ [13, 14, 15, 16, 12, 17, 2, 3, 4, 5, 6, 7, 8, 18, 19, 20, 21, 22, 23, 24, 25, 26, 27, 28, 29, 30, 31, 32, 33, 34, 35, 36, 37, 38, 39, 40, 55, 56, 57, 58, 59, 60, 61, 62] (by decide +kernel) (by decide +kernel)
set_option maxRecDepth 20000 in
theorem gX3_findOddRing_X3_fillWalks : GoodIn wsX3_findOddRing (wsV RX3 56 RX3 yX3_fillWalks wsX3_fillWalks) := goodIn_app (goodIn_of _ (by decide +kernel)) ggX3_findOddRing_X3_fillWalks
set_option maxRecDepth 20000 in
theorem ggX3_findOddRing_X3_writeLeastRing : GoodIn wsX3_findOddRing wsX3_writeLeastRing := goodIn_r _ [44, 45, 46, 47, 12, 48, 2, 22, 49, 3, 4, 5, 6, 7, 8, 24, 25, 26, 27, 28, 29, 30, 31, 32, 33, 34, 35, 36, 37, 38, 39, 40, 18, 19, 20, 21, 23, 50, 51, 52, 53, 54, 55, 59, 60, 61, 62, 56, 57, 58] (by decide +kernel) (by decide +kernel)
set_option maxRecDepth 20000 in
theorem gX3_findOddRing_X3_writeLeastRing : GoodIn wsX3_findOddRing (wsV RX3 60 RX3 yX3_writeLeastRing wsX3_writeLeastRing) := goodIn_app (goodIn_of _ (by decide +kernel)) ggX3_findOddRing_X3_writeLeastRing
set_option maxRecDepth 20000 in
theorem ggX3_fillWalks_X3_nearAnyOf : GoodIn wsX3_fillWalks wsX3_nearAnyOf := goodIn_r _ [5, 6, 7, 8, 9, 10, 11, 12, 13, 14, 15, 4, 16, 17, 18, 19, 20, 21, 22, 23, 24, 25, 26, 27, 28, 29, 30, 31, 32, 33, 34, 35, 36, 37, 38, 39, 40, 41, 42, 43] (by decide +kernel) (by decide +kernel)
set_option maxRecDepth 20000 in
theorem gX3_fillWalks_X3_nearAnyOf : GoodIn wsX3_fillWalks (wsV RX3 64 RX3 yX3_nearAnyOf wsX3_nearAnyOf) := goodIn_app (goodIn_of _ (by decide +kernel)) ggX3_fillWalks_X3_nearAnyOf
set_option maxRecDepth 20000 in
theorem ggX3_nearAnyOf_Jx4a65c_size_8abf5 : GoodIn wsX3_nearAnyOf wsJx4a65c_size_8abf5 := goodIn_r _ [6, 7, 33, 34, 35] (by decide +kernel) (by decide +kernel)
set_option maxRecDepth 20000 in
theorem gX3_nearAnyOf_Jx4a65c_size_8abf5 : GoodIn wsX3_nearAnyOf (wsV RX3 18 RJx4a65c yJx4a65c_size_8abf5 wsJx4a65c_size_8abf5) := goodIn_app (goodIn_of _ (by decide +kernel)) ggX3_nearAnyOf_Jx4a65c_size_8abf5
set_option maxRecDepth 20000 in
theorem ggX3_nearAnyOf_X3_nearPieces : GoodIn wsX3_nearAnyOf wsX3_nearPieces := goodIn_r _ [12, 1, 13, 14, 2, 3, 4, 5, 6, 7, 15, 16, 17, 18, 19, 20, 21, 22, 23, 24, 25, 26, 27, 28, 29, 30, 31, 32, 36, 37, 38, 39, 33, 34, 35] (by decide +kernel) (by decide +kernel)
set_option maxRecDepth 20000 in
theorem gX3_nearAnyOf_X3_nearPieces : GoodIn wsX3_nearAnyOf (wsV RX3 67 RX3 yX3_nearPieces wsX3_nearPieces) := goodIn_app (goodIn_of _ (by decide +kernel)) ggX3_nearAnyOf_X3_nearPieces
set_option maxRecDepth 20000 in
theorem ggX3_writeLeastRing_X3_owner : GoodIn wsX3_writeLeastRing wsX3_owner := goodIn_r _ [5, 6, 7, 8, 9, 10, 11, 12, 13, 14, 15, 16, 17, 18, 19, 20, 21, 22, 23, 24, 25, 26, 27, 28, 29, 30, 31, 42, 43, 44, 45, 46, 47, 48, 49] (by decide +kernel) (by decide +kernel)
set_option maxRecDepth 20000 in
theorem gX3_writeLeastRing_X3_owner : GoodIn wsX3_writeLeastRing (wsV RX3 49 RX3 yX3_owner wsX3_owner) := goodIn_app (goodIn_of _ (by decide +kernel)) ggX3_writeLeastRing_X3_owner
set_option maxRecDepth 20000 in
theorem ggX3_writeLeastRing_X3_nearPieces : GoodIn wsX3_writeLeastRing wsX3_nearPieces := goodIn_r _ [35, 6, 7, 36, 9, 10, 11, 12, 13, 14, 15, 16, 17, 18, 19, 20, 21, 22, 23, 24, 25, 26, 27, 28, 29, 30, 31, 42, 43, 44, 45, 46, 47, 48, 49] (by decide +kernel) (by decide +kernel)
set_option maxRecDepth 20000 in
theorem gX3_writeLeastRing_X3_nearPieces : GoodIn wsX3_writeLeastRing (wsV RX3 67 RX3 yX3_nearPieces wsX3_nearPieces) := goodIn_app (goodIn_of _ (by decide +kernel)) ggX3_writeLeastRing_X3_nearPieces
set_option maxRecDepth 20000 in
theorem ggX3_writeLeastRing_J6_numberOfTrailingZeros_0f7a4 : GoodIn wsX3_writeLeastRing wsJ6_numberOfTrailingZeros_0f7a4 := goodIn_r _ [40, 41] (by decide +kernel) (by decide +kernel)
set_option maxRecDepth 20000 in
theorem gX3_writeLeastRing_J6_numberOfTrailingZeros_0f7a4 : GoodIn wsX3_writeLeastRing (va_wsS RX3 69 yJ6_numberOfTrailingZeros_0f7a4 wsJ6_numberOfTrailingZeros_0f7a4) := goodIn_app (goodIn_of _ (by decide +kernel)) ggX3_writeLeastRing_J6_numberOfTrailingZeros_0f7a4
set_option maxRecDepth 20000 in
theorem ggX4_init_X3_count : GoodIn wsX4_init wsX3_count := goodIn_r _ [26, 27, 28, 29, 30, 31, 32, 33, 80, 81, 82, 83] (by decide +kernel) (by decide +kernel)
set_option maxRecDepth 20000 in
theorem gX4_init_X3_count : GoodIn wsX4_init (wsV RX4 47 RX3 yX3_count wsX3_count) := goodIn_app (goodIn_of _ (by decide +kernel)) ggX4_init_X3_count
set_option maxRecDepth 20000 in
theorem ggX4_init_X3_nearPieces : GoodIn wsX4_init wsX3_nearPieces := goodIn_r _ [37, 27, 38, 39, 28, 29, 30, 31, 32, 33, 40, 41, 42, 43, 44, 45, 46, 47, 48, 49, 50, 51, 52, 53, 54, 55, 56, 80, 84, 85, 86, 87, 81, 82, 83] (by decide +kernel) (by decide +kernel)
set_option maxRecDepth 20000 in
theorem gX4_init_X3_nearPieces : GoodIn wsX4_init (wsV RX4 55 RX3 yX3_nearPieces wsX3_nearPieces) := goodIn_app (goodIn_of _ (by decide +kernel)) ggX4_init_X3_nearPieces
set_option maxRecDepth 20000 in
theorem ggX4_init_X3_told : GoodIn wsX4_init wsX3_told := goodIn_r _ [60, 27, 38, 61, 28, 29, 30, 31, 32, 33, 40, 41, 42, 43, 44, 45, 46, 47, 48, 49, 50, 51, 52, 53, 54, 55, 56, 80, 84, 85, 86, 87, 81, 82, 83] (by decide +kernel) (by decide +kernel)
set_option maxRecDepth 20000 in
theorem gX4_init_X3_told : GoodIn wsX4_init (wsV RX4 59 RX3 yX3_told wsX3_told) := goodIn_app (goodIn_of _ (by decide +kernel)) ggX4_init_X3_told
set_option maxRecDepth 20000 in
theorem ggX4_init_X3_isAfterStitch : GoodIn wsX4_init wsX3_isAfterStitch := goodIn_r _ [65, 66, 67, 68, 25, 69, 27, 38, 70, 28, 29, 30, 31, 32, 33, 40, 41, 42, 43, 44, 45, 46, 47, 48, 49, 50, 51, 52, 53, 54, 55, 56, 80, 84, 85, 86, 87, 81, 82, 83] (by decide +kernel) (by decide +kernel)
set_option maxRecDepth 20000 in
theorem gX4_init_X3_isAfterStitch : GoodIn wsX4_init (wsV RX4 61 RX3 yX3_isAfterStitch wsX3_isAfterStitch) := goodIn_app (goodIn_of _ (by decide +kernel)) ggX4_init_X3_isAfterStitch
set_option maxRecDepth 20000 in
theorem ggX4_findBest_X4_goOn : GoodIn wsX4_findBest wsX4_goOn := goodIn_r _ [9, 10, 1, 11, 12, 13, 14, 15, 16, 3, 17, 18, 19, 8, 20, 21, 22, 23, 24, 2, 25, 4, 26, 27, 28, 29, 30, 5, 6, 7, 31, 32, 33, 34, 35, 36, 37, 38, 39] (by decide +kernel) (by decide +kernel)
set_option maxRecDepth 20000 in
theorem gX4_findBest_X4_goOn : GoodIn wsX4_findBest (wsV RX4 65 RX4 yX4_goOn wsX4_goOn) := goodIn_app (goodIn_of _ (by decide +kernel)) ggX4_findBest_X4_goOn
set_option maxRecDepth 20000 in
theorem ggX4_goOn_X4_isDeadEnd : GoodIn wsX4_goOn wsX4_isDeadEnd := goodIn_r _ [14, 2, 9, 15, 16, 17, 13, 18, 19, 20, 21, 30, 31, 32, 33, 34, 35, 36, 37, 38] (by decide +kernel) (by decide +kernel)
set_option maxRecDepth 20000 in
theorem gX4_goOn_X4_isDeadEnd : GoodIn wsX4_goOn (wsV RX4 69 RX4 yX4_isDeadEnd wsX4_isDeadEnd) := goodIn_app (goodIn_of _ (by decide +kernel)) ggX4_goOn_X4_isDeadEnd
set_option maxRecDepth 20000 in
theorem ggX4_goOn_X4_canHave : GoodIn wsX4_goOn wsX4_canHave := goodIn_r _ [18, 19, 20, 21, 30, 31, 32, 33, 34, 35, 36, 37, 38] (by decide +kernel) (by decide +kernel)
set_option maxRecDepth 20000 in
theorem gX4_goOn_X4_canHave : GoodIn wsX4_goOn (wsV RX4 78 RX4 yX4_canHave wsX4_canHave) := goodIn_app (goodIn_of _ (by decide +kernel)) ggX4_goOn_X4_canHave
set_option maxRecDepth 20000 in
theorem ggX4_goOn_X4_tryColour : GoodIn wsX4_goOn wsX4_tryColour := goodIn_r _ [25, 2, 9, 26, 3, 21, 27, 28, 29, 13, 0, 1, 4, 5, 6, 7, 8, 10, 11, 12, 14, 15, 16, 17, 18, 19, 20, 22, 23, 24, 30, 31, 32, 33, 34, 35, 36, 37, 38] (by decide +kernel) (by decide +kernel)
set_option maxRecDepth 20000 in
theorem gX4_goOn_X4_tryColour : GoodIn wsX4_goOn (wsV RX4 82 RX4 yX4_tryColour wsX4_tryColour) := goodIn_app (goodIn_of _ (by decide +kernel)) ggX4_goOn_X4_tryColour
set_option maxRecDepth 20000 in
theorem ggX4_tryColour_X4_goOn : GoodIn wsX4_tryColour wsX4_goOn := goodIn_r _ [10, 11, 1, 4, 12, 13, 14, 15, 16, 2, 17, 18, 19, 9, 20, 21, 22, 23, 24, 25, 26, 5, 27, 28, 29, 0, 3, 6, 7, 8, 30, 31, 32, 33, 34, 35, 36, 37, 38] (by decide +kernel) (by decide +kernel)
set_option maxRecDepth 20000 in
theorem gX4_tryColour_X4_goOn : GoodIn wsX4_tryColour (wsV RX4 65 RX4 yX4_goOn wsX4_goOn) := goodIn_app (goodIn_of _ (by decide +kernel)) ggX4_tryColour_X4_goOn
set_option maxRecDepth 20000 in
theorem ggX4_isDeadEnd_X4_canHave : GoodIn wsX4_isDeadEnd wsX4_canHave := goodIn_r _ [7, 8, 9, 10, 11, 12, 13, 14, 15, 16, 17, 18, 19] (by decide +kernel) (by decide +kernel)
set_option maxRecDepth 20000 in
theorem gX4_isDeadEnd_X4_canHave : GoodIn wsX4_isDeadEnd (wsV RX4 78 RX4 yX4_canHave wsX4_canHave) := goodIn_app (goodIn_of _ (by decide +kernel)) ggX4_isDeadEnd_X4_canHave
set_option maxRecDepth 20000 in
theorem ggX5_init_Jx4a65c_init_da8c8 : GoodIn wsX5_init wsJx4a65c_init_da8c8 := goodIn_r _ [19, 20, 21, 22, 23, 24, 25, 26, 27, 28, 29, 30, 31, 2, 3, 32, 33, 34] (by decide +kernel) (by decide +kernel)
set_option maxRecDepth 20000 in
theorem gX5_init_Jx4a65c_init_da8c8 : GoodIn wsX5_init (wsJx4a65c_init_da8c8) := ggX5_init_Jx4a65c_init_da8c8
set_option maxRecDepth 20000 in
theorem ggX5_isOpen_Jx4a65c_isEmpty_aae02 : GoodIn wsX5_isOpen wsJx4a65c_isEmpty_aae02 := goodIn_r _ [7, 8, 18, 19, 20] (by decide +kernel) (by decide +kernel)
set_option maxRecDepth 20000 in
theorem gX5_isOpen_Jx4a65c_isEmpty_aae02 : GoodIn wsX5_isOpen (wsV RX5 46 RJx4a65c yJx4a65c_isEmpty_aae02 wsJx4a65c_isEmpty_aae02) := goodIn_app (goodIn_of _ (by decide +kernel)) ggX5_isOpen_Jx4a65c_isEmpty_aae02
set_option maxRecDepth 20000 in
theorem ggX5_addCorner_X0_init : GoodIn wsX5_addCorner wsX0_init := goodIn_r _ [17, 18, 19, 20, 21, 22, 23, 24, 89, 90, 91, 92] (by decide +kernel) (by decide +kernel)
set_option maxRecDepth 20000 in
theorem gX5_addCorner_X0_init : GoodIn wsX5_addCorner (wsX0_init) := ggX5_addCorner_X0_init
set_option maxRecDepth 20000 in
theorem ggX5_addCorner_Jx4a65c_add_9ea2d : GoodIn wsX5_addCorner wsJx4a65c_add_9ea2d := goodIn_r _ [29, 30, 31, 32, 33, 34, 35, 36, 28, 37, 38, 39, 40, 41, 42, 43, 44, 45, 46, 47, 48, 9, 49, 50, 51, 52, 53, 54, 55, 56, 57, 58, 59, 60, 61, 62, 63, 64, 65, 66, 67, 68, 69, 70, 71, 72, 73, 74, 75, 76, 77, 78, 79, 93, 94, 95] (by decide +kernel) (by decide +kernel)
set_option maxRecDepth 20000 in
theorem gX5_addCorner_Jx4a65c_add_9ea2d : GoodIn wsX5_addCorner (wsV RX5 64 RJx4a65c yJx4a65c_add_9ea2d wsJx4a65c_add_9ea2d) := goodIn_app (goodIn_of _ (by decide +kernel)) ggX5_addCorner_Jx4a65c_add_9ea2d
set_option maxRecDepth 20000 in
theorem ggX5_pieceBoxes_Jx4a65c_isEmpty_aae02 : GoodIn wsX5_pieceBoxes wsJx4a65c_isEmpty_aae02 := goodIn_r _ [10, 11, 128, 129, 130] (by decide +kernel) (by decide +kernel)
set_option maxRecDepth 20000 in
theorem gX5_pieceBoxes_Jx4a65c_isEmpty_aae02 : GoodIn wsX5_pieceBoxes (wsV RX5 46 RJx4a65c yJx4a65c_isEmpty_aae02 wsJx4a65c_isEmpty_aae02) := goodIn_app (goodIn_of _ (by decide +kernel)) ggX5_pieceBoxes_Jx4a65c_isEmpty_aae02
set_option maxRecDepth 20000 in
theorem ggX5_pieceBoxes_Jx4a65c_init_da8c8 : GoodIn wsX5_pieceBoxes wsJx4a65c_init_da8c8 := goodIn_r _ [14, 15, 16, 17, 18, 19, 20, 21, 22, 23, 24, 25, 26, 27, 28, 128, 129, 130] (by decide +kernel) (by decide +kernel)
set_option maxRecDepth 20000 in
theorem gX5_pieceBoxes_Jx4a65c_init_da8c8 : GoodIn wsX5_pieceBoxes (wsJx4a65c_init_da8c8) := ggX5_pieceBoxes_Jx4a65c_init_da8c8
end
section
set_option maxRecDepth 20000 in
theorem ggX5_pieceBoxes_Jx4a65c_get_915e3 : GoodIn wsX5_pieceBoxes wsJx4a65c_get_915e3 := goodIn_r _ [32, 11, 33, 34, 35, 36, 37, 38, 39, 40, 41, 42, 43, 5, 44, 16, 128, 129, 130] (by decide +kernel) (by decide +kernel)
set_option maxRecDepth 20000 in
theorem gX5_pieceBoxes_Jx4a65c_get_915e3 : GoodIn wsX5_pieceBoxes (wsV RX5 68 RJx4a65c yJx4a65c_get_915e3 wsJx4a65c_get_915e3) := goodIn_app (goodIn_of _ (by decide +kernel)) ggX5_pieceBoxes_Jx4a65c_get_915e3
set_option maxRecDepth 20000 in
theorem ggX5_pieceBoxes_X5_cutBox : GoodIn wsX5_pieceBoxes wsX5_cutBox := goodIn_r _ [49, 1, 50, 51, 52, 53, 54, 55, 56, 57, 58, 59, 60, 61, 62, 27, 28, 63, 64, 65, 66, 119, 120, 121, 122, 123, 124, 125, 126, 127, 131, 132, 133, 134] (by decide +kernel) (by decide +kernel)
set_option maxRecDepth 20000 in
theorem gX5_pieceBoxes_X5_cutBox : GoodIn wsX5_pieceBoxes (wsV RX5 72 RX5 yX5_cutBox wsX5_cutBox) := goodIn_app (goodIn_of _ (by decide +kernel)) ggX5_pieceBoxes_X5_cutBox
set_option maxRecDepth 20000 in
theorem ggX5_pieceBoxes_Jx4a65c_add_9ea2d : GoodIn wsX5_pieceBoxes wsJx4a65c_add_9ea2d := goodIn_r _ [70, 71, 72, 16, 11, 73, 74, 75, 5, 76, 77, 78, 79, 80, 81, 82, 83, 84, 15, 85, 86, 87, 88, 89, 90, 91, 92, 93, 94, 95, 96, 97, 98, 99, 100, 101, 102, 103, 104, 105, 106, 107, 108, 109, 110, 111, 112, 113, 114, 115, 116, 117, 118, 128, 129, 130] (by decide +kernel) (by decide +kernel)
set_option maxRecDepth 20000 in
theorem gX5_pieceBoxes_Jx4a65c_add_9ea2d : GoodIn wsX5_pieceBoxes (wsV RX5 64 RJx4a65c yJx4a65c_add_9ea2d wsJx4a65c_add_9ea2d) := goodIn_app (goodIn_of _ (by decide +kernel)) ggX5_pieceBoxes_Jx4a65c_add_9ea2d
set_option maxRecDepth 20000 in
theorem ggX5_cutBox_X0_init : GoodIn wsX5_cutBox wsX0_init := goodIn_r _ [13, 14, 15, 16, 17, 18, 19, 20, 30, 31, 32, 33] (by decide +kernel) (by decide +kernel)
set_option maxRecDepth 20000 in
theorem gX5_cutBox_X0_init : GoodIn wsX5_cutBox (wsX0_init) := ggX5_cutBox_X0_init
set_option maxRecDepth 20000 in
theorem ggX6_init_Jx4a65c_init_da8c8 : GoodIn wsX6_init wsJx4a65c_init_da8c8 := goodIn_r _ [24, 25, 26, 27, 28, 29, 30, 31, 32, 33, 34, 35, 36, 2, 3, 37, 38, 39] (by decide +kernel) (by decide +kernel)
set_option maxRecDepth 20000 in
theorem gX6_init_Jx4a65c_init_da8c8 : GoodIn wsX6_init (wsJx4a65c_init_da8c8) := ggX6_init_Jx4a65c_init_da8c8
set_option maxRecDepth 20000 in
theorem ggX6_shape_Jx4a65c_size_8abf5 : GoodIn wsX6_shape wsJx4a65c_size_8abf5 := goodIn_r _ [11, 12, 135, 136, 137] (by decide +kernel) (by decide +kernel)
set_option maxRecDepth 20000 in
theorem gX6_shape_Jx4a65c_size_8abf5 : GoodIn wsX6_shape (wsV RX6 47 RJx4a65c yJx4a65c_size_8abf5 wsJx4a65c_size_8abf5) := goodIn_app (goodIn_of _ (by decide +kernel)) ggX6_shape_Jx4a65c_size_8abf5
set_option maxRecDepth 20000 in
theorem ggX6_shape_X6_countPieces : GoodIn wsX6_shape wsX6_countPieces := goodIn_r _ [17, 3, 18, 19, 7, 8, 9, 10, 11, 12, 20, 21, 22, 23, 24, 25, 26, 27, 28, 29, 30, 31, 32, 33, 34, 35, 36, 120, 121, 122, 123, 124, 125, 126, 127, 128, 129, 130, 131, 132, 133, 134, 135, 136, 137] (by decide +kernel) (by decide +kernel)
set_option maxRecDepth 20000 in
theorem gX6_shape_X6_countPieces : GoodIn wsX6_shape (wsV RX6 51 RX6 yX6_countPieces wsX6_countPieces) := goodIn_app (goodIn_of _ (by decide +kernel)) ggX6_shape_X6_countPieces
set_option maxRecDepth 20000 in
theorem ggX6_shape_X5_init : GoodIn wsX6_shape wsX5_init := goodIn_r _ [38, 39, 40, 41, 42, 43, 10, 44, 45, 46, 47, 48, 49, 50, 51, 52, 53, 54, 55, 56, 57, 36, 58, 59, 60, 61, 62, 63, 64, 65, 66, 67, 135, 136, 137, 126, 127, 128, 129, 130, 131, 132, 133, 134] (by decide +kernel) (by decide +kernel)
set_option maxRecDepth 20000 in
theorem gX6_shape_X5_init_n63 : GoodIn wsX6_shape (wsX5_init) := ggX6_shape_X5_init
set_option maxRecDepth 20000 in
theorem ggX6_shape_Jx4a65c_add_9ea2d : GoodIn wsX6_shape wsJx4a65c_add_9ea2d := goodIn_r _ [71, 72, 73, 36, 12, 74, 75, 76, 10, 77, 78, 79, 80, 81, 82, 83, 84, 85, 57, 86, 87, 88, 89, 90, 91, 92, 93, 94, 95, 96, 97, 98, 99, 100, 101, 102, 103, 104, 105, 106, 107, 108, 109, 110, 111, 112, 113, 114, 115, 116, 117, 118, 119, 135, 136, 137] (by decide +kernel) (by decide +kernel)
set_option maxRecDepth 20000 in
theorem gX6_shape_Jx4a65c_add_9ea2d : GoodIn wsX6_shape (wsV RX6 64 RJx4a65c yJx4a65c_add_9ea2d wsJx4a65c_add_9ea2d) := goodIn_app (goodIn_of _ (by decide +kernel)) ggX6_shape_Jx4a65c_add_9ea2d
set_option maxRecDepth 20000 in
theorem ggX6_corner_X6_needShape : GoodIn wsX6_corner wsX6_needShape := goodIn_ca (goodIn_r _ [13, 14, 15, 5, 16, 17, 18, 19, 20, 21, 151, 152, 153, 154, 155, 156, 166, 167, 168] (by decide +kernel) (by decide +kernel)) (goodIn_sub (fun _ h => List.mem_cons_of_mem _ (List.mem_append_right _ h)) (by decide +kernel))
set_option maxRecDepth 20000 in
theorem gX6_corner_X6_needShape : GoodIn wsX6_corner (wsV RX6 68 RX6 yX6_needShape wsX6_needShape) := goodIn_app (goodIn_of _ (by decide +kernel)) ggX6_corner_X6_needShape
set_option maxRecDepth 20000 in
theorem ggX6_corner_Jx4a65c_get_915e3 : GoodIn wsX6_corner wsJx4a65c_get_915e3 := goodIn_r _ [25, 21, 26, 27, 28, 29, 30, 31, 32, 33, 34, 35, 36, 19, 37, 38, 166, 167, 168] (by decide +kernel) (by decide +kernel)
set_option maxRecDepth 20000 in
theorem gX6_corner_Jx4a65c_get_915e3 : GoodIn wsX6_corner (wsV RX6 72 RJx4a65c yJx4a65c_get_915e3 wsJx4a65c_get_915e3) := goodIn_app (goodIn_of _ (by decide +kernel)) ggX6_corner_Jx4a65c_get_915e3
set_option maxRecDepth 20000 in
theorem ggX6_corner_Jx4a65c_size_8abf5 : GoodIn wsX6_corner wsJx4a65c_size_8abf5 := goodIn_r _ [20, 21, 166, 167, 168] (by decide +kernel) (by decide +kernel)
set_option maxRecDepth 20000 in
theorem gX6_corner_Jx4a65c_size_8abf5 : GoodIn wsX6_corner (wsV RX6 47 RJx4a65c yJx4a65c_size_8abf5 wsJx4a65c_size_8abf5) := goodIn_app (goodIn_of _ (by decide +kernel)) ggX6_corner_Jx4a65c_size_8abf5
set_option maxRecDepth 20000 in
theorem ggX6_corner_X6_isTooFar : GoodIn wsX6_corner wsX6_isTooFar := goodIn_r _ [41, 42, 43] (by decide +kernel) (by decide +kernel)
set_option maxRecDepth 20000 in
theorem gX6_corner_X6_isTooFar : GoodIn wsX6_corner (va_wsS RX6 84 yX6_isTooFar wsX6_isTooFar) := goodIn_app (goodIn_of _ (by decide +kernel)) ggX6_corner_X6_isTooFar
set_option maxRecDepth 20000 in
theorem ggX6_corner_X5_addCorner : GoodIn wsX6_corner wsX5_addCorner := goodIn_r _ [48, 49, 50, 51, 52, 53, 54, 55, 56, 57, 58, 59, 60, 61, 62, 63, 64, 65, 66, 67, 68, 69, 70, 71, 72, 73, 74, 75, 19, 76, 77, 78, 38, 21, 79, 80, 81, 82, 83, 84, 85, 86, 87, 88, 89, 90, 91, 92, 93, 94, 95, 96, 97, 98, 99, 100, 101, 102, 103, 104, 105, 106, 107, 108, 109, 110, 111, 112, 113, 114, 115, 116, 117, 118, 119, 120, 121, 122, 123, 124, 157, 158, 159, 160, 161, 162, 163, 164, 165, 169, 170, 171, 172, 166, 167, 168] (by decide +kernel) (by decide +kernel)
set_option maxRecDepth 20000 in
theorem gX6_corner_X5_addCorner : GoodIn wsX6_corner (wsV RX6 93 RX5 yX5_addCorner wsX5_addCorner) := goodIn_app (goodIn_of _ (by decide +kernel)) ggX6_corner_X5_addCorner
set_option maxRecDepth 20000 in
theorem ggX6_corner_X6_findNearOnes : GoodIn wsX6_corner wsX6_findNearOnes := goodIn_r _ [128, 5, 6, 7, 129, 130, 131, 22, 23, 24, 19, 25, 21, 26, 27, 28, 29, 30, 31, 32, 33, 34, 35, 36, 37, 38, 132, 133, 134, 135, 16, 17, 18, 20, 136, 137, 138, 53, 139, 140, 141, 142, 143, 144, 145, 146, 69, 71, 70, 72, 147, 148, 149, 150, 61, 57, 62, 151, 152, 153, 154, 155, 156, 157, 158, 159, 160, 161, 162, 163, 164, 165, 166, 167, 168, 169, 170, 171, 172] (by decide +kernel) (by decide +kernel)
set_option maxRecDepth 20000 in
theorem gX6_corner_X6_findNearOnes : GoodIn wsX6_corner (wsV RX6 97 RX6 yX6_findNearOnes wsX6_findNearOnes) := goodIn_app (goodIn_of _ (by decide +kernel)) ggX6_corner_X6_findNearOnes
set_option maxRecDepth 20000 in
theorem ggX6_near_X6_needNoneOpen : GoodIn wsX6_near wsX6_needNoneOpen := goodIn_ca (goodIn_r _ [8, 9, 10, 1, 2, 11, 12, 13, 14, 15, 16, 17, 18, 19, 20, 21, 22, 23, 24, 25, 26, 27, 28, 29, 30, 31, 32, 33, 34, 35, 36, 37, 38, 39, 40, 41, 42, 43, 44, 52, 53, 54, 55, 56, 57, 67, 68, 69, 58, 59, 60, 61, 62, 63, 64, 65, 66] (by decide +kernel) (by decide +kernel)) (goodIn_sub (fun _ h => List.mem_cons_of_mem _ (List.mem_append_right _ h)) (by decide +kernel))
set_option maxRecDepth 20000 in
theorem gX6_near_X6_needNoneOpen : GoodIn wsX6_near (wsV RX6 100 RX6 yX6_needNoneOpen wsX6_needNoneOpen) := goodIn_app (goodIn_of _ (by decide +kernel)) ggX6_near_X6_needNoneOpen
set_option maxRecDepth 20000 in
theorem ggX6_near_Jx4a65c_size_8abf5 : GoodIn wsX6_near wsJx4a65c_size_8abf5 := goodIn_r _ [15, 16, 67, 68, 69] (by decide +kernel) (by decide +kernel)
set_option maxRecDepth 20000 in
theorem gX6_near_Jx4a65c_size_8abf5 : GoodIn wsX6_near (wsV RX6 47 RJx4a65c yJx4a65c_size_8abf5 wsJx4a65c_size_8abf5) := goodIn_app (goodIn_of _ (by decide +kernel)) ggX6_near_Jx4a65c_size_8abf5
set_option maxRecDepth 20000 in
theorem ggX6_near_Jx4a65c_get_915e3 : GoodIn wsX6_near wsJx4a65c_get_915e3 := goodIn_r _ [20, 16, 21, 22, 23, 24, 25, 26, 27, 28, 29, 30, 31, 14, 32, 33, 67, 68, 69] (by decide +kernel) (by decide +kernel)
set_option maxRecDepth 20000 in
theorem gX6_near_Jx4a65c_get_915e3 : GoodIn wsX6_near (wsV RX6 72 RJx4a65c yJx4a65c_get_915e3 wsJx4a65c_get_915e3) := goodIn_app (goodIn_of _ (by decide +kernel)) ggX6_near_Jx4a65c_get_915e3
set_option maxRecDepth 20000 in
theorem ggX6_near_J6_bitCount_0f7a4 : GoodIn wsX6_near wsJ6_bitCount_0f7a4 := goodIn_r _ [48, 49, 50, 51] (by decide +kernel) (by decide +kernel)
set_option maxRecDepth 20000 in
theorem gX6_near_J6_bitCount_0f7a4 : GoodIn wsX6_near (va_wsS RX6 106 yJ6_bitCount_0f7a4 wsJ6_bitCount_0f7a4) := goodIn_app (goodIn_of _ (by decide +kernel)) ggX6_near_J6_bitCount_0f7a4
set_option maxRecDepth 20000 in
theorem ggX6_run_X6_needNoneOpen : GoodIn wsX6_run wsX6_needNoneOpen := goodIn_ca (goodIn_r _ [20, 21, 22, 23, 24, 25, 26, 27, 28, 29, 30, 31, 32, 33, 34, 35, 36, 37, 38, 39, 40, 41, 42, 43, 44, 45, 46, 47, 48, 49, 50, 51, 52, 53, 54, 55, 56, 57, 58, 348, 349, 350, 351, 352, 353, 369, 370, 371, 372, 373, 374, 375, 376, 377, 378, 379, 380] (by decide +kernel) (by decide +kernel)) (goodIn_sub (fun _ h => List.mem_cons_of_mem _ (List.mem_append_right _ h)) (by decide +kernel))
set_option maxRecDepth 20000 in
theorem gX6_run_X6_needNoneOpen : GoodIn wsX6_run (wsV RX6 100 RX6 yX6_needNoneOpen wsX6_needNoneOpen) := goodIn_app (goodIn_of _ (by decide +kernel)) ggX6_run_X6_needNoneOpen
set_option maxRecDepth 20000 in
theorem ggX6_run_X6_countPieces : GoodIn wsX6_run wsX6_countPieces := goodIn_r _ [62, 23, 24, 63, 25, 26, 27, 28, 29, 30, 31, 32, 33, 34, 35, 36, 37, 38, 39, 40, 41, 42, 43, 44, 45, 46, 47, 348, 349, 350, 351, 352, 353, 372, 373, 374, 375, 376, 377, 378, 379, 380, 369, 370, 371] (by decide +kernel) (by decide +kernel)
set_option maxRecDepth 20000 in
theorem gX6_run_X6_countPieces : GoodIn wsX6_run (wsV RX6 51 RX6 yX6_countPieces wsX6_countPieces) := goodIn_app (goodIn_of _ (by decide +kernel)) ggX6_run_X6_countPieces
set_option maxRecDepth 20000 in
theorem ggX6_run_X6_cutShapes : GoodIn wsX6_run wsX6_cutShapes := goodIn_r _ [67, 68, 69, 70, 23, 24, 63, 71, 72, 73, 74, 75, 76, 77, 78, 28, 79, 80, 81, 82, 83, 47, 84, 85, 86, 87, 88, 89, 90, 91, 92, 93, 25, 26, 27, 29, 30, 31, 32, 33, 34, 35, 36, 37, 38, 39, 40, 41, 42, 43, 44, 45, 46, 94, 95, 96, 51, 97, 98, 54, 99, 100, 55, 56, 57, 58, 101, 102, 103, 104, 105, 106, 107, 108, 109, 110, 111, 112, 113, 114, 115, 116, 117, 118, 119, 120, 121, 122, 123, 124, 125, 126, 127, 128, 129, 130, 131, 132, 133, 134, 135, 136, 137, 138, 139, 140, 141, 142, 143, 144, 145, 146, 147, 148, 149, 150, 151, 152, 153, 154, 155, 156, 157, 158, 159, 160, 161, 162, 163, 164, 165, 166, 167, 168, 169, 170, 171, 172, 173, 174, 175, 176, 177, 178, 179, 180, 181, 182, 183, 184, 185, 186, 187, 188, 189, 190, 191, 192, 381, 348, 349, 350, 351, 352, 353, 372, 373, 374, 375, 376, 377, 378, 379, 380, 369, 370, 371, 382, 383, 384, 385, 386, 387, 388, 389] (by decide +kernel) (by decide +kernel)
set_option maxRecDepth 20000 in
theorem gX6_run_X6_cutShapes : GoodIn wsX6_run (wsV RX6 114 RX6 yX6_cutShapes wsX6_cutShapes) := goodIn_app (goodIn_of _ (by decide +kernel)) ggX6_run_X6_cutShapes
set_option maxRecDepth 20000 in
theorem ggX6_run_X3_findNearOnes : GoodIn wsX6_run wsX3_findNearOnes := goodIn_r _ [196, 79, 197, 198, 199, 183, 26, 27, 28, 29, 30, 200, 32, 33, 34, 35, 36, 37, 38, 39, 40, 41, 42, 43, 44, 45, 46, 47, 201, 202, 203, 182, 204, 191, 205, 206, 207, 208, 209, 210, 110, 211, 212, 213, 214, 215, 216, 217, 218, 120, 122, 121, 123, 219, 220, 221, 222, 223, 144, 224, 381, 386, 387, 388, 389, 369, 370, 371, 382, 383, 384, 385] (by decide +kernel) (by decide +kernel)
set_option maxRecDepth 20000 in
theorem gX6_run_X3_findNearOnes : GoodIn wsX6_run (wsV RX6 118 RX3 yX3_findNearOnes wsX3_findNearOnes) := goodIn_app (goodIn_of _ (by decide +kernel)) ggX6_run_X3_findNearOnes
set_option maxRecDepth 20000 in
theorem ggX6_run_X4_init : GoodIn wsX6_run wsX4_init := goodIn_r _ [227, 228, 75, 76, 229, 230, 231, 232, 233, 234, 235, 236, 237, 238, 170, 144, 171, 239, 143, 145, 240, 241, 242, 243, 244, 70, 245, 79, 183, 26, 27, 28, 29, 30, 246, 247, 248, 249, 197, 199, 200, 32, 33, 34, 35, 36, 37, 38, 39, 40, 41, 42, 43, 44, 45, 46, 47, 250, 251, 252, 253, 254, 255, 256, 257, 258, 259, 260, 261, 262, 198, 354, 355, 356, 357, 358, 359, 360, 361, 362, 381, 369, 370, 371, 386, 387, 388, 389] (by decide +kernel) (by decide +kernel)
set_option maxRecDepth 20000 in
theorem gX6_run_X4_init : GoodIn wsX6_run (wsX4_init) := ggX6_run_X4_init
set_option maxRecDepth 20000 in
theorem ggX6_run_X4_findBest : GoodIn wsX6_run wsX4_findBest := goodIn_r _ [266, 241, 231, 240, 234, 267, 268, 269, 7, 270, 237, 235, 236, 271, 173, 174, 175, 272, 273, 274, 275, 276, 277, 278, 279, 230, 280, 281, 282, 283, 233, 354, 355, 356, 357, 358, 359, 360, 361, 362] (by decide +kernel) (by decide +kernel)
set_option maxRecDepth 20000 in
theorem gX6_run_X4_findBest : GoodIn wsX6_run (wsV RX6 128 RX4 yX4_findBest wsX4_findBest) := goodIn_app (goodIn_of _ (by decide +kernel)) ggX6_run_X4_findBest
set_option maxRecDepth 20000 in
theorem ggX6_run_X4_isFound : GoodIn wsX6_run wsX4_isFound := goodIn_r _ [287, 237, 354, 355, 356, 357, 358, 359, 360, 361, 362] (by decide +kernel) (by decide +kernel)
set_option maxRecDepth 20000 in
theorem gX6_run_X4_isFound : GoodIn wsX6_run (wsV RX6 131 RX4 yX4_isFound wsX4_isFound) := goodIn_app (goodIn_of _ (by decide +kernel)) ggX6_run_X4_isFound
set_option maxRecDepth 20000 in
theorem ggX6_run_X1_init : GoodIn wsX6_run wsX1_init := goodIn_r _ [290, 291, 75, 76, 229, 292, 293, 294, 295, 296, 297, 298, 299, 243, 244, 70, 245, 79, 183, 26, 27, 28, 29, 30, 300, 301, 302, 303, 197, 200, 32, 33, 34, 35, 36, 37, 38, 39, 40, 41, 42, 43, 44, 45, 46, 47, 304, 305, 306, 182, 307, 191, 205, 206, 207, 308, 309, 310, 110, 311, 122, 120, 123, 121, 312, 313, 314, 11, 315, 316, 256, 257, 258, 259, 260, 261, 262, 198, 317, 318, 319, 320, 321, 322, 323, 324, 325, 363, 364, 365, 366, 367, 368, 381, 369, 370, 371, 386, 387, 388, 389, 382, 383, 384, 385] (by decide +kernel) (by decide +kernel)
set_option maxRecDepth 20000 in
theorem gX6_run_X1_init : GoodIn wsX6_run (wsX1_init) := ggX6_run_X1_init
set_option maxRecDepth 20000 in
theorem ggX6_run_X3_findOddRing : GoodIn wsX6_run wsX3_findOddRing := goodIn_r _ [329, 229, 79, 183, 26, 27, 28, 29, 30, 330, 331, 332, 70, 333, 334, 335, 336, 337, 338, 247, 248, 249, 197, 199, 200, 32, 33, 34, 35, 36, 37, 38, 39, 40, 41, 42, 43, 44, 45, 46, 47, 339, 340, 341, 342, 259, 260, 261, 262, 198, 343, 344, 345, 346, 347, 381, 369, 370, 371, 386, 387, 388, 389] (by decide +kernel) (by decide +kernel)
set_option maxRecDepth 20000 in
theorem gX6_run_X3_findOddRing : GoodIn wsX6_run (wsV RX6 146 RX3 yX3_findOddRing wsX3_findOddRing) := goodIn_app (goodIn_of _ (by decide +kernel)) ggX6_run_X3_findOddRing
set_option maxRecDepth 20000 in
theorem ggX6_colour_X6_needShape : GoodIn wsX6_colour wsX6_needShape := goodIn_ca (goodIn_r _ [7, 8, 9, 10, 11, 12, 13, 14, 15, 16, 17, 18, 19, 20, 21, 22, 29, 30, 31] (by decide +kernel) (by decide +kernel)) (goodIn_sub (fun _ h => List.mem_cons_of_mem _ (List.mem_append_right _ h)) (by decide +kernel))
set_option maxRecDepth 20000 in
theorem gX6_colour_X6_needShape : GoodIn wsX6_colour (wsV RX6 68 RX6 yX6_needShape wsX6_needShape) := goodIn_app (goodIn_of _ (by decide +kernel)) ggX6_colour_X6_needShape
set_option maxRecDepth 20000 in
theorem ggX6_pre_X6_needShape : GoodIn wsX6_pre wsX6_needShape := goodIn_ca (goodIn_r _ [10, 11, 12, 3, 13, 14, 15, 16, 17, 18, 56, 57, 58, 59, 60, 61, 71, 72, 73] (by decide +kernel) (by decide +kernel)) (goodIn_sub (fun _ h => List.mem_cons_of_mem _ (List.mem_append_left _ (List.mem_append_right _ h))) (by decide +kernel))
set_option maxRecDepth 20000 in
theorem gX6_pre_X6_needShape : GoodIn wsX6_pre (wsV RX6 68 RX6 yX6_needShape wsX6_needShape) := goodIn_app (goodIn_of _ (by decide +kernel)) ggX6_pre_X6_needShape
end
section
set_option maxRecDepth 20000 in
theorem ggX6_pre_X6_needNoneOpen : GoodIn wsX6_pre wsX6_needNoneOpen := goodIn_ca (goodIn_r _ [22, 23, 24, 3, 4, 13, 14, 15, 16, 17, 18, 25, 26, 27, 28, 29, 30, 31, 32, 33, 34, 35, 36, 37, 38, 39, 40, 41, 42, 43, 44, 45, 46, 47, 48, 49, 50, 51, 52, 56, 57, 58, 59, 60, 61, 71, 72, 73, 62, 63, 64, 65, 66, 67, 68, 69, 70] (by decide +kernel) (by decide +kernel)) (goodIn_sub (fun _ h => List.mem_cons_of_mem _ (List.mem_append_right _ h)) (by decide +kernel))
set_option maxRecDepth 20000 in
theorem gX6_pre_X6_needNoneOpen : GoodIn wsX6_pre (wsV RX6 100 RX6 yX6_needNoneOpen wsX6_needNoneOpen) := goodIn_app (goodIn_of _ (by decide +kernel)) ggX6_pre_X6_needNoneOpen
set_option maxRecDepth 20000 in
theorem ggX6_pre_X6_isNoColour : GoodIn wsX6_pre wsX6_isNoColour := goodIn_r _ [55] (by decide +kernel) (by decide +kernel)
set_option maxRecDepth 20000 in
theorem gX6_pre_X6_isNoColour : GoodIn wsX6_pre (va_wsS RX6 158 yX6_isNoColour wsX6_isNoColour) := goodIn_app (goodIn_of _ (by decide +kernel)) ggX6_pre_X6_isNoColour
set_option maxRecDepth 20000 in
theorem ggX6_pre_Jx4a65c_get_915e3 : GoodIn wsX6_pre wsJx4a65c_get_915e3 := goodIn_r _ [28, 18, 29, 30, 31, 32, 33, 34, 35, 36, 37, 38, 39, 16, 40, 41, 71, 72, 73] (by decide +kernel) (by decide +kernel)
set_option maxRecDepth 20000 in
theorem gX6_pre_Jx4a65c_get_915e3 : GoodIn wsX6_pre (wsV RX6 72 RJx4a65c yJx4a65c_get_915e3 wsJx4a65c_get_915e3) := goodIn_app (goodIn_of _ (by decide +kernel)) ggX6_pre_Jx4a65c_get_915e3
set_option maxRecDepth 20000 in
theorem ggX6_stitch_X6_needShape : GoodIn wsX6_stitch wsX6_needShape := goodIn_ca (goodIn_r _ [15, 16, 17, 5, 18, 19, 20, 21, 22, 23, 80, 81, 82, 83, 84, 85, 95, 96, 97] (by decide +kernel) (by decide +kernel)) (goodIn_sub (fun _ h => List.mem_cons_of_mem _ (List.mem_append_right _ h)) (by decide +kernel))
set_option maxRecDepth 20000 in
theorem gX6_stitch_X6_needShape : GoodIn wsX6_stitch (wsV RX6 68 RX6 yX6_needShape wsX6_needShape) := goodIn_app (goodIn_of _ (by decide +kernel)) ggX6_stitch_X6_needShape
set_option maxRecDepth 20000 in
theorem ggX6_stitch_X6_needNoneOpen : GoodIn wsX6_stitch wsX6_needNoneOpen := goodIn_ca (goodIn_r _ [27, 1, 2, 5, 6, 18, 19, 20, 21, 22, 23, 28, 29, 30, 31, 32, 33, 34, 35, 36, 37, 38, 39, 40, 41, 42, 43, 44, 45, 46, 47, 48, 49, 50, 51, 52, 53, 54, 55, 80, 81, 82, 83, 84, 85, 95, 96, 97, 86, 87, 88, 89, 90, 91, 92, 93, 94] (by decide +kernel) (by decide +kernel)) (goodIn_sub (fun _ h => List.mem_cons_of_mem _ (List.mem_append_left _ (List.mem_append_left _ (List.mem_append_right _ h)))) (by decide +kernel))
set_option maxRecDepth 20000 in
theorem gX6_stitch_X6_needNoneOpen : GoodIn wsX6_stitch (wsV RX6 100 RX6 yX6_needNoneOpen wsX6_needNoneOpen) := goodIn_app (goodIn_of _ (by decide +kernel)) ggX6_stitch_X6_needNoneOpen
set_option maxRecDepth 20000 in
theorem ggX6_stitch_Jx4a65c_get_915e3 : GoodIn wsX6_stitch wsJx4a65c_get_915e3 := goodIn_r _ [31, 23, 32, 33, 34, 35, 36, 37, 38, 39, 40, 41, 42, 21, 43, 44, 95, 96, 97] (by decide +kernel) (by decide +kernel)
set_option maxRecDepth 20000 in
theorem gX6_stitch_Jx4a65c_get_915e3 : GoodIn wsX6_stitch (wsV RX6 72 RJx4a65c yJx4a65c_get_915e3 wsJx4a65c_get_915e3) := goodIn_app (goodIn_of _ (by decide +kernel)) ggX6_stitch_Jx4a65c_get_915e3
set_option maxRecDepth 20000 in
theorem ggX6_stitch_Jx4a65c_size_8abf5 : GoodIn wsX6_stitch wsJx4a65c_size_8abf5 := goodIn_r _ [22, 23, 95, 96, 97] (by decide +kernel) (by decide +kernel)
set_option maxRecDepth 20000 in
theorem gX6_stitch_Jx4a65c_size_8abf5 : GoodIn wsX6_stitch (wsV RX6 47 RJx4a65c yJx4a65c_size_8abf5 wsJx4a65c_size_8abf5) := goodIn_app (goodIn_of _ (by decide +kernel)) ggX6_stitch_Jx4a65c_size_8abf5
set_option maxRecDepth 20000 in
theorem ggX6_stitch_X5_hasStitch : GoodIn wsX6_stitch wsX5_hasStitch := goodIn_r _ [59, 60, 61, 62, 86, 87, 88, 89, 90, 91, 92, 93, 94] (by decide +kernel) (by decide +kernel)
set_option maxRecDepth 20000 in
theorem gX6_stitch_X5_hasStitch : GoodIn wsX6_stitch (wsV RX6 169 RX5 yX5_hasStitch wsX5_hasStitch) := goodIn_app (goodIn_of _ (by decide +kernel)) ggX6_stitch_X5_hasStitch
set_option maxRecDepth 20000 in
theorem ggX6_stitch_X6_countPieces : GoodIn wsX6_stitch wsX6_countPieces := goodIn_r _ [66, 5, 6, 8, 18, 19, 20, 21, 22, 23, 28, 29, 30, 31, 32, 33, 34, 35, 36, 37, 38, 39, 40, 41, 42, 43, 44, 80, 81, 82, 83, 84, 85, 86, 87, 88, 89, 90, 91, 92, 93, 94, 95, 96, 97] (by decide +kernel) (by decide +kernel)
set_option maxRecDepth 20000 in
theorem gX6_stitch_X6_countPieces : GoodIn wsX6_stitch (wsV RX6 51 RX6 yX6_countPieces wsX6_countPieces) := goodIn_app (goodIn_of _ (by decide +kernel)) ggX6_stitch_X6_countPieces
set_option maxRecDepth 20000 in
theorem ggX6_stitch_X0_isWithin : GoodIn wsX6_stitch wsX0_isWithin := goodIn_r _ [71, 72, 73, 74, 75, 98, 99, 100, 101] (by decide +kernel) (by decide +kernel)
set_option maxRecDepth 20000 in
theorem gX6_stitch_X0_isWithin : GoodIn wsX6_stitch (wsV RX6 177 RX0 yX0_isWithin wsX0_isWithin) := goodIn_app (goodIn_of _ (by decide +kernel)) ggX6_stitch_X0_isWithin
set_option maxRecDepth 20000 in
theorem ggX6_stitch_X5_addStitch : GoodIn wsX6_stitch wsX5_addStitch := goodIn_r _ [79, 61, 62, 60, 86, 87, 88, 89, 90, 91, 92, 93, 94] (by decide +kernel) (by decide +kernel)
set_option maxRecDepth 20000 in
theorem gX6_stitch_X5_addStitch : GoodIn wsX6_stitch (wsV RX6 187 RX5 yX5_addStitch wsX5_addStitch) := goodIn_app (goodIn_of _ (by decide +kernel)) ggX6_stitch_X5_addStitch
set_option maxRecDepth 20000 in
theorem ggX6_used_X6_needShape : GoodIn wsX6_used wsX6_needShape := goodIn_ca (goodIn_r _ [10, 1, 2, 11, 12, 13, 14, 15, 16, 17, 18, 19, 20, 21, 22, 23, 30, 31, 32] (by decide +kernel) (by decide +kernel)) (goodIn_sub (fun _ h => List.mem_cons_of_mem _ (List.mem_append_right _ h)) (by decide +kernel))
set_option maxRecDepth 20000 in
theorem gX6_used_X6_needShape : GoodIn wsX6_used (wsV RX6 68 RX6 yX6_needShape wsX6_needShape) := goodIn_app (goodIn_of _ (by decide +kernel)) ggX6_used_X6_needShape
set_option maxRecDepth 20000 in
theorem ggX6_balance_X6_isNoColour : GoodIn wsX6_balance wsX6_isNoColour := goodIn_r _ [11] (by decide +kernel) (by decide +kernel)
set_option maxRecDepth 20000 in
theorem gX6_balance_X6_isNoColour : GoodIn wsX6_balance (va_wsS RX6 158 yX6_isNoColour wsX6_isNoColour) := goodIn_app (goodIn_of _ (by decide +kernel)) ggX6_balance_X6_isNoColour
set_option maxRecDepth 20000 in
theorem ggX6_pair_X6_needNoneOpen : GoodIn wsX6_pair wsX6_needNoneOpen := goodIn_ca (goodIn_r _ [9, 10, 11, 3, 4, 12, 13, 14, 15, 16, 17, 18, 19, 20, 21, 22, 23, 24, 25, 26, 27, 28, 29, 30, 31, 32, 33, 34, 35, 36, 37, 38, 39, 40, 41, 42, 43, 44, 45, 51, 52, 53, 54, 55, 56, 57, 58, 59, 60, 61, 62, 63, 64, 65, 66, 67, 68] (by decide +kernel) (by decide +kernel)) (goodIn_sub (fun _ h => List.mem_cons_of_mem _ (List.mem_append_right _ h)) (by decide +kernel))
set_option maxRecDepth 20000 in
theorem gX6_pair_X6_needNoneOpen : GoodIn wsX6_pair (wsV RX6 100 RX6 yX6_needNoneOpen wsX6_needNoneOpen) := goodIn_app (goodIn_of _ (by decide +kernel)) ggX6_pair_X6_needNoneOpen
set_option maxRecDepth 20000 in
theorem ggX6_pair_Jx4a65c_size_8abf5 : GoodIn wsX6_pair wsJx4a65c_size_8abf5 := goodIn_r _ [16, 17, 57, 58, 59] (by decide +kernel) (by decide +kernel)
set_option maxRecDepth 20000 in
theorem gX6_pair_Jx4a65c_size_8abf5 : GoodIn wsX6_pair (wsV RX6 47 RJx4a65c yJx4a65c_size_8abf5 wsJx4a65c_size_8abf5) := goodIn_app (goodIn_of _ (by decide +kernel)) ggX6_pair_Jx4a65c_size_8abf5
set_option maxRecDepth 20000 in
theorem ggX6_pair_Jx4a65c_get_915e3 : GoodIn wsX6_pair wsJx4a65c_get_915e3 := goodIn_r _ [21, 17, 22, 23, 24, 25, 26, 27, 28, 29, 30, 31, 32, 15, 33, 34, 57, 58, 59] (by decide +kernel) (by decide +kernel)
set_option maxRecDepth 20000 in
theorem gX6_pair_Jx4a65c_get_915e3 : GoodIn wsX6_pair (wsV RX6 72 RJx4a65c yJx4a65c_get_915e3 wsJx4a65c_get_915e3) := goodIn_app (goodIn_of _ (by decide +kernel)) ggX6_pair_Jx4a65c_get_915e3
set_option maxRecDepth 20000 in
theorem ggX6_pair_X5_isNearShape : GoodIn wsX6_pair wsX5_isNearShape := goodIn_r _ [49, 50, 60, 61, 62, 63, 64, 65, 66, 67, 68] (by decide +kernel) (by decide +kernel)
set_option maxRecDepth 20000 in
theorem gX6_pair_X5_isNearShape : GoodIn wsX6_pair (wsV RX6 213 RX5 yX5_isNearShape wsX5_isNearShape) := goodIn_app (goodIn_of _ (by decide +kernel)) ggX6_pair_X5_isNearShape
set_option maxRecDepth 20000 in
theorem ggX6_clear_Jx4a65c_clear_da8c8 : GoodIn wsX6_clear wsJx4a65c_clear_da8c8 := goodIn_r _ [9, 10, 11, 12, 13, 20, 21, 22] (by decide +kernel) (by decide +kernel)
set_option maxRecDepth 20000 in
theorem gX6_clear_Jx4a65c_clear_da8c8 : GoodIn wsX6_clear (wsV RX6 216 RJx4a65c yJx4a65c_clear_da8c8 wsJx4a65c_clear_da8c8) := goodIn_app (goodIn_of _ (by decide +kernel)) ggX6_clear_Jx4a65c_clear_da8c8
set_option maxRecDepth 20000 in
theorem ggX6_needShape_Jx4a65c_size_8abf5 : GoodIn wsX6_needShape wsJx4a65c_size_8abf5 := goodIn_r _ [8, 9, 16, 17, 18] (by decide +kernel) (by decide +kernel)
set_option maxRecDepth 20000 in
theorem gX6_needShape_Jx4a65c_size_8abf5 : GoodIn wsX6_needShape (wsV RX6 47 RJx4a65c yJx4a65c_size_8abf5 wsJx4a65c_size_8abf5) := goodIn_app (goodIn_of _ (by decide +kernel)) ggX6_needShape_Jx4a65c_size_8abf5
set_option maxRecDepth 20000 in
theorem ggX6_needNoneOpen_Jx4a65c_size_8abf5 : GoodIn wsX6_needNoneOpen wsJx4a65c_size_8abf5 := goodIn_r _ [9, 10, 45, 46, 47] (by decide +kernel) (by decide +kernel)
set_option maxRecDepth 20000 in
theorem gX6_needNoneOpen_Jx4a65c_size_8abf5 : GoodIn wsX6_needNoneOpen (wsV RX6 47 RJx4a65c yJx4a65c_size_8abf5 wsJx4a65c_size_8abf5) := goodIn_app (goodIn_of _ (by decide +kernel)) ggX6_needNoneOpen_Jx4a65c_size_8abf5
set_option maxRecDepth 20000 in
theorem ggX6_needNoneOpen_Jx4a65c_get_915e3 : GoodIn wsX6_needNoneOpen wsJx4a65c_get_915e3 := goodIn_r _ [14, 10, 15, 16, 17, 18, 19, 20, 21, 22, 23, 24, 25, 8, 26, 27, 45, 46, 47] (by decide +kernel) (by decide +kernel)
set_option maxRecDepth 20000 in
theorem gX6_needNoneOpen_Jx4a65c_get_915e3 : GoodIn wsX6_needNoneOpen (wsV RX6 72 RJx4a65c yJx4a65c_get_915e3 wsJx4a65c_get_915e3) := goodIn_app (goodIn_of _ (by decide +kernel)) ggX6_needNoneOpen_Jx4a65c_get_915e3
set_option maxRecDepth 20000 in
theorem ggX6_needNoneOpen_X5_isOpen : GoodIn wsX6_needNoneOpen wsX5_isOpen := goodIn_r _ [32, 33, 34, 35, 36, 37, 8, 38, 10, 48, 49, 50, 51, 52, 53, 54, 55, 56, 45, 46, 47] (by decide +kernel) (by decide +kernel)
set_option maxRecDepth 20000 in
theorem gX6_needNoneOpen_X5_isOpen : GoodIn wsX6_needNoneOpen (wsV RX6 221 RX5 yX5_isOpen wsX5_isOpen) := goodIn_app (goodIn_of _ (by decide +kernel)) ggX6_needNoneOpen_X5_isOpen
set_option maxRecDepth 20000 in
theorem ggX6_countPieces_Jx4a65c_size_8abf5 : GoodIn wsX6_countPieces wsJx4a65c_size_8abf5 := goodIn_r _ [8, 9, 42, 43, 44] (by decide +kernel) (by decide +kernel)
set_option maxRecDepth 20000 in
theorem gX6_countPieces_Jx4a65c_size_8abf5 : GoodIn wsX6_countPieces (wsV RX6 47 RJx4a65c yJx4a65c_size_8abf5 wsJx4a65c_size_8abf5) := goodIn_app (goodIn_of _ (by decide +kernel)) ggX6_countPieces_Jx4a65c_size_8abf5
set_option maxRecDepth 20000 in
theorem ggX6_countPieces_Jx4a65c_get_915e3 : GoodIn wsX6_countPieces wsJx4a65c_get_915e3 := goodIn_r _ [13, 9, 14, 15, 16, 17, 18, 19, 20, 21, 22, 23, 24, 7, 25, 26, 42, 43, 44] (by decide +kernel) (by decide +kernel)
set_option maxRecDepth 20000 in
theorem gX6_countPieces_Jx4a65c_get_915e3 : GoodIn wsX6_countPieces (wsV RX6 72 RJx4a65c yJx4a65c_get_915e3 wsJx4a65c_get_915e3) := goodIn_app (goodIn_of _ (by decide +kernel)) ggX6_countPieces_Jx4a65c_get_915e3
set_option maxRecDepth 20000 in
theorem ggX6_findNearOnes_Jx4a65c_get_915e3 : GoodIn wsX6_findNearOnes wsJx4a65c_get_915e3 := goodIn_r _ [11, 12, 13, 14, 15, 16, 17, 18, 19, 20, 21, 22, 23, 10, 24, 25, 72, 73, 74] (by decide +kernel) (by decide +kernel)
set_option maxRecDepth 20000 in
theorem gX6_findNearOnes_Jx4a65c_get_915e3 : GoodIn wsX6_findNearOnes (wsV RX6 72 RJx4a65c yJx4a65c_get_915e3 wsJx4a65c_get_915e3) := goodIn_app (goodIn_of _ (by decide +kernel)) ggX6_findNearOnes_Jx4a65c_get_915e3
set_option maxRecDepth 20000 in
theorem ggX6_findNearOnes_Jx4a65c_isEmpty_aae02 : GoodIn wsX6_findNearOnes wsJx4a65c_isEmpty_aae02 := goodIn_r _ [29, 12, 72, 73, 74] (by decide +kernel) (by decide +kernel)
set_option maxRecDepth 20000 in
theorem gX6_findNearOnes_Jx4a65c_isEmpty_aae02 : GoodIn wsX6_findNearOnes (wsV RX6 230 RJx4a65c yJx4a65c_isEmpty_aae02 wsJx4a65c_isEmpty_aae02) := goodIn_app (goodIn_of _ (by decide +kernel)) ggX6_findNearOnes_Jx4a65c_isEmpty_aae02
set_option maxRecDepth 20000 in
theorem ggX6_findNearOnes_Jx4a65c_size_8abf5 : GoodIn wsX6_findNearOnes wsJx4a65c_size_8abf5 := goodIn_r _ [33, 12, 72, 73, 74] (by decide +kernel) (by decide +kernel)
set_option maxRecDepth 20000 in
theorem gX6_findNearOnes_Jx4a65c_size_8abf5 : GoodIn wsX6_findNearOnes (wsV RX6 47 RJx4a65c yJx4a65c_size_8abf5 wsJx4a65c_size_8abf5) := goodIn_app (goodIn_of _ (by decide +kernel)) ggX6_findNearOnes_Jx4a65c_size_8abf5
set_option maxRecDepth 20000 in
theorem ggX6_findNearOnes_X0_isNearAny : GoodIn wsX6_findNearOnes wsX0_isNearAny := goodIn_r _ [38, 39, 40, 31, 32, 10, 33, 12, 41, 8, 9, 11, 13, 14, 15, 16, 17, 18, 19, 20, 21, 22, 23, 24, 25, 42, 43, 44, 37, 45, 46, 47, 48, 49, 50, 51, 52, 53, 54, 55, 56, 72, 73, 74, 75, 76, 77, 78] (by decide +kernel) (by decide +kernel)
set_option maxRecDepth 20000 in
theorem gX6_findNearOnes_X0_isNearAny : GoodIn wsX6_findNearOnes (wsV RX6 233 RX0 yX0_isNearAny wsX0_isNearAny) := goodIn_app (goodIn_of _ (by decide +kernel)) ggX6_findNearOnes_X0_isNearAny
set_option maxRecDepth 20000 in
theorem ggX6_cutShapes_X3_init : GoodIn wsX6_cutShapes wsX3_init := goodIn_r _ [9, 10, 11, 12, 13, 14, 15, 16, 17, 18, 19, 20, 21, 22, 23, 24, 25, 26, 27, 28, 29, 30, 31, 174, 175, 176, 158] (by decide +kernel) (by decide +kernel)
set_option maxRecDepth 20000 in
theorem gX6_cutShapes_X3_init_n237 : GoodIn wsX6_cutShapes (wsX3_init) := ggX6_cutShapes_X3_init
set_option maxRecDepth 20000 in
theorem ggX6_cutShapes_Jx4a65c_size_8abf5 : GoodIn wsX6_cutShapes wsJx4a65c_size_8abf5 := goodIn_r _ [35, 36, 174, 175, 176] (by decide +kernel) (by decide +kernel)
set_option maxRecDepth 20000 in
theorem gX6_cutShapes_Jx4a65c_size_8abf5 : GoodIn wsX6_cutShapes (wsV RX6 47 RJx4a65c yJx4a65c_size_8abf5 wsJx4a65c_size_8abf5) := goodIn_app (goodIn_of _ (by decide +kernel)) ggX6_cutShapes_Jx4a65c_size_8abf5
end
section
set_option maxRecDepth 20000 in
theorem ggX6_cutShapes_Jx4a65c_get_915e3 : GoodIn wsX6_cutShapes wsJx4a65c_get_915e3 := goodIn_r _ [40, 36, 41, 42, 43, 44, 45, 46, 47, 48, 49, 50, 51, 15, 52, 21, 174, 175, 176] (by decide +kernel) (by decide +kernel)
set_option maxRecDepth 20000 in
theorem gX6_cutShapes_Jx4a65c_get_915e3 : GoodIn wsX6_cutShapes (wsV RX6 72 RJx4a65c yJx4a65c_get_915e3 wsJx4a65c_get_915e3) := goodIn_app (goodIn_of _ (by decide +kernel)) ggX6_cutShapes_Jx4a65c_get_915e3
set_option maxRecDepth 20000 in
theorem ggX6_cutShapes_X5_pieceBoxes : GoodIn wsX6_cutShapes wsX5_pieceBoxes := goodIn_r _ [57, 58, 59, 60, 14, 15, 61, 62, 63, 64, 65, 36, 66, 18, 19, 20, 21, 22, 23, 24, 25, 26, 27, 28, 29, 30, 31, 11, 12, 67, 38, 39, 40, 41, 42, 43, 44, 45, 46, 47, 48, 49, 50, 51, 52, 68, 69, 70, 56, 71, 72, 73, 74, 75, 76, 77, 78, 79, 80, 81, 82, 83, 84, 85, 86, 87, 88, 89, 90, 91, 92, 93, 94, 95, 96, 97, 98, 99, 100, 101, 102, 103, 104, 105, 106, 107, 108, 109, 110, 111, 112, 113, 114, 115, 116, 117, 118, 119, 120, 121, 122, 123, 124, 125, 126, 127, 128, 129, 130, 131, 132, 133, 134, 135, 136, 137, 138, 139, 140, 165, 166, 167, 168, 169, 170, 171, 172, 173, 174, 175, 176, 177, 178, 179, 180] (by decide +kernel) (by decide +kernel)
set_option maxRecDepth 20000 in
theorem gX6_cutShapes_X5_pieceBoxes : GoodIn wsX6_cutShapes (wsV RX6 238 RX5 yX5_pieceBoxes wsX5_pieceBoxes) := goodIn_app (goodIn_of _ (by decide +kernel)) ggX6_cutShapes_X5_pieceBoxes
set_option maxRecDepth 20000 in
theorem ggX6_cutShapes_X3_add : GoodIn wsX6_cutShapes wsX3_add := goodIn_r _ [144, 16, 145, 146, 147, 148, 33, 34, 15, 35, 36, 149, 150, 151, 152, 11, 12, 153, 154, 155, 156, 157, 90, 91, 92, 93, 94, 21, 95, 96, 97, 98, 99, 100, 101, 102, 103, 104, 105, 106, 20, 107, 108, 109, 110, 111, 112, 113, 114, 115, 116, 117, 118, 119, 120, 121, 122, 123, 124, 125, 126, 127, 128, 129, 130, 131, 132, 133, 134, 135, 136, 137, 138, 139, 140, 158, 181, 182, 183, 184, 174, 175, 176] (by decide +kernel) (by decide +kernel)
set_option maxRecDepth 20000 in
theorem gX6_cutShapes_X3_add : GoodIn wsX6_cutShapes (wsV RX6 242 RX3 yX3_add wsX3_add) := goodIn_app (goodIn_of _ (by decide +kernel)) ggX6_cutShapes_X3_add
set_option maxRecDepth 20000 in
theorem ggX7_shape_X7_allPieces : GoodIn wsX7_shape wsX7_allPieces := goodIn_r _ [10, 1, 5, 11, 12, 13, 14, 15, 16, 17, 18, 19, 20, 21, 22, 23, 24, 25, 26, 27, 28, 29, 30, 31, 32, 33, 34, 35, 36, 37] (by decide +kernel) (by decide +kernel)
set_option maxRecDepth 20000 in
theorem gX7_shape_X7_allPieces : GoodIn wsX7_shape (wsV RX7 79 RX7 yX7_allPieces wsX7_allPieces) := goodIn_app (goodIn_of _ (by decide +kernel)) ggX7_shape_X7_allPieces
set_option maxRecDepth 20000 in
theorem ggX7_corner_X7_isShape : GoodIn wsX7_corner wsX7_isShape := goodIn_r _ [12, 13, 14, 15, 16, 17, 18, 19, 20, 21, 22, 23, 24, 25, 26, 27, 28, 29, 30, 31, 32, 33, 34, 35, 36, 37, 38, 39, 40] (by decide +kernel) (by decide +kernel)
set_option maxRecDepth 20000 in
theorem gX7_corner_X7_isShape : GoodIn wsX7_corner (wsV RX7 83 RX7 yX7_isShape wsX7_isShape) := goodIn_app (goodIn_of _ (by decide +kernel)) ggX7_corner_X7_isShape
set_option maxRecDepth 20000 in
theorem ggX7_load_X7_low : GoodIn wsX7_load wsX7_low := goodIn_r _ [11] (by decide +kernel) (by decide +kernel)
set_option maxRecDepth 20000 in
theorem gX7_load_X7_low : GoodIn wsX7_load (va_wsS RX7 101 yX7_low wsX7_low) := goodIn_app (goodIn_of _ (by decide +kernel)) ggX7_load_X7_low
set_option maxRecDepth 20000 in
theorem ggX7_load_X7_high : GoodIn wsX7_load wsX7_high := goodIn_r _ [14] (by decide +kernel) (by decide +kernel)
set_option maxRecDepth 20000 in
theorem gX7_load_X7_high : GoodIn wsX7_load (va_wsS RX7 105 yX7_high wsX7_high) := goodIn_app (goodIn_of _ (by decide +kernel)) ggX7_load_X7_high
set_option maxRecDepth 20000 in
theorem ggX7_isNearBox_X7_high : GoodIn wsX7_isNearBox wsX7_high := goodIn_r _ [7] (by decide +kernel) (by decide +kernel)
set_option maxRecDepth 20000 in
theorem gX7_isNearBox_X7_high : GoodIn wsX7_isNearBox (va_wsS RX7 105 yX7_high wsX7_high) := goodIn_app (goodIn_of _ (by decide +kernel)) ggX7_isNearBox_X7_high
set_option maxRecDepth 20000 in
theorem ggX7_isNearBox_X7_low : GoodIn wsX7_isNearBox wsX7_low := goodIn_r _ [10] (by decide +kernel) (by decide +kernel)
set_option maxRecDepth 20000 in
theorem gX7_isNearBox_X7_low : GoodIn wsX7_isNearBox (va_wsS RX7 101 yX7_low wsX7_low) := goodIn_app (goodIn_of _ (by decide +kernel)) ggX7_isNearBox_X7_low
set_option maxRecDepth 20000 in
theorem ggX7_isNearPiece_X7_boxes : GoodIn wsX7_isNearPiece wsX7_boxes := goodIn_r _ [5, 6, 7, 29, 30, 31, 32, 33, 34, 35, 36, 37, 38, 39, 40, 41, 42, 43, 44, 45, 46, 47, 48, 49, 50, 51, 52, 53, 54, 55] (by decide +kernel) (by decide +kernel)
set_option maxRecDepth 20000 in
theorem gX7_isNearPiece_X7_boxes : GoodIn wsX7_isNearPiece (wsV RX7 108 RX7 yX7_boxes wsX7_boxes) := goodIn_app (goodIn_of _ (by decide +kernel)) ggX7_isNearPiece_X7_boxes
set_option maxRecDepth 20000 in
theorem ggX7_isNearPiece_X7_load : GoodIn wsX7_isNearPiece wsX7_load := goodIn_r _ [11, 12, 13, 6, 14, 15, 16, 17, 18, 19, 4, 20, 21, 22, 23, 29, 30, 31, 32, 33, 34, 35, 36, 37, 38, 39, 40, 41, 42, 43, 44, 45, 46, 47, 48, 49, 50, 51, 52, 53, 54, 55] (by decide +kernel) (by decide +kernel)
set_option maxRecDepth 20000 in
theorem gX7_isNearPiece_X7_load : GoodIn wsX7_isNearPiece (wsV RX7 112 RX7 yX7_load wsX7_load) := goodIn_app (goodIn_of _ (by decide +kernel)) ggX7_isNearPiece_X7_load
set_option maxRecDepth 20000 in
theorem ggX7_isNearPiece_X7_isNearBox : GoodIn wsX7_isNearPiece wsX7_isNearBox := goodIn_r _ [27, 16, 17, 28, 21, 22, 4, 23, 18, 19, 20, 29, 30, 31, 32, 33, 34, 35, 36, 37, 38, 39, 40, 41, 42, 43, 44, 45, 46, 47, 48, 49, 50, 51, 52, 53, 54, 55] (by decide +kernel) (by decide +kernel)
set_option maxRecDepth 20000 in
theorem gX7_isNearPiece_X7_isNearBox : GoodIn wsX7_isNearPiece (wsV RX7 116 RX7 yX7_isNearBox wsX7_isNearBox) := goodIn_app (goodIn_of _ (by decide +kernel)) ggX7_isNearPiece_X7_isNearBox
set_option maxRecDepth 20000 in
theorem ggX7_isNear_X7_isNearPiece : GoodIn wsX7_isNear wsX7_isNearPiece := goodIn_r _ [6, 7, 8, 9, 5, 10, 1, 11, 12, 13, 14, 15, 16, 17, 18, 19, 20, 21, 22, 23, 24, 25, 26, 27, 28, 29, 30, 31, 32, 33, 34, 35, 36, 37, 38, 39, 40, 41, 42, 43, 44, 45, 46, 47, 48, 49, 50, 51, 52, 53, 54, 55, 56, 57, 58, 59] (by decide +kernel) (by decide +kernel)
set_option maxRecDepth 20000 in
theorem gX7_isNear_X7_isNearPiece : GoodIn wsX7_isNear (wsV RX7 120 RX7 yX7_isNearPiece wsX7_isNearPiece) := goodIn_app (goodIn_of _ (by decide +kernel)) ggX7_isNear_X7_isNearPiece
set_option maxRecDepth 20000 in
theorem ggX7_near_X7_isOpen : GoodIn wsX7_near wsX7_isOpen := goodIn_r _ [7, 2, 8, 43, 44, 45, 46, 47, 48, 49, 50, 51, 52, 53, 54, 55, 56, 57, 58, 59, 60, 61, 62, 63, 64, 65, 66, 67, 68, 69] (by decide +kernel) (by decide +kernel)
set_option maxRecDepth 20000 in
theorem gX7_near_X7_isOpen : GoodIn wsX7_near (wsV RX7 124 RX7 yX7_isOpen wsX7_isOpen) := goodIn_app (goodIn_of _ (by decide +kernel)) ggX7_near_X7_isOpen
set_option maxRecDepth 20000 in
theorem ggX7_near_X7_isNear : GoodIn wsX7_near wsX7_isNear := goodIn_r _ [12, 13, 14, 15, 16, 6, 17, 18, 19, 20, 21, 8, 22, 23, 24, 25, 26, 27, 28, 29, 30, 31, 32, 33, 34, 35, 36, 37, 38, 39, 40, 41, 42, 43, 44, 45, 46, 47, 48, 49, 50, 51, 52, 53, 54, 55, 56, 57, 58, 59, 60, 61, 62, 63, 64, 65, 66, 67, 68, 69] (by decide +kernel) (by decide +kernel)
set_option maxRecDepth 20000 in
theorem gX7_near_X7_isNear : GoodIn wsX7_near (wsV RX7 127 RX7 yX7_isNear wsX7_isNear) := goodIn_app (goodIn_of _ (by decide +kernel)) ggX7_near_X7_isNear
set_option maxRecDepth 20000 in
theorem ggX7_pair_X7_isOpen : GoodIn wsX7_pair wsX7_isOpen := goodIn_r _ [7, 2, 8, 43, 44, 45, 46, 47, 48, 49, 50, 51, 52, 53, 54, 55, 56, 57, 58, 59, 60, 61, 62, 63, 64, 65, 66, 67, 68, 69] (by decide +kernel) (by decide +kernel)
set_option maxRecDepth 20000 in
theorem gX7_pair_X7_isOpen : GoodIn wsX7_pair (wsV RX7 124 RX7 yX7_isOpen wsX7_isOpen) := goodIn_app (goodIn_of _ (by decide +kernel)) ggX7_pair_X7_isOpen
set_option maxRecDepth 20000 in
theorem ggX7_pair_X7_isNear : GoodIn wsX7_pair wsX7_isNear := goodIn_r _ [12, 13, 14, 15, 16, 6, 17, 18, 19, 20, 21, 8, 22, 23, 24, 25, 26, 27, 28, 29, 30, 31, 32, 33, 34, 35, 36, 37, 38, 39, 40, 41, 42, 43, 44, 45, 46, 47, 48, 49, 50, 51, 52, 53, 54, 55, 56, 57, 58, 59, 60, 61, 62, 63, 64, 65, 66, 67, 68, 69] (by decide +kernel) (by decide +kernel)
set_option maxRecDepth 20000 in
theorem gX7_pair_X7_isNear : GoodIn wsX7_pair (wsV RX7 127 RX7 yX7_isNear wsX7_isNear) := goodIn_app (goodIn_of _ (by decide +kernel)) ggX7_pair_X7_isNear
set_option maxRecDepth 20000 in
theorem ggX7_pre_X7_isShape : GoodIn wsX7_pre wsX7_isShape := goodIn_r _ [7, 8, 14, 15, 16, 17, 18, 19, 20, 21, 22, 23, 24, 25, 26, 27, 28, 29, 30, 31, 32, 33, 34, 35, 36, 37, 38, 39, 40] (by decide +kernel) (by decide +kernel)
set_option maxRecDepth 20000 in
theorem gX7_pre_X7_isShape : GoodIn wsX7_pre (wsV RX7 83 RX7 yX7_isShape wsX7_isShape) := goodIn_app (goodIn_of _ (by decide +kernel)) ggX7_pre_X7_isShape
set_option maxRecDepth 20000 in
theorem ggX7_pre_X7_isOpen : GoodIn wsX7_pre wsX7_isOpen := goodIn_r _ [12, 8, 13, 14, 15, 16, 17, 18, 19, 20, 21, 22, 23, 24, 25, 26, 27, 28, 29, 30, 31, 32, 33, 34, 35, 36, 37, 38, 39, 40] (by decide +kernel) (by decide +kernel)
set_option maxRecDepth 20000 in
theorem gX7_pre_X7_isOpen : GoodIn wsX7_pre (wsV RX7 124 RX7 yX7_isOpen wsX7_isOpen) := goodIn_app (goodIn_of _ (by decide +kernel)) ggX7_pre_X7_isOpen
set_option maxRecDepth 20000 in
theorem ggX7_isWithin_X7_low : GoodIn wsX7_isWithin wsX7_low := goodIn_r _ [6] (by decide +kernel) (by decide +kernel)
set_option maxRecDepth 20000 in
theorem gX7_isWithin_X7_low : GoodIn wsX7_isWithin (va_wsS RX7 101 yX7_low wsX7_low) := goodIn_app (goodIn_of _ (by decide +kernel)) ggX7_isWithin_X7_low
set_option maxRecDepth 20000 in
theorem ggX7_isWithin_X7_high : GoodIn wsX7_isWithin wsX7_high := goodIn_r _ [9] (by decide +kernel) (by decide +kernel)
set_option maxRecDepth 20000 in
theorem gX7_isWithin_X7_high : GoodIn wsX7_isWithin (va_wsS RX7 105 yX7_high wsX7_high) := goodIn_app (goodIn_of _ (by decide +kernel)) ggX7_isWithin_X7_high
set_option maxRecDepth 20000 in
theorem ggX7_stitch_X7_isShape : GoodIn wsX7_stitch wsX7_isShape := goodIn_r _ [10, 11, 36, 37, 38, 39, 40, 41, 42, 43, 44, 45, 46, 47, 48, 49, 50, 51, 52, 53, 54, 55, 56, 57, 58, 59, 60, 61, 62] (by decide +kernel) (by decide +kernel)
set_option maxRecDepth 20000 in
theorem gX7_stitch_X7_isShape : GoodIn wsX7_stitch (wsV RX7 83 RX7 yX7_isShape wsX7_isShape) := goodIn_app (goodIn_of _ (by decide +kernel)) ggX7_stitch_X7_isShape
set_option maxRecDepth 20000 in
theorem ggX7_stitch_X7_isOpen : GoodIn wsX7_stitch wsX7_isOpen := goodIn_r _ [15, 11, 2, 36, 37, 38, 39, 40, 41, 42, 43, 44, 45, 46, 47, 48, 49, 50, 51, 52, 53, 54, 55, 56, 57, 58, 59, 60, 61, 62] (by decide +kernel) (by decide +kernel)
set_option maxRecDepth 20000 in
theorem gX7_stitch_X7_isOpen : GoodIn wsX7_stitch (wsV RX7 124 RX7 yX7_isOpen wsX7_isOpen) := goodIn_app (goodIn_of _ (by decide +kernel)) ggX7_stitch_X7_isOpen
set_option maxRecDepth 20000 in
theorem ggX7_stitch_X7_hasCut : GoodIn wsX7_stitch wsX7_hasCut := goodIn_r _ [19, 3, 4, 5, 36, 37, 38, 39, 40, 41, 42, 43, 44, 45, 46, 47, 48, 49, 50, 51, 52, 53, 54, 55, 56, 57, 58, 59, 60, 61, 62] (by decide +kernel) (by decide +kernel)
set_option maxRecDepth 20000 in
theorem gX7_stitch_X7_hasCut : GoodIn wsX7_stitch (wsV RX7 131 RX7 yX7_hasCut wsX7_hasCut) := goodIn_app (goodIn_of _ (by decide +kernel)) ggX7_stitch_X7_hasCut
set_option maxRecDepth 20000 in
theorem ggX7_stitch_X7_allPieces : GoodIn wsX7_stitch wsX7_allPieces := goodIn_r _ [23, 11, 3, 36, 37, 38, 39, 40, 41, 42, 43, 44, 45, 46, 47, 48, 49, 50, 51, 52, 53, 54, 55, 56, 57, 58, 59, 60, 61, 62] (by decide +kernel) (by decide +kernel)
set_option maxRecDepth 20000 in
theorem gX7_stitch_X7_allPieces : GoodIn wsX7_stitch (wsV RX7 79 RX7 yX7_allPieces wsX7_allPieces) := goodIn_app (goodIn_of _ (by decide +kernel)) ggX7_stitch_X7_allPieces
set_option maxRecDepth 20000 in
theorem ggX7_stitch_X7_isWithin : GoodIn wsX7_stitch wsX7_isWithin := goodIn_r _ [27, 28, 29, 30, 31, 9, 32, 33, 34, 35, 36, 37, 38, 39, 40, 41, 42, 43, 44, 45, 46, 47, 48, 49, 50, 51, 52, 53, 54, 55, 56, 57, 58, 59, 60, 61, 62] (by decide +kernel) (by decide +kernel)
set_option maxRecDepth 20000 in
theorem gX7_stitch_X7_isWithin : GoodIn wsX7_stitch (wsV RX7 135 RX7 yX7_isWithin wsX7_isWithin) := goodIn_app (goodIn_of _ (by decide +kernel)) ggX7_stitch_X7_isWithin
set_option maxRecDepth 20000 in
theorem ggX7_part_X7_isNearPiece : GoodIn wsX7_part wsX7_isNearPiece := goodIn_r _ [11, 12, 13, 14, 10, 15, 3, 16, 17, 18, 19, 20, 21, 22, 23, 24, 25, 26, 27, 28, 29, 30, 31, 32, 33, 34, 35, 36, 37, 38, 39, 40, 41, 42, 43, 44, 45, 46, 47, 48, 49, 50, 51, 52, 53, 54, 55, 56, 57, 58, 59, 60, 61, 62, 63, 64] (by decide +kernel) (by decide +kernel)
set_option maxRecDepth 20000 in
theorem gX7_part_X7_isNearPiece : GoodIn wsX7_part (wsV RX7 120 RX7 yX7_isNearPiece wsX7_isNearPiece) := goodIn_app (goodIn_of _ (by decide +kernel)) ggX7_part_X7_isNearPiece
set_option maxRecDepth 20000 in
theorem ggX7_fits_X7_usedUpTo : GoodIn wsX7_fits wsX7_usedUpTo := goodIn_r _ [9, 2, 3, 10, 11, 12, 13, 14, 15, 16, 17, 18, 19, 20, 21, 22, 23, 24, 25, 26, 27, 28, 29, 30, 31, 32, 33, 34, 35, 36] (by decide +kernel) (by decide +kernel)
set_option maxRecDepth 20000 in
theorem gX7_fits_X7_usedUpTo : GoodIn wsX7_fits (wsV RX7 141 RX7 yX7_usedUpTo wsX7_usedUpTo) := goodIn_app (goodIn_of _ (by decide +kernel)) ggX7_fits_X7_usedUpTo
set_option maxRecDepth 20000 in
theorem ggX7_isFound_X7_fits : GoodIn wsX7_isFound wsX7_fits := goodIn_r _ [7, 8, 9, 1, 10, 11, 12, 13, 6, 14, 15, 16, 17, 18, 19, 20, 21, 22, 23, 24, 25, 26, 27, 28, 29, 30, 31, 32, 33, 34, 35, 36, 37, 38, 39, 40, 41] (by decide +kernel) (by decide +kernel)
set_option maxRecDepth 20000 in
theorem gX7_isFound_X7_fits : GoodIn wsX7_isFound (wsV RX7 144 RX7 yX7_fits wsX7_fits) := goodIn_app (goodIn_of _ (by decide +kernel)) ggX7_isFound_X7_fits
set_option maxRecDepth 20000 in
theorem ggX7_areaOf_X7_boxes : GoodIn wsX7_areaOf wsX7_boxes := goodIn_r _ [8, 9, 10, 26, 27, 28, 29, 30, 31, 32, 33, 34, 35, 36, 37, 38, 39, 40, 41, 42, 43, 44, 45, 46, 47, 48, 49, 50, 51, 52] (by decide +kernel) (by decide +kernel)
set_option maxRecDepth 20000 in
theorem gX7_areaOf_X7_boxes : GoodIn wsX7_areaOf (wsV RX7 108 RX7 yX7_boxes wsX7_boxes) := goodIn_app (goodIn_of _ (by decide +kernel)) ggX7_areaOf_X7_boxes
end
section
set_option maxRecDepth 20000 in
theorem ggX7_areaOf_X7_load : GoodIn wsX7_areaOf wsX7_load := goodIn_r _ [14, 15, 16, 9, 17, 18, 3, 19, 20, 21, 7, 22, 23, 24, 25, 26, 27, 28, 29, 30, 31, 32, 33, 34, 35, 36, 37, 38, 39, 40, 41, 42, 43, 44, 45, 46, 47, 48, 49, 50, 51, 52] (by decide +kernel) (by decide +kernel)
set_option maxRecDepth 20000 in
theorem gX7_areaOf_X7_load : GoodIn wsX7_areaOf (wsV RX7 112 RX7 yX7_load wsX7_load) := goodIn_app (goodIn_of _ (by decide +kernel)) ggX7_areaOf_X7_load
set_option maxRecDepth 20000 in
theorem ggX7_keep_X7_usedUpTo : GoodIn wsX7_keep wsX7_usedUpTo := goodIn_r _ [14, 6, 8, 42, 43, 44, 45, 46, 47, 48, 49, 50, 51, 52, 53, 54, 55, 56, 57, 58, 59, 60, 61, 62, 63, 64, 65, 66, 67, 68] (by decide +kernel) (by decide +kernel)
set_option maxRecDepth 20000 in
theorem gX7_keep_X7_usedUpTo : GoodIn wsX7_keep (wsV RX7 141 RX7 yX7_usedUpTo wsX7_usedUpTo) := goodIn_app (goodIn_of _ (by decide +kernel)) ggX7_keep_X7_usedUpTo
set_option maxRecDepth 20000 in
theorem ggX7_keep_X7_areaOf : GoodIn wsX7_keep wsX7_areaOf := goodIn_r _ [18, 6, 19, 20, 21, 22, 23, 13, 24, 25, 26, 27, 28, 29, 30, 31, 32, 33, 34, 35, 36, 37, 38, 39, 40, 41, 42, 43, 44, 45, 46, 47, 48, 49, 50, 51, 52, 53, 54, 55, 56, 57, 58, 59, 60, 61, 62, 63, 64, 65, 66, 67, 68] (by decide +kernel) (by decide +kernel)
set_option maxRecDepth 20000 in
theorem gX7_keep_X7_areaOf : GoodIn wsX7_keep (wsV RX7 153 RX7 yX7_areaOf wsX7_areaOf) := goodIn_app (goodIn_of _ (by decide +kernel)) ggX7_keep_X7_areaOf
set_option maxRecDepth 20000 in
theorem ggX7_isRing_X7_isStep : GoodIn wsX7_isRing wsX7_isStep := goodIn_r _ [7, 1, 8, 9, 10, 11, 12, 13, 14, 15, 16, 17, 18, 19, 20, 21, 22, 23, 24, 25, 26, 27, 28, 29, 30, 31, 32, 33, 34, 35] (by decide +kernel) (by decide +kernel)
set_option maxRecDepth 20000 in
theorem gX7_isRing_X7_isStep : GoodIn wsX7_isRing (wsV RX7 157 RX7 yX7_isStep wsX7_isStep) := goodIn_app (goodIn_of _ (by decide +kernel)) ggX7_isRing_X7_isStep
set_option maxRecDepth 20000 in
theorem ggX7_findRing_X7_isRing : GoodIn wsX7_findRing wsX7_isRing := goodIn_r _ [10, 5, 1, 11, 12, 13, 9, 14, 15, 16, 17, 18, 19, 20, 21, 22, 23, 24, 25, 26, 27, 28, 29, 30, 31, 32, 33, 34, 35, 36, 37, 38, 39, 40, 41, 42] (by decide +kernel) (by decide +kernel)
set_option maxRecDepth 20000 in
theorem gX7_findRing_X7_isRing : GoodIn wsX7_findRing (wsV RX7 160 RX7 yX7_isRing wsX7_isRing) := goodIn_app (goodIn_of _ (by decide +kernel)) ggX7_findRing_X7_isRing
set_option maxRecDepth 20000 in
theorem ggX7_run_X7_isOpen : GoodIn wsX7_run wsX7_isOpen := goodIn_r _ [9, 10, 11, 95, 96, 97, 98, 99, 100, 101, 102, 103, 104, 105, 106, 107, 108, 109, 110, 111, 112, 113, 114, 115, 116, 117, 118, 119, 120, 121] (by decide +kernel) (by decide +kernel)
set_option maxRecDepth 20000 in
theorem gX7_run_X7_isOpen : GoodIn wsX7_run (wsV RX7 124 RX7 yX7_isOpen wsX7_isOpen) := goodIn_app (goodIn_of _ (by decide +kernel)) ggX7_run_X7_isOpen
set_option maxRecDepth 20000 in
theorem ggX7_run_X7_allPieces : GoodIn wsX7_run wsX7_allPieces := goodIn_r _ [15, 10, 16, 95, 96, 97, 98, 99, 100, 101, 102, 103, 104, 105, 106, 107, 108, 109, 110, 111, 112, 113, 114, 115, 116, 117, 118, 119, 120, 121] (by decide +kernel) (by decide +kernel)
set_option maxRecDepth 20000 in
theorem gX7_run_X7_allPieces : GoodIn wsX7_run (wsV RX7 79 RX7 yX7_allPieces wsX7_allPieces) := goodIn_app (goodIn_of _ (by decide +kernel)) ggX7_run_X7_allPieces
set_option maxRecDepth 20000 in
theorem ggX7_run_X7_part : GoodIn wsX7_run wsX7_part := goodIn_r _ [20, 21, 10, 16, 22, 23, 24, 25, 26, 27, 8, 28, 29, 30, 31, 32, 11, 33, 34, 35, 36, 37, 38, 39, 40, 41, 42, 43, 44, 45, 46, 47, 48, 49, 50, 51, 52, 53, 95, 96, 97, 98, 99, 100, 101, 102, 103, 104, 105, 106, 107, 108, 109, 110, 111, 112, 113, 114, 115, 116, 117, 118, 119, 120, 121] (by decide +kernel) (by decide +kernel)
set_option maxRecDepth 20000 in
theorem gX7_run_X7_part : GoodIn wsX7_run (wsV RX7 163 RX7 yX7_part wsX7_part) := goodIn_app (goodIn_of _ (by decide +kernel)) ggX7_run_X7_part
set_option maxRecDepth 20000 in
theorem ggX7_run_X7_isFound : GoodIn wsX7_run wsX7_isFound := goodIn_r _ [57, 58, 21, 59, 60, 61, 8, 62, 63, 22, 24, 64, 65, 66, 67, 95, 96, 97, 98, 99, 100, 101, 102, 103, 104, 105, 106, 107, 108, 109, 110, 111, 112, 113, 114, 115, 116, 117, 118, 119, 120, 121] (by decide +kernel) (by decide +kernel)
set_option maxRecDepth 20000 in
theorem gX7_run_X7_isFound : GoodIn wsX7_run (wsV RX7 166 RX7 yX7_isFound wsX7_isFound) := goodIn_app (goodIn_of _ (by decide +kernel)) ggX7_run_X7_isFound
set_option maxRecDepth 20000 in
theorem ggX7_run_X7_keep : GoodIn wsX7_run wsX7_keep := goodIn_r _ [71, 3, 21, 72, 73, 74, 22, 75, 58, 76, 64, 65, 66, 8, 67, 77, 78, 79, 80, 23, 41, 29, 30, 31, 32, 16, 11, 33, 34, 35, 36, 37, 38, 39, 40, 42, 43, 44, 45, 46, 47, 48, 95, 96, 97, 98, 99, 100, 101, 102, 103, 104, 105, 106, 107, 108, 109, 110, 111, 112, 113, 114, 115, 116, 117, 118, 119, 120, 121] (by decide +kernel) (by decide +kernel)
set_option maxRecDepth 20000 in
theorem gX7_run_X7_keep : GoodIn wsX7_run (wsV RX7 169 RX7 yX7_keep wsX7_keep) := goodIn_app (goodIn_of _ (by decide +kernel)) ggX7_run_X7_keep
set_option maxRecDepth 20000 in
theorem ggX7_run_X7_findRing : GoodIn wsX7_run wsX7_findRing := goodIn_r _ [84, 21, 4, 85, 22, 86, 87, 88, 89, 8, 90, 91, 92, 93, 94, 24, 95, 96, 97, 98, 99, 100, 101, 102, 103, 104, 105, 106, 107, 108, 109, 110, 111, 112, 113, 114, 115, 116, 117, 118, 119, 120, 121] (by decide +kernel) (by decide +kernel)
set_option maxRecDepth 20000 in
theorem gX7_run_X7_findRing : GoodIn wsX7_run (wsV RX7 172 RX7 yX7_findRing wsX7_findRing) := goodIn_app (goodIn_of _ (by decide +kernel)) ggX7_run_X7_findRing
set_option maxRecDepth 20000 in
theorem ggX7_colour_X7_isShape : GoodIn wsX7_colour wsX7_isShape := goodIn_r _ [7, 8, 16, 17, 18, 19, 20, 21, 22, 23, 24, 25, 26, 27, 28, 29, 30, 31, 32, 33, 34, 35, 36, 37, 38, 39, 40, 41, 42] (by decide +kernel) (by decide +kernel)
set_option maxRecDepth 20000 in
theorem gX7_colour_X7_isShape : GoodIn wsX7_colour (wsV RX7 83 RX7 yX7_isShape wsX7_isShape) := goodIn_app (goodIn_of _ (by decide +kernel)) ggX7_colour_X7_isShape
set_option maxRecDepth 20000 in
theorem ggX7_colour_X7_firstOf : GoodIn wsX7_colour wsX7_firstOf := goodIn_r _ [12, 13, 14, 15, 16, 17, 18, 19, 20, 21, 22, 23, 24, 25, 26, 27, 28, 29, 30, 31, 32, 33, 34, 35, 36, 37, 38, 39, 40, 41, 42] (by decide +kernel) (by decide +kernel)
set_option maxRecDepth 20000 in
theorem gX7_colour_X7_firstOf : GoodIn wsX7_colour (wsV RX7 175 RX7 yX7_firstOf wsX7_firstOf) := goodIn_app (goodIn_of _ (by decide +kernel)) ggX7_colour_X7_firstOf
set_option maxRecDepth 20000 in
theorem ggX7_used_X7_isShape : GoodIn wsX7_used wsX7_isShape := goodIn_r _ [10, 11, 17, 18, 19, 20, 21, 22, 23, 24, 25, 26, 27, 28, 29, 30, 31, 32, 33, 34, 35, 36, 37, 38, 39, 40, 41, 42, 43] (by decide +kernel) (by decide +kernel)
set_option maxRecDepth 20000 in
theorem gX7_used_X7_isShape : GoodIn wsX7_used (wsV RX7 83 RX7 yX7_isShape wsX7_isShape) := goodIn_app (goodIn_of _ (by decide +kernel)) ggX7_used_X7_isShape
set_option maxRecDepth 20000 in
theorem ggX7_used_X7_firstOf : GoodIn wsX7_used wsX7_firstOf := goodIn_r _ [15, 2, 16, 3, 17, 18, 19, 20, 21, 22, 23, 24, 25, 26, 27, 28, 29, 30, 31, 32, 33, 34, 35, 36, 37, 38, 39, 40, 41, 42, 43] (by decide +kernel) (by decide +kernel)
set_option maxRecDepth 20000 in
theorem gX7_used_X7_firstOf : GoodIn wsX7_used (wsV RX7 175 RX7 yX7_firstOf wsX7_firstOf) := goodIn_app (goodIn_of _ (by decide +kernel)) ggX7_used_X7_firstOf
set_option maxRecDepth 20000 in
theorem ggJxc12de_init_da8c8_Jxa1e45_init_da8c8 : GoodIn wsJxc12de_init_da8c8 wsJxa1e45_init_da8c8 := goodIn_r _ [5, 6, 7, 8] (by decide +kernel) (by decide +kernel)
set_option maxRecDepth 20000 in
theorem gJxc12de_init_da8c8_Jxa1e45_init_da8c8 : GoodIn wsJxc12de_init_da8c8 (wsJxa1e45_init_da8c8) := ggJxc12de_init_da8c8_Jxa1e45_init_da8c8
set_option maxRecDepth 20000 in
theorem ggJx4a65c_init_da8c8_Jxc12de_init_da8c8 : GoodIn wsJx4a65c_init_da8c8 wsJxc12de_init_da8c8 := goodIn_r _ [6, 7, 8, 9, 10, 11, 12, 13, 14, 15, 16, 17] (by decide +kernel) (by decide +kernel)
set_option maxRecDepth 20000 in
theorem gJx4a65c_init_da8c8_Jxc12de_init_da8c8 : GoodIn wsJx4a65c_init_da8c8 (wsJxc12de_init_da8c8) := ggJx4a65c_init_da8c8_Jxc12de_init_da8c8
set_option maxRecDepth 20000 in
theorem ggJx4a65c_grow_92f84_J8_newLength_cabcc : GoodIn wsJx4a65c_grow_92f84 wsJ8_newLength_cabcc := goodIn_r _ [11, 12, 4, 5, 6, 13, 14, 15, 10, 16] (by decide +kernel) (by decide +kernel)
set_option maxRecDepth 20000 in
theorem gJx4a65c_grow_92f84_J8_newLength_cabcc : GoodIn wsJx4a65c_grow_92f84 (va_wsS RJx4a65c 73 yJ8_newLength_cabcc wsJ8_newLength_cabcc) := goodIn_app (goodIn_of _ (by decide +kernel)) ggJx4a65c_grow_92f84_J8_newLength_cabcc
set_option maxRecDepth 20000 in
theorem ggJx4a65c_grow_92f84_J7_copyOf_1904c : GoodIn wsJx4a65c_grow_92f84 wsJ7_copyOf_1904c := goodIn_r _ [20, 21, 22, 23, 24, 25, 26, 19, 27, 28, 29, 30, 31, 5, 32, 33, 34, 35, 36] (by decide +kernel) (by decide +kernel)
set_option maxRecDepth 20000 in
theorem gJx4a65c_grow_92f84_J7_copyOf_1904c : GoodIn wsJx4a65c_grow_92f84 (va_wsS RJx4a65c 66 yJ7_copyOf_1904c wsJ7_copyOf_1904c) := goodIn_app (goodIn_of _ (by decide +kernel)) ggJx4a65c_grow_92f84_J7_copyOf_1904c
set_option maxRecDepth 20000 in
theorem ggJx4a65c_grow_d5877_Jx4a65c_grow_92f84 : GoodIn wsJx4a65c_grow_d5877 wsJx4a65c_grow_92f84 := goodIn_r _ [6, 7, 8, 9, 10, 11, 12, 13, 14, 15, 16, 17, 18, 19, 20, 21, 22, 23, 24, 25, 26, 27, 28, 29, 30, 31, 32, 33, 34, 35, 36, 37, 38, 39, 40, 41, 42, 43, 44, 45] (by decide +kernel) (by decide +kernel)
set_option maxRecDepth 20000 in
theorem gJx4a65c_grow_d5877_Jx4a65c_grow_92f84 : GoodIn wsJx4a65c_grow_d5877 (wsV RJx4a65c 69 RJx4a65c yJx4a65c_grow_92f84 wsJx4a65c_grow_92f84) := goodIn_app (goodIn_of _ (by decide +kernel)) ggJx4a65c_grow_d5877_Jx4a65c_grow_92f84
set_option maxRecDepth 20000 in
theorem ggJx4a65c_get_915e3_J15_checkIndex_7cf53 : GoodIn wsJx4a65c_get_915e3 wsJ15_checkIndex_7cf53 := goodIn_r _ [5, 6, 7, 8, 9] (by decide +kernel) (by decide +kernel)
set_option maxRecDepth 20000 in
theorem gJx4a65c_get_915e3_J15_checkIndex_7cf53 : GoodIn wsJx4a65c_get_915e3 (va_wsS RJx4a65c 118 yJ15_checkIndex_7cf53 wsJ15_checkIndex_7cf53) := goodIn_app (goodIn_of _ (by decide +kernel)) ggJx4a65c_get_915e3_J15_checkIndex_7cf53
set_option maxRecDepth 20000 in
theorem ggJx4a65c_get_915e3_Jx4a65c_elementData_915e3 : GoodIn wsJx4a65c_get_915e3 wsJx4a65c_elementData_915e3 := goodIn_r _ [14, 15, 16, 17, 18] (by decide +kernel) (by decide +kernel)
set_option maxRecDepth 20000 in
theorem gJx4a65c_get_915e3_Jx4a65c_elementData_915e3 : GoodIn wsJx4a65c_get_915e3 (wsV RJx4a65c 123 RJx4a65c yJx4a65c_elementData_915e3 wsJx4a65c_elementData_915e3) := goodIn_app (goodIn_of _ (by decide +kernel)) ggJx4a65c_get_915e3_Jx4a65c_elementData_915e3
set_option maxRecDepth 20000 in
theorem ggJx4a65c_add_72be8_Jx4a65c_grow_d5877 : GoodIn wsJx4a65c_add_72be8 wsJx4a65c_grow_d5877 := goodIn_r _ [6, 1, 7, 8, 9, 5, 10, 11, 12, 13, 14, 15, 16, 17, 18, 19, 20, 21, 22, 23, 24, 25, 26, 27, 28, 29, 30, 31, 32, 33, 34, 35, 36, 37, 38, 39, 40, 41, 42, 43, 44, 45, 46, 47, 48, 49] (by decide +kernel) (by decide +kernel)
set_option maxRecDepth 20000 in
theorem gJx4a65c_add_72be8_Jx4a65c_grow_d5877 : GoodIn wsJx4a65c_add_72be8 (wsV RJx4a65c 129 RJx4a65c yJx4a65c_grow_d5877 wsJx4a65c_grow_d5877) := goodIn_app (goodIn_of _ (by decide +kernel)) ggJx4a65c_add_72be8_Jx4a65c_grow_d5877
set_option maxRecDepth 20000 in
theorem ggJx4a65c_add_9ea2d_Jx4a65c_add_72be8 : GoodIn wsJx4a65c_add_9ea2d wsJx4a65c_add_72be8 := goodIn_r _ [9, 4, 10, 11, 12, 8, 13, 14, 15, 16, 17, 3, 18, 19, 20, 21, 22, 23, 24, 25, 26, 27, 28, 29, 30, 31, 32, 33, 34, 35, 36, 37, 38, 39, 40, 41, 42, 43, 44, 45, 46, 47, 48, 49, 50, 51, 52, 53, 54, 55] (by decide +kernel) (by decide +kernel)
set_option maxRecDepth 20000 in
theorem gJx4a65c_add_9ea2d_Jx4a65c_add_72be8 : GoodIn wsJx4a65c_add_9ea2d (wsV RJx4a65c 131 RJx4a65c yJx4a65c_add_72be8 wsJx4a65c_add_72be8) := goodIn_app (goodIn_of _ (by decide +kernel)) ggJx4a65c_add_9ea2d_Jx4a65c_add_72be8
set_option maxRecDepth 20000 in
theorem ggJ7_copyOf_1904c_J7_copyOf_6403c : GoodIn wsJ7_copyOf_1904c wsJ7_copyOf_6403c := goodIn_r _ [8, 9, 10, 11, 12, 13, 14, 15, 16, 17, 18] (by decide +kernel) (by decide +kernel)
set_option maxRecDepth 20000 in
theorem gJ7_copyOf_1904c_J7_copyOf_6403c : GoodIn wsJ7_copyOf_1904c (va_wsS RJ7 300 yJ7_copyOf_6403c wsJ7_copyOf_6403c) := goodIn_app (goodIn_of _ (by decide +kernel)) ggJ7_copyOf_1904c_J7_copyOf_6403c
set_option maxRecDepth 20000 in
theorem ggJ15_checkIndex_7cf53_J3_checkIndex_8e157 : GoodIn wsJ15_checkIndex_7cf53 wsJ3_checkIndex_8e157 := goodIn_r _ [4] (by decide +kernel) (by decide +kernel)
set_option maxRecDepth 20000 in
theorem gJ15_checkIndex_7cf53_J3_checkIndex_8e157 : GoodIn wsJ15_checkIndex_7cf53 (va_wsS RJ15 105 yJ3_checkIndex_8e157 wsJ3_checkIndex_8e157) := goodIn_app (goodIn_of _ (by decide +kernel)) ggJ15_checkIndex_7cf53_J3_checkIndex_8e157
set_option maxRecDepth 20000 in
theorem ggJ8_newLength_cabcc_J8_hugeLength_7cf53 : GoodIn wsJ8_newLength_cabcc wsJ8_hugeLength_7cf53 := goodIn_r _ [9, 5] (by decide +kernel) (by decide +kernel)
set_option maxRecDepth 20000 in
theorem gJ8_newLength_cabcc_J8_hugeLength_7cf53 : GoodIn wsJ8_newLength_cabcc (va_wsS RJ8 201 yJ8_hugeLength_7cf53 wsJ8_hugeLength_7cf53) := goodIn_app (goodIn_of _ (by decide +kernel)) ggJ8_newLength_cabcc_J8_hugeLength_7cf53
end
section
theorem dX0_init_0 : decode cX0_init 0 = .ok (.aload_n 0, 1) := by decide +kernel
theorem dX0_init_1 : decode cX0_init 1 = .ok (.invokespecial 1, 3) := by decide +kernel
theorem dX0_init_4 : decode cX0_init 4 = .ok (.aload_n 0, 1) := by decide +kernel
theorem dX0_init_5 : decode cX0_init 5 = .ok (.lload_n 1, 1) := by decide +kernel
theorem dX0_init_6 : decode cX0_init 6 = .ok (.putfield 7, 3) := by decide +kernel
theorem dX0_init_9 : decode cX0_init 9 = .ok (.aload_n 0, 1) := by decide +kernel
theorem dX0_init_10 : decode cX0_init 10 = .ok (.lload_n 3, 1) := by decide +kernel
theorem dX0_init_11 : decode cX0_init 11 = .ok (.putfield 13, 3) := by decide +kernel
theorem dX0_init_14 : decode cX0_init 14 = .ok (.aload_n 0, 1) := by decide +kernel
theorem dX0_init_15 : decode cX0_init 15 = .ok (.lload 5, 2) := by decide +kernel
theorem dX0_init_17 : decode cX0_init 17 = .ok (.putfield 16, 3) := by decide +kernel
theorem dX0_init_20 : decode cX0_init 20 = .ok (.aload_n 0, 1) := by decide +kernel
theorem dX0_init_21 : decode cX0_init 21 = .ok (.lload 7, 2) := by decide +kernel
theorem dX0_init_23 : decode cX0_init 23 = .ok (.putfield 19, 3) := by decide +kernel
theorem dX0_init_26 : decode cX0_init 26 = .ok (.return_, 1) := by decide +kernel
theorem dX0_area_0 : decode cX0_area 0 = .ok (.aload_n 0, 1) := by decide +kernel
theorem dX0_area_1 : decode cX0_area 1 = .ok (.getfield 16, 3) := by decide +kernel
theorem dX0_area_4 : decode cX0_area 4 = .ok (.aload_n 0, 1) := by decide +kernel
theorem dX0_area_5 : decode cX0_area 5 = .ok (.getfield 7, 3) := by decide +kernel
theorem dX0_area_8 : decode cX0_area 8 = .ok (.lsub, 1) := by decide +kernel
theorem dX0_area_9 : decode cX0_area 9 = .ok (.aload_n 0, 1) := by decide +kernel
theorem dX0_area_10 : decode cX0_area 10 = .ok (.getfield 19, 3) := by decide +kernel
theorem dX0_area_13 : decode cX0_area 13 = .ok (.aload_n 0, 1) := by decide +kernel
theorem dX0_area_14 : decode cX0_area 14 = .ok (.getfield 13, 3) := by decide +kernel
theorem dX0_area_17 : decode cX0_area 17 = .ok (.lsub, 1) := by decide +kernel
theorem dX0_area_18 : decode cX0_area 18 = .ok (.lmul, 1) := by decide +kernel
theorem dX0_area_19 : decode cX0_area 19 = .ok (.lreturn, 1) := by decide +kernel
theorem dX0_isWithin_0 : decode cX0_isWithin 0 = .ok (.iload_n 3, 1) := by decide +kernel
theorem dX0_isWithin_1 : decode cX0_isWithin 1 = .ok (.ifCond .eq 29, 3) := by decide +kernel
theorem dX0_isWithin_4 : decode cX0_isWithin 4 = .ok (.aload_n 0, 1) := by decide +kernel
theorem dX0_isWithin_5 : decode cX0_isWithin 5 = .ok (.getfield 7, 3) := by decide +kernel
theorem dX0_isWithin_8 : decode cX0_isWithin 8 = .ok (.lload_n 1, 1) := by decide +kernel
theorem dX0_isWithin_9 : decode cX0_isWithin 9 = .ok (.lcmp, 1) := by decide +kernel
theorem dX0_isWithin_10 : decode cX0_isWithin 10 = .ok (.ifCond .ge 16, 3) := by decide +kernel
theorem dX0_isWithin_13 : decode cX0_isWithin 13 = .ok (.lload_n 1, 1) := by decide +kernel
theorem dX0_isWithin_14 : decode cX0_isWithin 14 = .ok (.aload_n 0, 1) := by decide +kernel
theorem dX0_isWithin_15 : decode cX0_isWithin 15 = .ok (.getfield 16, 3) := by decide +kernel
theorem dX0_isWithin_18 : decode cX0_isWithin 18 = .ok (.lcmp, 1) := by decide +kernel
theorem dX0_isWithin_19 : decode cX0_isWithin 19 = .ok (.ifCond .ge 7, 3) := by decide +kernel
theorem dX0_isWithin_22 : decode cX0_isWithin 22 = .ok (.iconst 1, 1) := by decide +kernel
theorem dX0_isWithin_23 : decode cX0_isWithin 23 = .ok (.goto 30, 3) := by decide +kernel
theorem dX0_isWithin_26 : decode cX0_isWithin 26 = .ok (.iconst 0, 1) := by decide +kernel
theorem dX0_isWithin_27 : decode cX0_isWithin 27 = .ok (.goto 26, 3) := by decide +kernel
theorem dX0_isWithin_30 : decode cX0_isWithin 30 = .ok (.aload_n 0, 1) := by decide +kernel
theorem dX0_isWithin_31 : decode cX0_isWithin 31 = .ok (.getfield 13, 3) := by decide +kernel
theorem dX0_isWithin_34 : decode cX0_isWithin 34 = .ok (.lload_n 1, 1) := by decide +kernel
theorem dX0_isWithin_35 : decode cX0_isWithin 35 = .ok (.lcmp, 1) := by decide +kernel
theorem dX0_isWithin_36 : decode cX0_isWithin 36 = .ok (.ifCond .ge 16, 3) := by decide +kernel
theorem dX0_isWithin_39 : decode cX0_isWithin 39 = .ok (.lload_n 1, 1) := by decide +kernel
theorem dX0_isWithin_40 : decode cX0_isWithin 40 = .ok (.aload_n 0, 1) := by decide +kernel
theorem dX0_isWithin_41 : decode cX0_isWithin 41 = .ok (.getfield 19, 3) := by decide +kernel
theorem dX0_isWithin_44 : decode cX0_isWithin 44 = .ok (.lcmp, 1) := by decide +kernel
theorem dX0_isWithin_45 : decode cX0_isWithin 45 = .ok (.ifCond .ge 7, 3) := by decide +kernel
theorem dX0_isWithin_48 : decode cX0_isWithin 48 = .ok (.iconst 1, 1) := by decide +kernel
theorem dX0_isWithin_49 : decode cX0_isWithin 49 = .ok (.goto 4, 3) := by decide +kernel
theorem dX0_isWithin_52 : decode cX0_isWithin 52 = .ok (.iconst 0, 1) := by decide +kernel
theorem dX0_isWithin_53 : decode cX0_isWithin 53 = .ok (.ireturn, 1) := by decide +kernel
theorem dX0_isNearAny_0 : decode cX0_isNearAny 0 = .ok (.iconst 0, 1) := by decide +kernel
theorem dX0_isNearAny_1 : decode cX0_isNearAny 1 = .ok (.istore 4, 2) := by decide +kernel
theorem dX0_isNearAny_3 : decode cX0_isNearAny 3 = .ok (.iload 4, 2) := by decide +kernel
theorem dX0_isNearAny_5 : decode cX0_isNearAny 5 = .ok (.aload_n 1, 1) := by decide +kernel
theorem dX0_isNearAny_6 : decode cX0_isNearAny 6 = .ok (.invokevirtual 22, 3) := by decide +kernel
theorem dX0_isNearAny_9 : decode cX0_isNearAny 9 = .ok (.if_icmp .ge 28, 3) := by decide +kernel
theorem dX0_isNearAny_12 : decode cX0_isNearAny 12 = .ok (.aload_n 0, 1) := by decide +kernel
theorem dX0_isNearAny_13 : decode cX0_isNearAny 13 = .ok (.aload_n 1, 1) := by decide +kernel
theorem dX0_isNearAny_14 : decode cX0_isNearAny 14 = .ok (.iload 4, 2) := by decide +kernel
theorem dX0_isNearAny_16 : decode cX0_isNearAny 16 = .ok (.invokevirtual 28, 3) := by decide +kernel
theorem dX0_isNearAny_19 : decode cX0_isNearAny 19 = .ok (.checkcast 8, 3) := by decide +kernel
theorem dX0_isNearAny_22 : decode cX0_isNearAny 22 = .ok (.lload_n 2, 1) := by decide +kernel
theorem dX0_isNearAny_23 : decode cX0_isNearAny 23 = .ok (.invokevirtual 32, 3) := by decide +kernel
theorem dX0_isNearAny_26 : decode cX0_isNearAny 26 = .ok (.ifCond .eq 5, 3) := by decide +kernel
theorem dX0_isNearAny_29 : decode cX0_isNearAny 29 = .ok (.iconst 1, 1) := by decide +kernel
theorem dX0_isNearAny_30 : decode cX0_isNearAny 30 = .ok (.ireturn, 1) := by decide +kernel
theorem dX0_isNearAny_31 : decode cX0_isNearAny 31 = .ok (.iinc 4 1, 3) := by decide +kernel
theorem dX0_isNearAny_34 : decode cX0_isNearAny 34 = .ok (.goto (-31), 3) := by decide +kernel
theorem dX0_isNearAny_37 : decode cX0_isNearAny 37 = .ok (.iconst 0, 1) := by decide +kernel
theorem dX0_isNearAny_38 : decode cX0_isNearAny 38 = .ok (.ireturn, 1) := by decide +kernel
theorem dX0_isNearBox_0 : decode cX0_isNearBox 0 = .ok (.aload_n 0, 1) := by decide +kernel
theorem dX0_isNearBox_1 : decode cX0_isNearBox 1 = .ok (.getfield 7, 3) := by decide +kernel
theorem dX0_isNearBox_4 : decode cX0_isNearBox 4 = .ok (.aload_n 0, 1) := by decide +kernel
theorem dX0_isNearBox_5 : decode cX0_isNearBox 5 = .ok (.getfield 16, 3) := by decide +kernel
theorem dX0_isNearBox_8 : decode cX0_isNearBox 8 = .ok (.aload_n 1, 1) := by decide +kernel
theorem dX0_isNearBox_9 : decode cX0_isNearBox 9 = .ok (.getfield 7, 3) := by decide +kernel
theorem dX0_isNearBox_12 : decode cX0_isNearBox 12 = .ok (.aload_n 1, 1) := by decide +kernel
theorem dX0_isNearBox_13 : decode cX0_isNearBox 13 = .ok (.getfield 16, 3) := by decide +kernel
theorem dX0_isNearBox_16 : decode cX0_isNearBox 16 = .ok (.invokestatic 36, 3) := by decide +kernel
theorem dX0_isNearBox_19 : decode cX0_isNearBox 19 = .ok (.lstore 4, 2) := by decide +kernel
theorem dX0_isNearBox_21 : decode cX0_isNearBox 21 = .ok (.aload_n 0, 1) := by decide +kernel
theorem dX0_isNearBox_22 : decode cX0_isNearBox 22 = .ok (.getfield 13, 3) := by decide +kernel
theorem dX0_isNearBox_25 : decode cX0_isNearBox 25 = .ok (.aload_n 0, 1) := by decide +kernel
theorem dX0_isNearBox_26 : decode cX0_isNearBox 26 = .ok (.getfield 19, 3) := by decide +kernel
theorem dX0_isNearBox_29 : decode cX0_isNearBox 29 = .ok (.aload_n 1, 1) := by decide +kernel
theorem dX0_isNearBox_30 : decode cX0_isNearBox 30 = .ok (.getfield 13, 3) := by decide +kernel
theorem dX0_isNearBox_33 : decode cX0_isNearBox 33 = .ok (.aload_n 1, 1) := by decide +kernel
theorem dX0_isNearBox_34 : decode cX0_isNearBox 34 = .ok (.getfield 19, 3) := by decide +kernel
theorem dX0_isNearBox_37 : decode cX0_isNearBox 37 = .ok (.invokestatic 36, 3) := by decide +kernel
theorem dX0_isNearBox_40 : decode cX0_isNearBox 40 = .ok (.lstore 6, 2) := by decide +kernel
theorem dX0_isNearBox_42 : decode cX0_isNearBox 42 = .ok (.lload 4, 2) := by decide +kernel
theorem dX0_isNearBox_44 : decode cX0_isNearBox 44 = .ok (.lload 4, 2) := by decide +kernel
theorem dX0_isNearBox_46 : decode cX0_isNearBox 46 = .ok (.lmul, 1) := by decide +kernel
theorem dX0_isNearBox_47 : decode cX0_isNearBox 47 = .ok (.lload 6, 2) := by decide +kernel
theorem dX0_isNearBox_49 : decode cX0_isNearBox 49 = .ok (.lload 6, 2) := by decide +kernel
theorem dX0_isNearBox_51 : decode cX0_isNearBox 51 = .ok (.lmul, 1) := by decide +kernel
theorem dX0_isNearBox_52 : decode cX0_isNearBox 52 = .ok (.ladd, 1) := by decide +kernel
theorem dX0_isNearBox_53 : decode cX0_isNearBox 53 = .ok (.lload_n 2, 1) := by decide +kernel
theorem dX0_isNearBox_54 : decode cX0_isNearBox 54 = .ok (.lcmp, 1) := by decide +kernel
theorem dX0_isNearBox_55 : decode cX0_isNearBox 55 = .ok (.ifCond .ge 7, 3) := by decide +kernel
theorem dX0_isNearBox_58 : decode cX0_isNearBox 58 = .ok (.iconst 1, 1) := by decide +kernel
theorem dX0_isNearBox_59 : decode cX0_isNearBox 59 = .ok (.goto 4, 3) := by decide +kernel
theorem dX0_isNearBox_62 : decode cX0_isNearBox 62 = .ok (.iconst 0, 1) := by decide +kernel
theorem dX0_isNearBox_63 : decode cX0_isNearBox 63 = .ok (.ireturn, 1) := by decide +kernel
theorem dX0_gap_0 : decode cX0_gap 0 = .ok (.lconst 0, 1) := by decide +kernel
theorem dX0_gap_1 : decode cX0_gap 1 = .ok (.lload 4, 2) := by decide +kernel
theorem dX0_gap_3 : decode cX0_gap 3 = .ok (.lload_n 2, 1) := by decide +kernel
theorem dX0_gap_4 : decode cX0_gap 4 = .ok (.lsub, 1) := by decide +kernel
theorem dX0_gap_5 : decode cX0_gap 5 = .ok (.lload_n 0, 1) := by decide +kernel
theorem dX0_gap_6 : decode cX0_gap 6 = .ok (.lload 6, 2) := by decide +kernel
theorem dX0_gap_8 : decode cX0_gap 8 = .ok (.lsub, 1) := by decide +kernel
theorem dX0_gap_9 : decode cX0_gap 9 = .ok (.invokestatic 40, 3) := by decide +kernel
theorem dX0_gap_12 : decode cX0_gap 12 = .ok (.invokestatic 40, 3) := by decide +kernel
theorem dX0_gap_15 : decode cX0_gap 15 = .ok (.lreturn, 1) := by decide +kernel
theorem dX1_init_0 : decode cX1_init 0 = .ok (.aload_n 0, 1) := by decide +kernel
theorem dX1_init_1 : decode cX1_init 1 = .ok (.invokespecial 3, 3) := by decide +kernel
theorem dX1_init_4 : decode cX1_init 4 = .ok (.aload_n 0, 1) := by decide +kernel
theorem dX1_init_5 : decode cX1_init 5 = .ok (.bipush 10, 2) := by decide +kernel
theorem dX1_init_7 : decode cX1_init 7 = .ok (.newarray .int, 2) := by decide +kernel
theorem dX1_init_9 : decode cX1_init 9 = .ok (.putfield 9, 3) := by decide +kernel
theorem dX1_init_12 : decode cX1_init 12 = .ok (.aload_n 0, 1) := by decide +kernel
theorem dX1_init_13 : decode cX1_init 13 = .ok (.bipush 10, 2) := by decide +kernel
theorem dX1_init_15 : decode cX1_init 15 = .ok (.newarray .int, 2) := by decide +kernel
theorem dX1_init_17 : decode cX1_init 17 = .ok (.putfield 15, 3) := by decide +kernel
theorem dX1_init_20 : decode cX1_init 20 = .ok (.aload_n 0, 1) := by decide +kernel
theorem dX1_init_21 : decode cX1_init 21 = .ok (.bipush 10, 2) := by decide +kernel
theorem dX1_init_23 : decode cX1_init 23 = .ok (.newarray .int, 2) := by decide +kernel
theorem dX1_init_25 : decode cX1_init 25 = .ok (.putfield 18, 3) := by decide +kernel
theorem dX1_init_28 : decode cX1_init 28 = .ok (.aload_n 0, 1) := by decide +kernel
theorem dX1_init_29 : decode cX1_init 29 = .ok (.iconst 4, 1) := by decide +kernel
theorem dX1_init_30 : decode cX1_init 30 = .ok (.newarray .int, 2) := by decide +kernel
theorem dX1_init_32 : decode cX1_init 32 = .ok (.putfield 21, 3) := by decide +kernel
theorem dX1_init_35 : decode cX1_init 35 = .ok (.aload_n 0, 1) := by decide +kernel
theorem dX1_init_36 : decode cX1_init 36 = .ok (.iconst 4, 1) := by decide +kernel
theorem dX1_init_37 : decode cX1_init 37 = .ok (.newarray .long, 2) := by decide +kernel
theorem dX1_init_39 : decode cX1_init 39 = .ok (.putfield 24, 3) := by decide +kernel
theorem dX1_init_42 : decode cX1_init 42 = .ok (.aload_n 0, 1) := by decide +kernel
theorem dX1_init_43 : decode cX1_init 43 = .ok (.iload_n 3, 1) := by decide +kernel
theorem dX1_init_44 : decode cX1_init 44 = .ok (.putfield 28, 3) := by decide +kernel
theorem dX1_init_47 : decode cX1_init 47 = .ok (.iconst 0, 1) := by decide +kernel
theorem dX1_init_48 : decode cX1_init 48 = .ok (.istore 4, 2) := by decide +kernel
theorem dX1_init_50 : decode cX1_init 50 = .ok (.iload 4, 2) := by decide +kernel
theorem dX1_init_52 : decode cX1_init 52 = .ok (.bipush 10, 2) := by decide +kernel
theorem dX1_init_54 : decode cX1_init 54 = .ok (.if_icmp .ge 17, 3) := by decide +kernel
theorem dX1_init_57 : decode cX1_init 57 = .ok (.aload_n 0, 1) := by decide +kernel
theorem dX1_init_58 : decode cX1_init 58 = .ok (.getfield 9, 3) := by decide +kernel
theorem dX1_init_61 : decode cX1_init 61 = .ok (.iload 4, 2) := by decide +kernel
theorem dX1_init_63 : decode cX1_init 63 = .ok (.iconst (-1), 1) := by decide +kernel
theorem dX1_init_64 : decode cX1_init 64 = .ok (.iastore, 1) := by decide +kernel
theorem dX1_init_65 : decode cX1_init 65 = .ok (.iinc 4 1, 3) := by decide +kernel
theorem dX1_init_68 : decode cX1_init 68 = .ok (.goto (-18), 3) := by decide +kernel
theorem dX1_init_71 : decode cX1_init 71 = .ok (.iconst 0, 1) := by decide +kernel
theorem dX1_init_72 : decode cX1_init 72 = .ok (.istore 4, 2) := by decide +kernel
theorem dX1_init_74 : decode cX1_init 74 = .ok (.iload 4, 2) := by decide +kernel
theorem dX1_init_76 : decode cX1_init 76 = .ok (.aload_n 1, 1) := by decide +kernel
theorem dX1_init_77 : decode cX1_init 77 = .ok (.invokevirtual 32, 3) := by decide +kernel
theorem dX1_init_80 : decode cX1_init 80 = .ok (.if_icmp .ge 84, 3) := by decide +kernel
theorem dX1_init_83 : decode cX1_init 83 = .ok (.iload 4, 2) := by decide +kernel
theorem dX1_init_85 : decode cX1_init 85 = .ok (.aload_n 2, 1) := by decide +kernel
theorem dX1_init_86 : decode cX1_init 86 = .ok (.arraylength, 1) := by decide +kernel
theorem dX1_init_87 : decode cX1_init 87 = .ok (.if_icmp .ge 77, 3) := by decide +kernel
theorem dX1_init_90 : decode cX1_init 90 = .ok (.aload_n 0, 1) := by decide +kernel
theorem dX1_init_91 : decode cX1_init 91 = .ok (.aload_n 2, 1) := by decide +kernel
theorem dX1_init_92 : decode cX1_init 92 = .ok (.iload 4, 2) := by decide +kernel
theorem dX1_init_94 : decode cX1_init 94 = .ok (.iaload, 1) := by decide +kernel
theorem dX1_init_95 : decode cX1_init 95 = .ok (.aload_n 1, 1) := by decide +kernel
theorem dX1_init_96 : decode cX1_init 96 = .ok (.iload 4, 2) := by decide +kernel
theorem dX1_init_98 : decode cX1_init 98 = .ok (.invokevirtual 38, 3) := by decide +kernel
theorem dX1_init_101 : decode cX1_init 101 = .ok (.invokevirtual 41, 3) := by decide +kernel
theorem dX1_init_104 : decode cX1_init 104 = .ok (.aload_n 1, 1) := by decide +kernel
theorem dX1_init_105 : decode cX1_init 105 = .ok (.iload 4, 2) := by decide +kernel
theorem dX1_init_107 : decode cX1_init 107 = .ok (.invokevirtual 45, 3) := by decide +kernel
theorem dX1_init_110 : decode cX1_init 110 = .ok (.ifCond .eq 34, 3) := by decide +kernel
theorem dX1_init_113 : decode cX1_init 113 = .ok (.aload_n 0, 1) := by decide +kernel
theorem dX1_init_114 : decode cX1_init 114 = .ok (.aload_n 1, 1) := by decide +kernel
theorem dX1_init_115 : decode cX1_init 115 = .ok (.iload 4, 2) := by decide +kernel
theorem dX1_init_117 : decode cX1_init 117 = .ok (.invokevirtual 49, 3) := by decide +kernel
theorem dX1_init_120 : decode cX1_init 120 = .ok (.aload_n 2, 1) := by decide +kernel
theorem dX1_init_121 : decode cX1_init 121 = .ok (.iload 4, 2) := by decide +kernel
theorem dX1_init_123 : decode cX1_init 123 = .ok (.iconst 1, 1) := by decide +kernel
theorem dX1_init_124 : decode cX1_init 124 = .ok (.isub, 1) := by decide +kernel
theorem dX1_init_125 : decode cX1_init 125 = .ok (.iaload, 1) := by decide +kernel
theorem dX1_init_126 : decode cX1_init 126 = .ok (.aload_n 2, 1) := by decide +kernel
theorem dX1_init_127 : decode cX1_init 127 = .ok (.iload 4, 2) := by decide +kernel
theorem dX1_init_129 : decode cX1_init 129 = .ok (.iaload, 1) := by decide +kernel
theorem dX1_init_130 : decode cX1_init 130 = .ok (.if_icmp .eq 7, 3) := by decide +kernel
theorem dX1_init_133 : decode cX1_init 133 = .ok (.iconst 1, 1) := by decide +kernel
theorem dX1_init_134 : decode cX1_init 134 = .ok (.goto 4, 3) := by decide +kernel
theorem dX1_init_137 : decode cX1_init 137 = .ok (.iconst 0, 1) := by decide +kernel
theorem dX1_init_138 : decode cX1_init 138 = .ok (.invokevirtual 53, 3) := by decide +kernel
theorem dX1_init_141 : decode cX1_init 141 = .ok (.goto 17, 3) := by decide +kernel
theorem dX1_init_144 : decode cX1_init 144 = .ok (.aload_n 0, 1) := by decide +kernel
theorem dX1_init_145 : decode cX1_init 145 = .ok (.aload_n 1, 1) := by decide +kernel
theorem dX1_init_146 : decode cX1_init 146 = .ok (.iload 4, 2) := by decide +kernel
theorem dX1_init_148 : decode cX1_init 148 = .ok (.invokevirtual 49, 3) := by decide +kernel
theorem dX1_init_151 : decode cX1_init 151 = .ok (.aload_n 2, 1) := by decide +kernel
theorem dX1_init_152 : decode cX1_init 152 = .ok (.iload 4, 2) := by decide +kernel
theorem dX1_init_154 : decode cX1_init 154 = .ok (.iaload, 1) := by decide +kernel
theorem dX1_init_155 : decode cX1_init 155 = .ok (.invokevirtual 57, 3) := by decide +kernel
theorem dX1_init_158 : decode cX1_init 158 = .ok (.iinc 4 1, 3) := by decide +kernel
theorem dX1_init_161 : decode cX1_init 161 = .ok (.goto (-87), 3) := by decide +kernel
theorem dX1_init_164 : decode cX1_init 164 = .ok (.return_, 1) := by decide +kernel
theorem dX1_weigh_0 : decode cX1_weigh 0 = .ok (.iload_n 1, 1) := by decide +kernel
theorem dX1_weigh_1 : decode cX1_weigh 1 = .ok (.ifCond .lt 28, 3) := by decide +kernel
theorem dX1_weigh_4 : decode cX1_weigh 4 = .ok (.iload_n 1, 1) := by decide +kernel
theorem dX1_weigh_5 : decode cX1_weigh 5 = .ok (.iconst 4, 1) := by decide +kernel
theorem dX1_weigh_6 : decode cX1_weigh 6 = .ok (.if_icmp .ge 23, 3) := by decide +kernel
theorem dX1_weigh_9 : decode cX1_weigh 9 = .ok (.aload_n 0, 1) := by decide +kernel
theorem dX1_weigh_10 : decode cX1_weigh 10 = .ok (.getfield 21, 3) := by decide +kernel
theorem dX1_weigh_13 : decode cX1_weigh 13 = .ok (.iload_n 1, 1) := by decide +kernel
theorem dX1_weigh_14 : decode cX1_weigh 14 = .ok (.dup2, 1) := by decide +kernel
theorem dX1_weigh_15 : decode cX1_weigh 15 = .ok (.iaload, 1) := by decide +kernel
theorem dX1_weigh_16 : decode cX1_weigh 16 = .ok (.iconst 1, 1) := by decide +kernel
theorem dX1_weigh_17 : decode cX1_weigh 17 = .ok (.iadd, 1) := by decide +kernel
theorem dX1_weigh_18 : decode cX1_weigh 18 = .ok (.iastore, 1) := by decide +kernel
theorem dX1_weigh_19 : decode cX1_weigh 19 = .ok (.aload_n 0, 1) := by decide +kernel
theorem dX1_weigh_20 : decode cX1_weigh 20 = .ok (.getfield 24, 3) := by decide +kernel
theorem dX1_weigh_23 : decode cX1_weigh 23 = .ok (.iload_n 1, 1) := by decide +kernel
theorem dX1_weigh_24 : decode cX1_weigh 24 = .ok (.dup2, 1) := by decide +kernel
theorem dX1_weigh_25 : decode cX1_weigh 25 = .ok (.laload, 1) := by decide +kernel
theorem dX1_weigh_26 : decode cX1_weigh 26 = .ok (.lload_n 2, 1) := by decide +kernel
theorem dX1_weigh_27 : decode cX1_weigh 27 = .ok (.ladd, 1) := by decide +kernel
theorem dX1_weigh_28 : decode cX1_weigh 28 = .ok (.lastore, 1) := by decide +kernel
theorem dX1_weigh_29 : decode cX1_weigh 29 = .ok (.return_, 1) := by decide +kernel
theorem dX1_noteFirst_0 : decode cX1_noteFirst 0 = .ok (.iload_n 1, 1) := by decide +kernel
theorem dX1_noteFirst_1 : decode cX1_noteFirst 1 = .ok (.ifCond .lt 16, 3) := by decide +kernel
theorem dX1_noteFirst_4 : decode cX1_noteFirst 4 = .ok (.iload_n 1, 1) := by decide +kernel
theorem dX1_noteFirst_5 : decode cX1_noteFirst 5 = .ok (.bipush 10, 2) := by decide +kernel
theorem dX1_noteFirst_7 : decode cX1_noteFirst 7 = .ok (.if_icmp .ge 10, 3) := by decide +kernel
theorem dX1_noteFirst_10 : decode cX1_noteFirst 10 = .ok (.aload_n 0, 1) := by decide +kernel
theorem dX1_noteFirst_11 : decode cX1_noteFirst 11 = .ok (.getfield 9, 3) := by decide +kernel
theorem dX1_noteFirst_14 : decode cX1_noteFirst 14 = .ok (.iload_n 1, 1) := by decide +kernel
theorem dX1_noteFirst_15 : decode cX1_noteFirst 15 = .ok (.iload_n 2, 1) := by decide +kernel
theorem dX1_noteFirst_16 : decode cX1_noteFirst 16 = .ok (.iastore, 1) := by decide +kernel
theorem dX1_noteFirst_17 : decode cX1_noteFirst 17 = .ok (.return_, 1) := by decide +kernel
theorem dX1_noteStitch_0 : decode cX1_noteStitch 0 = .ok (.iload_n 1, 1) := by decide +kernel
theorem dX1_noteStitch_1 : decode cX1_noteStitch 1 = .ok (.ifCond .lt 44, 3) := by decide +kernel
theorem dX1_noteStitch_4 : decode cX1_noteStitch 4 = .ok (.iload_n 1, 1) := by decide +kernel
theorem dX1_noteStitch_5 : decode cX1_noteStitch 5 = .ok (.bipush 10, 2) := by decide +kernel
theorem dX1_noteStitch_7 : decode cX1_noteStitch 7 = .ok (.if_icmp .ge 38, 3) := by decide +kernel
theorem dX1_noteStitch_10 : decode cX1_noteStitch 10 = .ok (.aload_n 0, 1) := by decide +kernel
theorem dX1_noteStitch_11 : decode cX1_noteStitch 11 = .ok (.getfield 18, 3) := by decide +kernel
theorem dX1_noteStitch_14 : decode cX1_noteStitch 14 = .ok (.iload_n 1, 1) := by decide +kernel
theorem dX1_noteStitch_15 : decode cX1_noteStitch 15 = .ok (.dup2, 1) := by decide +kernel
theorem dX1_noteStitch_16 : decode cX1_noteStitch 16 = .ok (.iaload, 1) := by decide +kernel
theorem dX1_noteStitch_17 : decode cX1_noteStitch 17 = .ok (.iload_n 2, 1) := by decide +kernel
theorem dX1_noteStitch_18 : decode cX1_noteStitch 18 = .ok (.ifCond .eq 7, 3) := by decide +kernel
theorem dX1_noteStitch_21 : decode cX1_noteStitch 21 = .ok (.iconst 1, 1) := by decide +kernel
theorem dX1_noteStitch_22 : decode cX1_noteStitch 22 = .ok (.goto 4, 3) := by decide +kernel
theorem dX1_noteStitch_25 : decode cX1_noteStitch 25 = .ok (.iconst 0, 1) := by decide +kernel
theorem dX1_noteStitch_26 : decode cX1_noteStitch 26 = .ok (.aload_n 0, 1) := by decide +kernel
theorem dX1_noteStitch_27 : decode cX1_noteStitch 27 = .ok (.getfield 15, 3) := by decide +kernel
theorem dX1_noteStitch_30 : decode cX1_noteStitch 30 = .ok (.iload_n 1, 1) := by decide +kernel
theorem dX1_noteStitch_31 : decode cX1_noteStitch 31 = .ok (.iaload, 1) := by decide +kernel
theorem dX1_noteStitch_32 : decode cX1_noteStitch 32 = .ok (.ishl, 1) := by decide +kernel
theorem dX1_noteStitch_33 : decode cX1_noteStitch 33 = .ok (.ior, 1) := by decide +kernel
theorem dX1_noteStitch_34 : decode cX1_noteStitch 34 = .ok (.iastore, 1) := by decide +kernel
theorem dX1_noteStitch_35 : decode cX1_noteStitch 35 = .ok (.aload_n 0, 1) := by decide +kernel
theorem dX1_noteStitch_36 : decode cX1_noteStitch 36 = .ok (.getfield 15, 3) := by decide +kernel
theorem dX1_noteStitch_39 : decode cX1_noteStitch 39 = .ok (.iload_n 1, 1) := by decide +kernel
theorem dX1_noteStitch_40 : decode cX1_noteStitch 40 = .ok (.dup2, 1) := by decide +kernel
theorem dX1_noteStitch_41 : decode cX1_noteStitch 41 = .ok (.iaload, 1) := by decide +kernel
theorem dX1_noteStitch_42 : decode cX1_noteStitch 42 = .ok (.iconst 1, 1) := by decide +kernel
theorem dX1_noteStitch_43 : decode cX1_noteStitch 43 = .ok (.iadd, 1) := by decide +kernel
theorem dX1_noteStitch_44 : decode cX1_noteStitch 44 = .ok (.iastore, 1) := by decide +kernel
theorem dX1_noteStitch_45 : decode cX1_noteStitch 45 = .ok (.return_, 1) := by decide +kernel
theorem dX2_init_0 : decode cX2_init 0 = .ok (.aload_n 0, 1) := by decide +kernel
theorem dX2_init_1 : decode cX2_init 1 = .ok (.invokespecial 1, 3) := by decide +kernel
theorem dX2_init_4 : decode cX2_init 4 = .ok (.aload_n 0, 1) := by decide +kernel
theorem dX2_init_5 : decode cX2_init 5 = .ok (.iconst 0, 1) := by decide +kernel
theorem dX2_init_6 : decode cX2_init 6 = .ok (.putfield 7, 3) := by decide +kernel
theorem dX2_init_9 : decode cX2_init 9 = .ok (.aload_n 0, 1) := by decide +kernel
theorem dX2_init_10 : decode cX2_init 10 = .ok (.iload_n 1, 1) := by decide +kernel
theorem dX2_init_11 : decode cX2_init 11 = .ok (.putfield 13, 3) := by decide +kernel
theorem dX2_init_14 : decode cX2_init 14 = .ok (.aload_n 0, 1) := by decide +kernel
theorem dX2_init_15 : decode cX2_init 15 = .ok (.iload_n 2, 1) := by decide +kernel
theorem dX2_init_16 : decode cX2_init 16 = .ok (.putfield 16, 3) := by decide +kernel
theorem dX2_init_19 : decode cX2_init 19 = .ok (.aload_n 0, 1) := by decide +kernel
theorem dX2_init_20 : decode cX2_init 20 = .ok (.aload_n 3, 1) := by decide +kernel
theorem dX2_init_21 : decode cX2_init 21 = .ok (.putfield 19, 3) := by decide +kernel
theorem dX2_init_24 : decode cX2_init 24 = .ok (.return_, 1) := by decide +kernel
theorem dX2_areas_0 : decode cX2_areas 0 = .ok (.lconst 0, 1) := by decide +kernel
theorem dX2_areas_1 : decode cX2_areas 1 = .ok (.lstore_n 1, 1) := by decide +kernel
theorem dX2_areas_2 : decode cX2_areas 2 = .ok (.iconst 0, 1) := by decide +kernel
theorem dX2_areas_3 : decode cX2_areas 3 = .ok (.istore_n 3, 1) := by decide +kernel
theorem dX2_areas_4 : decode cX2_areas 4 = .ok (.iload_n 3, 1) := by decide +kernel
theorem dX2_areas_5 : decode cX2_areas 5 = .ok (.aload_n 0, 1) := by decide +kernel
theorem dX2_areas_6 : decode cX2_areas 6 = .ok (.getfield 19, 3) := by decide +kernel
theorem dX2_areas_9 : decode cX2_areas 9 = .ok (.invokevirtual 23, 3) := by decide +kernel
theorem dX2_areas_12 : decode cX2_areas 12 = .ok (.if_icmp .ge 26, 3) := by decide +kernel
theorem dX2_areas_15 : decode cX2_areas 15 = .ok (.lload_n 1, 1) := by decide +kernel
theorem dX2_areas_16 : decode cX2_areas 16 = .ok (.aload_n 0, 1) := by decide +kernel
theorem dX2_areas_17 : decode cX2_areas 17 = .ok (.getfield 19, 3) := by decide +kernel
theorem dX2_areas_20 : decode cX2_areas 20 = .ok (.iload_n 3, 1) := by decide +kernel
theorem dX2_areas_21 : decode cX2_areas 21 = .ok (.invokevirtual 29, 3) := by decide +kernel
theorem dX2_areas_24 : decode cX2_areas 24 = .ok (.checkcast 33, 3) := by decide +kernel
theorem dX2_areas_27 : decode cX2_areas 27 = .ok (.invokevirtual 35, 3) := by decide +kernel
theorem dX2_areas_30 : decode cX2_areas 30 = .ok (.ladd, 1) := by decide +kernel
theorem dX2_areas_31 : decode cX2_areas 31 = .ok (.lstore_n 1, 1) := by decide +kernel
theorem dX2_areas_32 : decode cX2_areas 32 = .ok (.iinc 3 1, 3) := by decide +kernel
theorem dX2_areas_35 : decode cX2_areas 35 = .ok (.goto (-31), 3) := by decide +kernel
theorem dX2_areas_38 : decode cX2_areas 38 = .ok (.lload_n 1, 1) := by decide +kernel
theorem dX2_areas_39 : decode cX2_areas 39 = .ok (.lreturn, 1) := by decide +kernel
theorem dX2_isNearPiece_0 : decode cX2_isNearPiece 0 = .ok (.iconst 0, 1) := by decide +kernel
theorem dX2_isNearPiece_1 : decode cX2_isNearPiece 1 = .ok (.istore 4, 2) := by decide +kernel
theorem dX2_isNearPiece_3 : decode cX2_isNearPiece 3 = .ok (.iload 4, 2) := by decide +kernel
theorem dX2_isNearPiece_5 : decode cX2_isNearPiece 5 = .ok (.aload_n 0, 1) := by decide +kernel
theorem dX2_isNearPiece_6 : decode cX2_isNearPiece 6 = .ok (.getfield 19, 3) := by decide +kernel
theorem dX2_isNearPiece_9 : decode cX2_isNearPiece 9 = .ok (.invokevirtual 23, 3) := by decide +kernel
theorem dX2_isNearPiece_12 : decode cX2_isNearPiece 12 = .ok (.if_icmp .ge 34, 3) := by decide +kernel
theorem dX2_isNearPiece_15 : decode cX2_isNearPiece 15 = .ok (.aload_n 0, 1) := by decide +kernel
theorem dX2_isNearPiece_16 : decode cX2_isNearPiece 16 = .ok (.getfield 19, 3) := by decide +kernel
theorem dX2_isNearPiece_19 : decode cX2_isNearPiece 19 = .ok (.iload 4, 2) := by decide +kernel
theorem dX2_isNearPiece_21 : decode cX2_isNearPiece 21 = .ok (.invokevirtual 29, 3) := by decide +kernel
theorem dX2_isNearPiece_24 : decode cX2_isNearPiece 24 = .ok (.checkcast 33, 3) := by decide +kernel
theorem dX2_isNearPiece_27 : decode cX2_isNearPiece 27 = .ok (.aload_n 1, 1) := by decide +kernel
theorem dX2_isNearPiece_28 : decode cX2_isNearPiece 28 = .ok (.getfield 19, 3) := by decide +kernel
theorem dX2_isNearPiece_31 : decode cX2_isNearPiece 31 = .ok (.lload_n 2, 1) := by decide +kernel
theorem dX2_isNearPiece_32 : decode cX2_isNearPiece 32 = .ok (.invokevirtual 39, 3) := by decide +kernel
theorem dX2_isNearPiece_35 : decode cX2_isNearPiece 35 = .ok (.ifCond .eq 5, 3) := by decide +kernel
theorem dX2_isNearPiece_38 : decode cX2_isNearPiece 38 = .ok (.iconst 1, 1) := by decide +kernel
theorem dX2_isNearPiece_39 : decode cX2_isNearPiece 39 = .ok (.ireturn, 1) := by decide +kernel
theorem dX2_isNearPiece_40 : decode cX2_isNearPiece 40 = .ok (.iinc 4 1, 3) := by decide +kernel
theorem dX2_isNearPiece_43 : decode cX2_isNearPiece 43 = .ok (.goto (-40), 3) := by decide +kernel
theorem dX2_isNearPiece_46 : decode cX2_isNearPiece 46 = .ok (.iconst 0, 1) := by decide +kernel
theorem dX2_isNearPiece_47 : decode cX2_isNearPiece 47 = .ok (.ireturn, 1) := by decide +kernel
theorem dX3_init_0 : decode cX3_init 0 = .ok (.aload_n 0, 1) := by decide +kernel
theorem dX3_init_1 : decode cX3_init 1 = .ok (.invokespecial 3, 3) := by decide +kernel
theorem dX3_init_4 : decode cX3_init 4 = .ok (.aload_n 0, 1) := by decide +kernel
theorem dX3_init_5 : decode cX3_init 5 = .ok (.new 9, 3) := by decide +kernel
theorem dX3_init_8 : decode cX3_init 8 = .ok (.dup, 1) := by decide +kernel
theorem dX3_init_9 : decode cX3_init 9 = .ok (.invokespecial 11, 3) := by decide +kernel
theorem dX3_init_12 : decode cX3_init 12 = .ok (.putfield 12, 3) := by decide +kernel
theorem dX3_init_15 : decode cX3_init 15 = .ok (.return_, 1) := by decide +kernel
theorem dX3_add_0 : decode cX3_add 0 = .ok (.aload_n 0, 1) := by decide +kernel
theorem dX3_add_1 : decode cX3_add 1 = .ok (.getfield 12, 3) := by decide +kernel
theorem dX3_add_4 : decode cX3_add 4 = .ok (.invokevirtual 18, 3) := by decide +kernel
theorem dX3_add_7 : decode cX3_add 7 = .ok (.bipush 12, 2) := by decide +kernel
theorem dX3_add_9 : decode cX3_add 9 = .ok (.if_icmp .ge 21, 3) := by decide +kernel
theorem dX3_add_12 : decode cX3_add 12 = .ok (.aload_n 0, 1) := by decide +kernel
theorem dX3_add_13 : decode cX3_add 13 = .ok (.getfield 12, 3) := by decide +kernel
theorem dX3_add_16 : decode cX3_add 16 = .ok (.new 22, 3) := by decide +kernel
theorem dX3_add_19 : decode cX3_add 19 = .ok (.dup, 1) := by decide +kernel
theorem dX3_add_20 : decode cX3_add 20 = .ok (.iload_n 1, 1) := by decide +kernel
theorem dX3_add_21 : decode cX3_add 21 = .ok (.iload_n 2, 1) := by decide +kernel
theorem dX3_add_22 : decode cX3_add 22 = .ok (.aload_n 3, 1) := by decide +kernel
theorem dX3_add_23 : decode cX3_add 23 = .ok (.invokespecial 24, 3) := by decide +kernel
theorem dX3_add_26 : decode cX3_add 26 = .ok (.invokevirtual 27, 3) := by decide +kernel
theorem dX3_add_29 : decode cX3_add 29 = .ok (.pop, 1) := by decide +kernel
theorem dX3_add_30 : decode cX3_add 30 = .ok (.return_, 1) := by decide +kernel
theorem dX3_count_0 : decode cX3_count 0 = .ok (.aload_n 0, 1) := by decide +kernel
theorem dX3_count_1 : decode cX3_count 1 = .ok (.getfield 12, 3) := by decide +kernel
theorem dX3_count_4 : decode cX3_count 4 = .ok (.invokevirtual 18, 3) := by decide +kernel
theorem dX3_count_7 : decode cX3_count 7 = .ok (.ireturn, 1) := by decide +kernel
theorem dX3_owner_0 : decode cX3_owner 0 = .ok (.iload_n 1, 1) := by decide +kernel
theorem dX3_owner_1 : decode cX3_owner 1 = .ok (.ifCond .lt 14, 3) := by decide +kernel
theorem dX3_owner_4 : decode cX3_owner 4 = .ok (.iload_n 1, 1) := by decide +kernel
theorem dX3_owner_5 : decode cX3_owner 5 = .ok (.aload_n 0, 1) := by decide +kernel
theorem dX3_owner_6 : decode cX3_owner 6 = .ok (.getfield 12, 3) := by decide +kernel
theorem dX3_owner_9 : decode cX3_owner 9 = .ok (.invokevirtual 18, 3) := by decide +kernel
theorem dX3_owner_12 : decode cX3_owner 12 = .ok (.if_icmp .lt 7, 3) := by decide +kernel
theorem dX3_owner_15 : decode cX3_owner 15 = .ok (.iconst (-1), 1) := by decide +kernel
theorem dX3_owner_16 : decode cX3_owner 16 = .ok (.goto 17, 3) := by decide +kernel
theorem dX3_owner_19 : decode cX3_owner 19 = .ok (.aload_n 0, 1) := by decide +kernel
theorem dX3_owner_20 : decode cX3_owner 20 = .ok (.getfield 12, 3) := by decide +kernel
theorem dX3_owner_23 : decode cX3_owner 23 = .ok (.iload_n 1, 1) := by decide +kernel
theorem dX3_owner_24 : decode cX3_owner 24 = .ok (.invokevirtual 31, 3) := by decide +kernel
theorem dX3_owner_27 : decode cX3_owner 27 = .ok (.checkcast 22, 3) := by decide +kernel
theorem dX3_owner_30 : decode cX3_owner 30 = .ok (.getfield 35, 3) := by decide +kernel
theorem dX3_owner_33 : decode cX3_owner 33 = .ok (.ireturn, 1) := by decide +kernel
theorem dX3_told_0 : decode cX3_told 0 = .ok (.iload_n 1, 1) := by decide +kernel
theorem dX3_told_1 : decode cX3_told 1 = .ok (.ifCond .lt 14, 3) := by decide +kernel
theorem dX3_told_4 : decode cX3_told 4 = .ok (.iload_n 1, 1) := by decide +kernel
theorem dX3_told_5 : decode cX3_told 5 = .ok (.aload_n 0, 1) := by decide +kernel
theorem dX3_told_6 : decode cX3_told 6 = .ok (.getfield 12, 3) := by decide +kernel
theorem dX3_told_9 : decode cX3_told 9 = .ok (.invokevirtual 18, 3) := by decide +kernel
theorem dX3_told_12 : decode cX3_told 12 = .ok (.if_icmp .lt 7, 3) := by decide +kernel
theorem dX3_told_15 : decode cX3_told 15 = .ok (.iconst (-1), 1) := by decide +kernel
theorem dX3_told_16 : decode cX3_told 16 = .ok (.goto 17, 3) := by decide +kernel
theorem dX3_told_19 : decode cX3_told 19 = .ok (.aload_n 0, 1) := by decide +kernel
theorem dX3_told_20 : decode cX3_told 20 = .ok (.getfield 12, 3) := by decide +kernel
theorem dX3_told_23 : decode cX3_told 23 = .ok (.iload_n 1, 1) := by decide +kernel
theorem dX3_told_24 : decode cX3_told 24 = .ok (.invokevirtual 31, 3) := by decide +kernel
theorem dX3_told_27 : decode cX3_told 27 = .ok (.checkcast 22, 3) := by decide +kernel
theorem dX3_told_30 : decode cX3_told 30 = .ok (.getfield 39, 3) := by decide +kernel
theorem dX3_told_33 : decode cX3_told 33 = .ok (.ireturn, 1) := by decide +kernel
theorem dX3_nearPieces_0 : decode cX3_nearPieces 0 = .ok (.iload_n 1, 1) := by decide +kernel
theorem dX3_nearPieces_1 : decode cX3_nearPieces 1 = .ok (.ifCond .lt 14, 3) := by decide +kernel
theorem dX3_nearPieces_4 : decode cX3_nearPieces 4 = .ok (.iload_n 1, 1) := by decide +kernel
theorem dX3_nearPieces_5 : decode cX3_nearPieces 5 = .ok (.aload_n 0, 1) := by decide +kernel
theorem dX3_nearPieces_6 : decode cX3_nearPieces 6 = .ok (.getfield 12, 3) := by decide +kernel
theorem dX3_nearPieces_9 : decode cX3_nearPieces 9 = .ok (.invokevirtual 18, 3) := by decide +kernel
theorem dX3_nearPieces_12 : decode cX3_nearPieces 12 = .ok (.if_icmp .lt 7, 3) := by decide +kernel
theorem dX3_nearPieces_15 : decode cX3_nearPieces 15 = .ok (.iconst 0, 1) := by decide +kernel
theorem dX3_nearPieces_16 : decode cX3_nearPieces 16 = .ok (.goto 17, 3) := by decide +kernel
theorem dX3_nearPieces_19 : decode cX3_nearPieces 19 = .ok (.aload_n 0, 1) := by decide +kernel
theorem dX3_nearPieces_20 : decode cX3_nearPieces 20 = .ok (.getfield 12, 3) := by decide +kernel
theorem dX3_nearPieces_23 : decode cX3_nearPieces 23 = .ok (.iload_n 1, 1) := by decide +kernel
theorem dX3_nearPieces_24 : decode cX3_nearPieces 24 = .ok (.invokevirtual 31, 3) := by decide +kernel
theorem dX3_nearPieces_27 : decode cX3_nearPieces 27 = .ok (.checkcast 22, 3) := by decide +kernel
theorem dX3_nearPieces_30 : decode cX3_nearPieces 30 = .ok (.getfield 42, 3) := by decide +kernel
theorem dX3_nearPieces_33 : decode cX3_nearPieces 33 = .ok (.ireturn, 1) := by decide +kernel
theorem dX3_areas_0 : decode cX3_areas 0 = .ok (.iload_n 1, 1) := by decide +kernel
theorem dX3_areas_1 : decode cX3_areas 1 = .ok (.ifCond .lt 14, 3) := by decide +kernel
theorem dX3_areas_4 : decode cX3_areas 4 = .ok (.iload_n 1, 1) := by decide +kernel
theorem dX3_areas_5 : decode cX3_areas 5 = .ok (.aload_n 0, 1) := by decide +kernel
theorem dX3_areas_6 : decode cX3_areas 6 = .ok (.getfield 12, 3) := by decide +kernel
theorem dX3_areas_9 : decode cX3_areas 9 = .ok (.invokevirtual 18, 3) := by decide +kernel
theorem dX3_areas_12 : decode cX3_areas 12 = .ok (.if_icmp .lt 7, 3) := by decide +kernel
theorem dX3_areas_15 : decode cX3_areas 15 = .ok (.lconst 0, 1) := by decide +kernel
theorem dX3_areas_16 : decode cX3_areas 16 = .ok (.goto 17, 3) := by decide +kernel
theorem dX3_areas_19 : decode cX3_areas 19 = .ok (.aload_n 0, 1) := by decide +kernel
theorem dX3_areas_20 : decode cX3_areas 20 = .ok (.getfield 12, 3) := by decide +kernel
theorem dX3_areas_23 : decode cX3_areas 23 = .ok (.iload_n 1, 1) := by decide +kernel
theorem dX3_areas_24 : decode cX3_areas 24 = .ok (.invokevirtual 31, 3) := by decide +kernel
theorem dX3_areas_27 : decode cX3_areas 27 = .ok (.checkcast 22, 3) := by decide +kernel
theorem dX3_areas_30 : decode cX3_areas 30 = .ok (.invokevirtual 45, 3) := by decide +kernel
theorem dX3_areas_33 : decode cX3_areas 33 = .ok (.lreturn, 1) := by decide +kernel
theorem dX3_isAfterStitch_0 : decode cX3_isAfterStitch 0 = .ok (.iload_n 1, 1) := by decide +kernel
theorem dX3_isAfterStitch_1 : decode cX3_isAfterStitch 1 = .ok (.ifCond .le 22, 3) := by decide +kernel
theorem dX3_isAfterStitch_4 : decode cX3_isAfterStitch 4 = .ok (.aload_n 0, 1) := by decide +kernel
theorem dX3_isAfterStitch_5 : decode cX3_isAfterStitch 5 = .ok (.iload_n 1, 1) := by decide +kernel
theorem dX3_isAfterStitch_6 : decode cX3_isAfterStitch 6 = .ok (.invokevirtual 49, 3) := by decide +kernel
theorem dX3_isAfterStitch_9 : decode cX3_isAfterStitch 9 = .ok (.aload_n 0, 1) := by decide +kernel
theorem dX3_isAfterStitch_10 : decode cX3_isAfterStitch 10 = .ok (.iload_n 1, 1) := by decide +kernel
theorem dX3_isAfterStitch_11 : decode cX3_isAfterStitch 11 = .ok (.iconst 1, 1) := by decide +kernel
theorem dX3_isAfterStitch_12 : decode cX3_isAfterStitch 12 = .ok (.isub, 1) := by decide +kernel
theorem dX3_isAfterStitch_13 : decode cX3_isAfterStitch 13 = .ok (.invokevirtual 49, 3) := by decide +kernel
theorem dX3_isAfterStitch_16 : decode cX3_isAfterStitch 16 = .ok (.if_icmp .ne 7, 3) := by decide +kernel
theorem dX3_isAfterStitch_19 : decode cX3_isAfterStitch 19 = .ok (.iconst 1, 1) := by decide +kernel
theorem dX3_isAfterStitch_20 : decode cX3_isAfterStitch 20 = .ok (.goto 4, 3) := by decide +kernel
theorem dX3_isAfterStitch_23 : decode cX3_isAfterStitch 23 = .ok (.iconst 0, 1) := by decide +kernel
theorem dX3_isAfterStitch_24 : decode cX3_isAfterStitch 24 = .ok (.ireturn, 1) := by decide +kernel
theorem dX3_findNearOnes_0 : decode cX3_findNearOnes 0 = .ok (.iconst 0, 1) := by decide +kernel
theorem dX3_findNearOnes_1 : decode cX3_findNearOnes 1 = .ok (.istore_n 3, 1) := by decide +kernel
theorem dX3_findNearOnes_2 : decode cX3_findNearOnes 2 = .ok (.iload_n 3, 1) := by decide +kernel
theorem dX3_findNearOnes_3 : decode cX3_findNearOnes 3 = .ok (.aload_n 0, 1) := by decide +kernel
theorem dX3_findNearOnes_4 : decode cX3_findNearOnes 4 = .ok (.getfield 12, 3) := by decide +kernel
theorem dX3_findNearOnes_7 : decode cX3_findNearOnes 7 = .ok (.invokevirtual 18, 3) := by decide +kernel
theorem dX3_findNearOnes_10 : decode cX3_findNearOnes 10 = .ok (.if_icmp .ge 110, 3) := by decide +kernel
theorem dX3_findNearOnes_13 : decode cX3_findNearOnes 13 = .ok (.iload_n 3, 1) := by decide +kernel
theorem dX3_findNearOnes_14 : decode cX3_findNearOnes 14 = .ok (.iconst 1, 1) := by decide +kernel
theorem dX3_findNearOnes_15 : decode cX3_findNearOnes 15 = .ok (.iadd, 1) := by decide +kernel
theorem dX3_findNearOnes_16 : decode cX3_findNearOnes 16 = .ok (.istore 4, 2) := by decide +kernel
theorem dX3_findNearOnes_18 : decode cX3_findNearOnes 18 = .ok (.iload 4, 2) := by decide +kernel
theorem dX3_findNearOnes_20 : decode cX3_findNearOnes 20 = .ok (.aload_n 0, 1) := by decide +kernel
theorem dX3_findNearOnes_21 : decode cX3_findNearOnes 21 = .ok (.getfield 12, 3) := by decide +kernel
theorem dX3_findNearOnes_24 : decode cX3_findNearOnes 24 = .ok (.invokevirtual 18, 3) := by decide +kernel
theorem dX3_findNearOnes_27 : decode cX3_findNearOnes 27 = .ok (.if_icmp .ge 87, 3) := by decide +kernel
theorem dX3_findNearOnes_30 : decode cX3_findNearOnes 30 = .ok (.aload_n 0, 1) := by decide +kernel
theorem dX3_findNearOnes_31 : decode cX3_findNearOnes 31 = .ok (.getfield 12, 3) := by decide +kernel
theorem dX3_findNearOnes_34 : decode cX3_findNearOnes 34 = .ok (.iload_n 3, 1) := by decide +kernel
theorem dX3_findNearOnes_35 : decode cX3_findNearOnes 35 = .ok (.invokevirtual 31, 3) := by decide +kernel
theorem dX3_findNearOnes_38 : decode cX3_findNearOnes 38 = .ok (.checkcast 22, 3) := by decide +kernel
theorem dX3_findNearOnes_41 : decode cX3_findNearOnes 41 = .ok (.astore 5, 2) := by decide +kernel
theorem dX3_findNearOnes_43 : decode cX3_findNearOnes 43 = .ok (.aload_n 0, 1) := by decide +kernel
theorem dX3_findNearOnes_44 : decode cX3_findNearOnes 44 = .ok (.getfield 12, 3) := by decide +kernel
theorem dX3_findNearOnes_47 : decode cX3_findNearOnes 47 = .ok (.iload 4, 2) := by decide +kernel
theorem dX3_findNearOnes_49 : decode cX3_findNearOnes 49 = .ok (.invokevirtual 31, 3) := by decide +kernel
theorem dX3_findNearOnes_52 : decode cX3_findNearOnes 52 = .ok (.checkcast 22, 3) := by decide +kernel
theorem dX3_findNearOnes_55 : decode cX3_findNearOnes 55 = .ok (.astore 6, 2) := by decide +kernel
theorem dX3_findNearOnes_57 : decode cX3_findNearOnes 57 = .ok (.aload 5, 2) := by decide +kernel
theorem dX3_findNearOnes_59 : decode cX3_findNearOnes 59 = .ok (.getfield 35, 3) := by decide +kernel
theorem dX3_findNearOnes_62 : decode cX3_findNearOnes 62 = .ok (.aload 6, 2) := by decide +kernel
theorem dX3_findNearOnes_64 : decode cX3_findNearOnes 64 = .ok (.getfield 35, 3) := by decide +kernel
theorem dX3_findNearOnes_67 : decode cX3_findNearOnes 67 = .ok (.if_icmp .eq 41, 3) := by decide +kernel
theorem dX3_findNearOnes_70 : decode cX3_findNearOnes 70 = .ok (.aload 5, 2) := by decide +kernel
theorem dX3_findNearOnes_72 : decode cX3_findNearOnes 72 = .ok (.aload 6, 2) := by decide +kernel
theorem dX3_findNearOnes_74 : decode cX3_findNearOnes 74 = .ok (.lload_n 1, 1) := by decide +kernel
theorem dX3_findNearOnes_75 : decode cX3_findNearOnes 75 = .ok (.invokevirtual 52, 3) := by decide +kernel
theorem dX3_findNearOnes_78 : decode cX3_findNearOnes 78 = .ok (.ifCond .eq 30, 3) := by decide +kernel
theorem dX3_findNearOnes_81 : decode cX3_findNearOnes 81 = .ok (.aload 5, 2) := by decide +kernel
theorem dX3_findNearOnes_83 : decode cX3_findNearOnes 83 = .ok (.dup, 1) := by decide +kernel
theorem dX3_findNearOnes_84 : decode cX3_findNearOnes 84 = .ok (.getfield 42, 3) := by decide +kernel
theorem dX3_findNearOnes_87 : decode cX3_findNearOnes 87 = .ok (.iconst 1, 1) := by decide +kernel
theorem dX3_findNearOnes_88 : decode cX3_findNearOnes 88 = .ok (.iload 4, 2) := by decide +kernel
theorem dX3_findNearOnes_90 : decode cX3_findNearOnes 90 = .ok (.ishl, 1) := by decide +kernel
theorem dX3_findNearOnes_91 : decode cX3_findNearOnes 91 = .ok (.ior, 1) := by decide +kernel
theorem dX3_findNearOnes_92 : decode cX3_findNearOnes 92 = .ok (.putfield 42, 3) := by decide +kernel
theorem dX3_findNearOnes_95 : decode cX3_findNearOnes 95 = .ok (.aload 6, 2) := by decide +kernel
theorem dX3_findNearOnes_97 : decode cX3_findNearOnes 97 = .ok (.dup, 1) := by decide +kernel
theorem dX3_findNearOnes_98 : decode cX3_findNearOnes 98 = .ok (.getfield 42, 3) := by decide +kernel
theorem dX3_findNearOnes_101 : decode cX3_findNearOnes 101 = .ok (.iconst 1, 1) := by decide +kernel
theorem dX3_findNearOnes_102 : decode cX3_findNearOnes 102 = .ok (.iload_n 3, 1) := by decide +kernel
theorem dX3_findNearOnes_103 : decode cX3_findNearOnes 103 = .ok (.ishl, 1) := by decide +kernel
theorem dX3_findNearOnes_104 : decode cX3_findNearOnes 104 = .ok (.ior, 1) := by decide +kernel
theorem dX3_findNearOnes_105 : decode cX3_findNearOnes 105 = .ok (.putfield 42, 3) := by decide +kernel
theorem dX3_findNearOnes_108 : decode cX3_findNearOnes 108 = .ok (.iinc 4 1, 3) := by decide +kernel
theorem dX3_findNearOnes_111 : decode cX3_findNearOnes 111 = .ok (.goto (-93), 3) := by decide +kernel
theorem dX3_findNearOnes_114 : decode cX3_findNearOnes 114 = .ok (.iinc 3 1, 3) := by decide +kernel
theorem dX3_findNearOnes_117 : decode cX3_findNearOnes 117 = .ok (.goto (-115), 3) := by decide +kernel
theorem dX3_findNearOnes_120 : decode cX3_findNearOnes 120 = .ok (.return_, 1) := by decide +kernel
theorem dX3_findOddRing_0 : decode cX3_findOddRing 0 = .ok (.bipush 13, 2) := by decide +kernel
theorem dX3_findOddRing_2 : decode cX3_findOddRing 2 = .ok (.newarray .int, 2) := by decide +kernel
theorem dX3_findOddRing_4 : decode cX3_findOddRing 4 = .ok (.astore_n 2, 1) := by decide +kernel
theorem dX3_findOddRing_5 : decode cX3_findOddRing 5 = .ok (.iconst 3, 1) := by decide +kernel
theorem dX3_findOddRing_6 : decode cX3_findOddRing 6 = .ok (.istore_n 3, 1) := by decide +kernel
theorem dX3_findOddRing_7 : decode cX3_findOddRing 7 = .ok (.iload_n 3, 1) := by decide +kernel
theorem dX3_findOddRing_8 : decode cX3_findOddRing 8 = .ok (.aload_n 0, 1) := by decide +kernel
theorem dX3_findOddRing_9 : decode cX3_findOddRing 9 = .ok (.getfield 12, 3) := by decide +kernel
theorem dX3_findOddRing_12 : decode cX3_findOddRing 12 = .ok (.invokevirtual 18, 3) := by decide +kernel
theorem dX3_findOddRing_15 : decode cX3_findOddRing 15 = .ok (.if_icmp .gt 60, 3) := by decide +kernel
theorem dX3_findOddRing_18 : decode cX3_findOddRing 18 = .ok (.iconst 0, 1) := by decide +kernel
theorem dX3_findOddRing_19 : decode cX3_findOddRing 19 = .ok (.istore 4, 2) := by decide +kernel
theorem dX3_findOddRing_21 : decode cX3_findOddRing 21 = .ok (.iload 4, 2) := by decide +kernel
theorem dX3_findOddRing_23 : decode cX3_findOddRing 23 = .ok (.aload_n 0, 1) := by decide +kernel
theorem dX3_findOddRing_24 : decode cX3_findOddRing 24 = .ok (.getfield 12, 3) := by decide +kernel
theorem dX3_findOddRing_27 : decode cX3_findOddRing 27 = .ok (.invokevirtual 18, 3) := by decide +kernel
theorem dX3_findOddRing_30 : decode cX3_findOddRing 30 = .ok (.if_icmp .ge 39, 3) := by decide +kernel
theorem dX3_findOddRing_33 : decode cX3_findOddRing 33 = .ok (.aload_n 0, 1) := by decide +kernel
theorem dX3_findOddRing_34 : decode cX3_findOddRing 34 = .ok (.iload 4, 2) := by decide +kernel
theorem dX3_findOddRing_36 : decode cX3_findOddRing 36 = .ok (.iload_n 3, 1) := by decide +kernel
theorem dX3_findOddRing_37 : decode cX3_findOddRing 37 = .ok (.aload_n 2, 1) := by decide +kernel
theorem dX3_findOddRing_38 : decode cX3_findOddRing 38 = .ok (.invokevirtual 56, 3) := by decide +kernel
theorem dX3_findOddRing_41 : decode cX3_findOddRing 41 = .ok (.aload_n 2, 1) := by decide +kernel
theorem dX3_findOddRing_42 : decode cX3_findOddRing 42 = .ok (.iload_n 3, 1) := by decide +kernel
theorem dX3_findOddRing_43 : decode cX3_findOddRing 43 = .ok (.iaload, 1) := by decide +kernel
theorem dX3_findOddRing_44 : decode cX3_findOddRing 44 = .ok (.iload 4, 2) := by decide +kernel
theorem dX3_findOddRing_46 : decode cX3_findOddRing 46 = .ok (.ishr, 1) := by decide +kernel
theorem dX3_findOddRing_47 : decode cX3_findOddRing 47 = .ok (.iconst 1, 1) := by decide +kernel
theorem dX3_findOddRing_48 : decode cX3_findOddRing 48 = .ok (.iand, 1) := by decide +kernel
theorem dX3_findOddRing_49 : decode cX3_findOddRing 49 = .ok (.ifCond .eq 14, 3) := by decide +kernel
theorem dX3_findOddRing_52 : decode cX3_findOddRing 52 = .ok (.aload_n 0, 1) := by decide +kernel
theorem dX3_findOddRing_53 : decode cX3_findOddRing 53 = .ok (.iload 4, 2) := by decide +kernel
theorem dX3_findOddRing_55 : decode cX3_findOddRing 55 = .ok (.iload_n 3, 1) := by decide +kernel
theorem dX3_findOddRing_56 : decode cX3_findOddRing 56 = .ok (.aload_n 2, 1) := by decide +kernel
theorem dX3_findOddRing_57 : decode cX3_findOddRing 57 = .ok (.aload_n 1, 1) := by decide +kernel
theorem dX3_findOddRing_58 : decode cX3_findOddRing 58 = .ok (.invokevirtual 60, 3) := by decide +kernel
theorem dX3_findOddRing_61 : decode cX3_findOddRing 61 = .ok (.iload_n 3, 1) := by decide +kernel
theorem dX3_findOddRing_62 : decode cX3_findOddRing 62 = .ok (.ireturn, 1) := by decide +kernel
theorem dX3_findOddRing_63 : decode cX3_findOddRing 63 = .ok (.iinc 4 1, 3) := by decide +kernel
theorem dX3_findOddRing_66 : decode cX3_findOddRing 66 = .ok (.goto (-45), 3) := by decide +kernel
theorem dX3_findOddRing_69 : decode cX3_findOddRing 69 = .ok (.iinc 3 2, 3) := by decide +kernel
theorem dX3_findOddRing_72 : decode cX3_findOddRing 72 = .ok (.goto (-65), 3) := by decide +kernel
theorem dX3_findOddRing_75 : decode cX3_findOddRing 75 = .ok (.iconst 0, 1) := by decide +kernel
theorem dX3_findOddRing_76 : decode cX3_findOddRing 76 = .ok (.ireturn, 1) := by decide +kernel
theorem dX3_fillWalks_0 : decode cX3_fillWalks 0 = .ok (.aload_n 3, 1) := by decide +kernel
theorem dX3_fillWalks_1 : decode cX3_fillWalks 1 = .ok (.iconst 0, 1) := by decide +kernel
theorem dX3_fillWalks_2 : decode cX3_fillWalks 2 = .ok (.iconst 1, 1) := by decide +kernel
theorem dX3_fillWalks_3 : decode cX3_fillWalks 3 = .ok (.iload_n 1, 1) := by decide +kernel
theorem dX3_fillWalks_4 : decode cX3_fillWalks 4 = .ok (.ishl, 1) := by decide +kernel
theorem dX3_fillWalks_5 : decode cX3_fillWalks 5 = .ok (.iastore, 1) := by decide +kernel
theorem dX3_fillWalks_6 : decode cX3_fillWalks 6 = .ok (.iconst 1, 1) := by decide +kernel
theorem dX3_fillWalks_7 : decode cX3_fillWalks 7 = .ok (.istore 4, 2) := by decide +kernel
theorem dX3_fillWalks_9 : decode cX3_fillWalks 9 = .ok (.iload 4, 2) := by decide +kernel
theorem dX3_fillWalks_11 : decode cX3_fillWalks 11 = .ok (.iload_n 2, 1) := by decide +kernel
theorem dX3_fillWalks_12 : decode cX3_fillWalks 12 = .ok (.if_icmp .gt 30, 3) := by decide +kernel
theorem dX3_fillWalks_15 : decode cX3_fillWalks 15 = .ok (.iload 4, 2) := by decide +kernel
theorem dX3_fillWalks_17 : decode cX3_fillWalks 17 = .ok (.aload_n 3, 1) := by decide +kernel
theorem dX3_fillWalks_18 : decode cX3_fillWalks 18 = .ok (.arraylength, 1) := by decide +kernel
theorem dX3_fillWalks_19 : decode cX3_fillWalks 19 = .ok (.if_icmp .ge 23, 3) := by decide +kernel
theorem dX3_fillWalks_22 : decode cX3_fillWalks 22 = .ok (.aload_n 3, 1) := by decide +kernel
theorem dX3_fillWalks_23 : decode cX3_fillWalks 23 = .ok (.iload 4, 2) := by decide +kernel
theorem dX3_fillWalks_25 : decode cX3_fillWalks 25 = .ok (.aload_n 0, 1) := by decide +kernel
theorem dX3_fillWalks_26 : decode cX3_fillWalks 26 = .ok (.aload_n 3, 1) := by decide +kernel
theorem dX3_fillWalks_27 : decode cX3_fillWalks 27 = .ok (.iload 4, 2) := by decide +kernel
theorem dX3_fillWalks_29 : decode cX3_fillWalks 29 = .ok (.iconst 1, 1) := by decide +kernel
theorem dX3_fillWalks_30 : decode cX3_fillWalks 30 = .ok (.isub, 1) := by decide +kernel
theorem dX3_fillWalks_31 : decode cX3_fillWalks 31 = .ok (.iaload, 1) := by decide +kernel
theorem dX3_fillWalks_32 : decode cX3_fillWalks 32 = .ok (.invokevirtual 64, 3) := by decide +kernel
theorem dX3_fillWalks_35 : decode cX3_fillWalks 35 = .ok (.iastore, 1) := by decide +kernel
theorem dX3_fillWalks_36 : decode cX3_fillWalks 36 = .ok (.iinc 4 1, 3) := by decide +kernel
theorem dX3_fillWalks_39 : decode cX3_fillWalks 39 = .ok (.goto (-30), 3) := by decide +kernel
theorem dX3_fillWalks_42 : decode cX3_fillWalks 42 = .ok (.return_, 1) := by decide +kernel
theorem dX3_nearAnyOf_0 : decode cX3_nearAnyOf 0 = .ok (.iconst 0, 1) := by decide +kernel
theorem dX3_nearAnyOf_1 : decode cX3_nearAnyOf 1 = .ok (.istore_n 2, 1) := by decide +kernel
theorem dX3_nearAnyOf_2 : decode cX3_nearAnyOf 2 = .ok (.iconst 0, 1) := by decide +kernel
theorem dX3_nearAnyOf_3 : decode cX3_nearAnyOf 3 = .ok (.istore_n 3, 1) := by decide +kernel
theorem dX3_nearAnyOf_4 : decode cX3_nearAnyOf 4 = .ok (.iload_n 3, 1) := by decide +kernel
theorem dX3_nearAnyOf_5 : decode cX3_nearAnyOf 5 = .ok (.aload_n 0, 1) := by decide +kernel
theorem dX3_nearAnyOf_6 : decode cX3_nearAnyOf 6 = .ok (.getfield 12, 3) := by decide +kernel
theorem dX3_nearAnyOf_9 : decode cX3_nearAnyOf 9 = .ok (.invokevirtual 18, 3) := by decide +kernel
theorem dX3_nearAnyOf_12 : decode cX3_nearAnyOf 12 = .ok (.if_icmp .ge 25, 3) := by decide +kernel
theorem dX3_nearAnyOf_15 : decode cX3_nearAnyOf 15 = .ok (.iload_n 1, 1) := by decide +kernel
theorem dX3_nearAnyOf_16 : decode cX3_nearAnyOf 16 = .ok (.iload_n 3, 1) := by decide +kernel
theorem dX3_nearAnyOf_17 : decode cX3_nearAnyOf 17 = .ok (.ishr, 1) := by decide +kernel
theorem dX3_nearAnyOf_18 : decode cX3_nearAnyOf 18 = .ok (.iconst 1, 1) := by decide +kernel
theorem dX3_nearAnyOf_19 : decode cX3_nearAnyOf 19 = .ok (.iand, 1) := by decide +kernel
theorem dX3_nearAnyOf_20 : decode cX3_nearAnyOf 20 = .ok (.ifCond .eq 11, 3) := by decide +kernel
theorem dX3_nearAnyOf_23 : decode cX3_nearAnyOf 23 = .ok (.iload_n 2, 1) := by decide +kernel
theorem dX3_nearAnyOf_24 : decode cX3_nearAnyOf 24 = .ok (.aload_n 0, 1) := by decide +kernel
theorem dX3_nearAnyOf_25 : decode cX3_nearAnyOf 25 = .ok (.iload_n 3, 1) := by decide +kernel
theorem dX3_nearAnyOf_26 : decode cX3_nearAnyOf 26 = .ok (.invokevirtual 67, 3) := by decide +kernel
theorem dX3_nearAnyOf_29 : decode cX3_nearAnyOf 29 = .ok (.ior, 1) := by decide +kernel
theorem dX3_nearAnyOf_30 : decode cX3_nearAnyOf 30 = .ok (.istore_n 2, 1) := by decide +kernel
theorem dX3_nearAnyOf_31 : decode cX3_nearAnyOf 31 = .ok (.iinc 3 1, 3) := by decide +kernel
theorem dX3_nearAnyOf_34 : decode cX3_nearAnyOf 34 = .ok (.goto (-30), 3) := by decide +kernel
theorem dX3_nearAnyOf_37 : decode cX3_nearAnyOf 37 = .ok (.iload_n 2, 1) := by decide +kernel
theorem dX3_nearAnyOf_38 : decode cX3_nearAnyOf 38 = .ok (.ireturn, 1) := by decide +kernel
theorem dX3_writeLeastRing_0 : decode cX3_writeLeastRing 0 = .ok (.iload_n 1, 1) := by decide +kernel
theorem dX3_writeLeastRing_1 : decode cX3_writeLeastRing 1 = .ok (.istore 5, 2) := by decide +kernel
theorem dX3_writeLeastRing_3 : decode cX3_writeLeastRing 3 = .ok (.iconst 0, 1) := by decide +kernel
theorem dX3_writeLeastRing_4 : decode cX3_writeLeastRing 4 = .ok (.istore 6, 2) := by decide +kernel
theorem dX3_writeLeastRing_6 : decode cX3_writeLeastRing 6 = .ok (.iload 6, 2) := by decide +kernel
theorem dX3_writeLeastRing_8 : decode cX3_writeLeastRing 8 = .ok (.iload_n 2, 1) := by decide +kernel
theorem dX3_writeLeastRing_9 : decode cX3_writeLeastRing 9 = .ok (.if_icmp .ge 59, 3) := by decide +kernel
theorem dX3_writeLeastRing_12 : decode cX3_writeLeastRing 12 = .ok (.iload 6, 2) := by decide +kernel
theorem dX3_writeLeastRing_14 : decode cX3_writeLeastRing 14 = .ok (.aload 4, 2) := by decide +kernel
theorem dX3_writeLeastRing_16 : decode cX3_writeLeastRing 16 = .ok (.arraylength, 1) := by decide +kernel
theorem dX3_writeLeastRing_17 : decode cX3_writeLeastRing 17 = .ok (.if_icmp .ge 51, 3) := by decide +kernel
theorem dX3_writeLeastRing_20 : decode cX3_writeLeastRing 20 = .ok (.iload_n 2, 1) := by decide +kernel
theorem dX3_writeLeastRing_21 : decode cX3_writeLeastRing 21 = .ok (.iload 6, 2) := by decide +kernel
theorem dX3_writeLeastRing_23 : decode cX3_writeLeastRing 23 = .ok (.isub, 1) := by decide +kernel
theorem dX3_writeLeastRing_24 : decode cX3_writeLeastRing 24 = .ok (.iconst 1, 1) := by decide +kernel
theorem dX3_writeLeastRing_25 : decode cX3_writeLeastRing 25 = .ok (.isub, 1) := by decide +kernel
theorem dX3_writeLeastRing_26 : decode cX3_writeLeastRing 26 = .ok (.aload_n 3, 1) := by decide +kernel
theorem dX3_writeLeastRing_27 : decode cX3_writeLeastRing 27 = .ok (.arraylength, 1) := by decide +kernel
theorem dX3_writeLeastRing_28 : decode cX3_writeLeastRing 28 = .ok (.if_icmp .ge 40, 3) := by decide +kernel
theorem dX3_writeLeastRing_31 : decode cX3_writeLeastRing 31 = .ok (.aload 4, 2) := by decide +kernel
theorem dX3_writeLeastRing_33 : decode cX3_writeLeastRing 33 = .ok (.iload 6, 2) := by decide +kernel
theorem dX3_writeLeastRing_35 : decode cX3_writeLeastRing 35 = .ok (.aload_n 0, 1) := by decide +kernel
theorem dX3_writeLeastRing_36 : decode cX3_writeLeastRing 36 = .ok (.iload 5, 2) := by decide +kernel
theorem dX3_writeLeastRing_38 : decode cX3_writeLeastRing 38 = .ok (.invokevirtual 49, 3) := by decide +kernel
theorem dX3_writeLeastRing_41 : decode cX3_writeLeastRing 41 = .ok (.iastore, 1) := by decide +kernel
theorem dX3_writeLeastRing_42 : decode cX3_writeLeastRing 42 = .ok (.aload_n 0, 1) := by decide +kernel
theorem dX3_writeLeastRing_43 : decode cX3_writeLeastRing 43 = .ok (.iload 5, 2) := by decide +kernel
theorem dX3_writeLeastRing_45 : decode cX3_writeLeastRing 45 = .ok (.invokevirtual 67, 3) := by decide +kernel
theorem dX3_writeLeastRing_48 : decode cX3_writeLeastRing 48 = .ok (.aload_n 3, 1) := by decide +kernel
theorem dX3_writeLeastRing_49 : decode cX3_writeLeastRing 49 = .ok (.iload_n 2, 1) := by decide +kernel
theorem dX3_writeLeastRing_50 : decode cX3_writeLeastRing 50 = .ok (.iload 6, 2) := by decide +kernel
theorem dX3_writeLeastRing_52 : decode cX3_writeLeastRing 52 = .ok (.isub, 1) := by decide +kernel
theorem dX3_writeLeastRing_53 : decode cX3_writeLeastRing 53 = .ok (.iconst 1, 1) := by decide +kernel
theorem dX3_writeLeastRing_54 : decode cX3_writeLeastRing 54 = .ok (.isub, 1) := by decide +kernel
theorem dX3_writeLeastRing_55 : decode cX3_writeLeastRing 55 = .ok (.iaload, 1) := by decide +kernel
theorem dX3_writeLeastRing_56 : decode cX3_writeLeastRing 56 = .ok (.iand, 1) := by decide +kernel
theorem dX3_writeLeastRing_57 : decode cX3_writeLeastRing 57 = .ok (.invokestatic 69, 3) := by decide +kernel
theorem dX3_writeLeastRing_60 : decode cX3_writeLeastRing 60 = .ok (.istore 5, 2) := by decide +kernel
theorem dX3_writeLeastRing_62 : decode cX3_writeLeastRing 62 = .ok (.iinc 6 1, 3) := by decide +kernel
theorem dX3_writeLeastRing_65 : decode cX3_writeLeastRing 65 = .ok (.goto (-59), 3) := by decide +kernel
theorem dX3_writeLeastRing_68 : decode cX3_writeLeastRing 68 = .ok (.return_, 1) := by decide +kernel
theorem dX4_init_0 : decode cX4_init 0 = .ok (.aload_n 0, 1) := by decide +kernel
theorem dX4_init_1 : decode cX4_init 1 = .ok (.invokespecial 3, 3) := by decide +kernel
theorem dX4_init_4 : decode cX4_init 4 = .ok (.aload_n 0, 1) := by decide +kernel
theorem dX4_init_5 : decode cX4_init 5 = .ok (.bipush 12, 2) := by decide +kernel
theorem dX4_init_7 : decode cX4_init 7 = .ok (.newarray .int, 2) := by decide +kernel
theorem dX4_init_9 : decode cX4_init 9 = .ok (.putfield 9, 3) := by decide +kernel
theorem dX4_init_12 : decode cX4_init 12 = .ok (.aload_n 0, 1) := by decide +kernel
theorem dX4_init_13 : decode cX4_init 13 = .ok (.bipush 12, 2) := by decide +kernel
theorem dX4_init_15 : decode cX4_init 15 = .ok (.newarray .int, 2) := by decide +kernel
theorem dX4_init_17 : decode cX4_init 17 = .ok (.putfield 15, 3) := by decide +kernel
theorem dX4_init_20 : decode cX4_init 20 = .ok (.aload_n 0, 1) := by decide +kernel
theorem dX4_init_21 : decode cX4_init 21 = .ok (.bipush 12, 2) := by decide +kernel
theorem dX4_init_23 : decode cX4_init 23 = .ok (.newarray .boolean, 2) := by decide +kernel
theorem dX4_init_25 : decode cX4_init 25 = .ok (.putfield 18, 3) := by decide +kernel
theorem dX4_init_28 : decode cX4_init 28 = .ok (.aload_n 0, 1) := by decide +kernel
theorem dX4_init_29 : decode cX4_init 29 = .ok (.iconst 4, 1) := by decide +kernel
theorem dX4_init_30 : decode cX4_init 30 = .ok (.newarray .int, 2) := by decide +kernel
theorem dX4_init_32 : decode cX4_init 32 = .ok (.putfield 22, 3) := by decide +kernel
theorem dX4_init_35 : decode cX4_init 35 = .ok (.aload_n 0, 1) := by decide +kernel
theorem dX4_init_36 : decode cX4_init 36 = .ok (.bipush 12, 2) := by decide +kernel
theorem dX4_init_38 : decode cX4_init 38 = .ok (.newarray .int, 2) := by decide +kernel
theorem dX4_init_40 : decode cX4_init 40 = .ok (.putfield 25, 3) := by decide +kernel
theorem dX4_init_43 : decode cX4_init 43 = .ok (.aload_n 0, 1) := by decide +kernel
theorem dX4_init_44 : decode cX4_init 44 = .ok (.bipush 12, 2) := by decide +kernel
theorem dX4_init_46 : decode cX4_init 46 = .ok (.newarray .int, 2) := by decide +kernel
theorem dX4_init_48 : decode cX4_init 48 = .ok (.putfield 28, 3) := by decide +kernel
theorem dX4_init_51 : decode cX4_init 51 = .ok (.aload_n 0, 1) := by decide +kernel
theorem dX4_init_52 : decode cX4_init 52 = .ok (.bipush 12, 2) := by decide +kernel
theorem dX4_init_54 : decode cX4_init 54 = .ok (.putfield 31, 3) := by decide +kernel
theorem dX4_init_57 : decode cX4_init 57 = .ok (.aload_n 0, 1) := by decide +kernel
theorem dX4_init_58 : decode cX4_init 58 = .ok (.iconst 0, 1) := by decide +kernel
theorem dX4_init_59 : decode cX4_init 59 = .ok (.iconst 4, 1) := by decide +kernel
theorem dX4_init_60 : decode cX4_init 60 = .ok (.iload_n 2, 1) := by decide +kernel
theorem dX4_init_61 : decode cX4_init 61 = .ok (.invokestatic 35, 3) := by decide +kernel
theorem dX4_init_64 : decode cX4_init 64 = .ok (.invokestatic 41, 3) := by decide +kernel
theorem dX4_init_67 : decode cX4_init 67 = .ok (.putfield 44, 3) := by decide +kernel
theorem dX4_init_70 : decode cX4_init 70 = .ok (.aload_n 0, 1) := by decide +kernel
theorem dX4_init_71 : decode cX4_init 71 = .ok (.bipush 12, 2) := by decide +kernel
theorem dX4_init_73 : decode cX4_init 73 = .ok (.aload_n 1, 1) := by decide +kernel
theorem dX4_init_74 : decode cX4_init 74 = .ok (.invokevirtual 47, 3) := by decide +kernel
theorem dX4_init_77 : decode cX4_init 77 = .ok (.invokestatic 35, 3) := by decide +kernel
theorem dX4_init_80 : decode cX4_init 80 = .ok (.putfield 53, 3) := by decide +kernel
theorem dX4_init_83 : decode cX4_init 83 = .ok (.iconst 0, 1) := by decide +kernel
theorem dX4_init_84 : decode cX4_init 84 = .ok (.istore_n 3, 1) := by decide +kernel
theorem dX4_init_85 : decode cX4_init 85 = .ok (.iload_n 3, 1) := by decide +kernel
theorem dX4_init_86 : decode cX4_init 86 = .ok (.aload_n 0, 1) := by decide +kernel
theorem dX4_init_87 : decode cX4_init 87 = .ok (.getfield 53, 3) := by decide +kernel
theorem dX4_init_90 : decode cX4_init 90 = .ok (.if_icmp .ge 42, 3) := by decide +kernel
theorem dX4_init_93 : decode cX4_init 93 = .ok (.aload_n 0, 1) := by decide +kernel
theorem dX4_init_94 : decode cX4_init 94 = .ok (.getfield 9, 3) := by decide +kernel
theorem dX4_init_97 : decode cX4_init 97 = .ok (.iload_n 3, 1) := by decide +kernel
theorem dX4_init_98 : decode cX4_init 98 = .ok (.aload_n 1, 1) := by decide +kernel
theorem dX4_init_99 : decode cX4_init 99 = .ok (.iload_n 3, 1) := by decide +kernel
theorem dX4_init_100 : decode cX4_init 100 = .ok (.invokevirtual 55, 3) := by decide +kernel
theorem dX4_init_103 : decode cX4_init 103 = .ok (.iastore, 1) := by decide +kernel
theorem dX4_init_104 : decode cX4_init 104 = .ok (.aload_n 0, 1) := by decide +kernel
theorem dX4_init_105 : decode cX4_init 105 = .ok (.getfield 15, 3) := by decide +kernel
theorem dX4_init_108 : decode cX4_init 108 = .ok (.iload_n 3, 1) := by decide +kernel
theorem dX4_init_109 : decode cX4_init 109 = .ok (.aload_n 1, 1) := by decide +kernel
theorem dX4_init_110 : decode cX4_init 110 = .ok (.iload_n 3, 1) := by decide +kernel
theorem dX4_init_111 : decode cX4_init 111 = .ok (.invokevirtual 59, 3) := by decide +kernel
theorem dX4_init_114 : decode cX4_init 114 = .ok (.iastore, 1) := by decide +kernel
theorem dX4_init_115 : decode cX4_init 115 = .ok (.aload_n 0, 1) := by decide +kernel
theorem dX4_init_116 : decode cX4_init 116 = .ok (.getfield 18, 3) := by decide +kernel
theorem dX4_init_119 : decode cX4_init 119 = .ok (.iload_n 3, 1) := by decide +kernel
theorem dX4_init_120 : decode cX4_init 120 = .ok (.aload_n 1, 1) := by decide +kernel
theorem dX4_init_121 : decode cX4_init 121 = .ok (.iload_n 3, 1) := by decide +kernel
theorem dX4_init_122 : decode cX4_init 122 = .ok (.invokevirtual 61, 3) := by decide +kernel
theorem dX4_init_125 : decode cX4_init 125 = .ok (.bastore, 1) := by decide +kernel
theorem dX4_init_126 : decode cX4_init 126 = .ok (.iinc 3 1, 3) := by decide +kernel
theorem dX4_init_129 : decode cX4_init 129 = .ok (.goto (-44), 3) := by decide +kernel
theorem dX4_init_132 : decode cX4_init 132 = .ok (.return_, 1) := by decide +kernel
theorem dX4_isFound_0 : decode cX4_isFound 0 = .ok (.aload_n 0, 1) := by decide +kernel
theorem dX4_isFound_1 : decode cX4_isFound 1 = .ok (.getfield 31, 3) := by decide +kernel
theorem dX4_isFound_4 : decode cX4_isFound 4 = .ok (.bipush 12, 2) := by decide +kernel
theorem dX4_isFound_6 : decode cX4_isFound 6 = .ok (.if_icmp .ge 7, 3) := by decide +kernel
theorem dX4_isFound_9 : decode cX4_isFound 9 = .ok (.iconst 1, 1) := by decide +kernel
theorem dX4_isFound_10 : decode cX4_isFound 10 = .ok (.goto 4, 3) := by decide +kernel
theorem dX4_isFound_13 : decode cX4_isFound 13 = .ok (.iconst 0, 1) := by decide +kernel
theorem dX4_isFound_14 : decode cX4_isFound 14 = .ok (.ireturn, 1) := by decide +kernel
theorem dX4_findBest_0 : decode cX4_findBest 0 = .ok (.iconst 0, 1) := by decide +kernel
theorem dX4_findBest_1 : decode cX4_findBest 1 = .ok (.istore_n 1, 1) := by decide +kernel
theorem dX4_findBest_2 : decode cX4_findBest 2 = .ok (.iconst 0, 1) := by decide +kernel
theorem dX4_findBest_3 : decode cX4_findBest 3 = .ok (.istore_n 2, 1) := by decide +kernel
theorem dX4_findBest_4 : decode cX4_findBest 4 = .ok (.iload_n 2, 1) := by decide +kernel
theorem dX4_findBest_5 : decode cX4_findBest 5 = .ok (.aload_n 0, 1) := by decide +kernel
theorem dX4_findBest_6 : decode cX4_findBest 6 = .ok (.getfield 53, 3) := by decide +kernel
theorem dX4_findBest_9 : decode cX4_findBest 9 = .ok (.if_icmp .ge 59, 3) := by decide +kernel
theorem dX4_findBest_12 : decode cX4_findBest 12 = .ok (.aload_n 0, 1) := by decide +kernel
theorem dX4_findBest_13 : decode cX4_findBest 13 = .ok (.getfield 15, 3) := by decide +kernel
theorem dX4_findBest_16 : decode cX4_findBest 16 = .ok (.iload_n 2, 1) := by decide +kernel
theorem dX4_findBest_17 : decode cX4_findBest 17 = .ok (.iaload, 1) := by decide +kernel
theorem dX4_findBest_18 : decode cX4_findBest 18 = .ok (.ifCond .lt 44, 3) := by decide +kernel
theorem dX4_findBest_21 : decode cX4_findBest 21 = .ok (.aload_n 0, 1) := by decide +kernel
theorem dX4_findBest_22 : decode cX4_findBest 22 = .ok (.getfield 15, 3) := by decide +kernel
theorem dX4_findBest_25 : decode cX4_findBest 25 = .ok (.iload_n 2, 1) := by decide +kernel
theorem dX4_findBest_26 : decode cX4_findBest 26 = .ok (.iaload, 1) := by decide +kernel
theorem dX4_findBest_27 : decode cX4_findBest 27 = .ok (.aload_n 0, 1) := by decide +kernel
theorem dX4_findBest_28 : decode cX4_findBest 28 = .ok (.getfield 44, 3) := by decide +kernel
theorem dX4_findBest_31 : decode cX4_findBest 31 = .ok (.if_icmp .ge 31, 3) := by decide +kernel
theorem dX4_findBest_34 : decode cX4_findBest 34 = .ok (.aload_n 0, 1) := by decide +kernel
theorem dX4_findBest_35 : decode cX4_findBest 35 = .ok (.getfield 22, 3) := by decide +kernel
theorem dX4_findBest_38 : decode cX4_findBest 38 = .ok (.aload_n 0, 1) := by decide +kernel
theorem dX4_findBest_39 : decode cX4_findBest 39 = .ok (.getfield 15, 3) := by decide +kernel
theorem dX4_findBest_42 : decode cX4_findBest 42 = .ok (.iload_n 2, 1) := by decide +kernel
theorem dX4_findBest_43 : decode cX4_findBest 43 = .ok (.iaload, 1) := by decide +kernel
theorem dX4_findBest_44 : decode cX4_findBest 44 = .ok (.dup2, 1) := by decide +kernel
theorem dX4_findBest_45 : decode cX4_findBest 45 = .ok (.iaload, 1) := by decide +kernel
theorem dX4_findBest_46 : decode cX4_findBest 46 = .ok (.iconst 1, 1) := by decide +kernel
theorem dX4_findBest_47 : decode cX4_findBest 47 = .ok (.iload_n 2, 1) := by decide +kernel
theorem dX4_findBest_48 : decode cX4_findBest 48 = .ok (.ishl, 1) := by decide +kernel
theorem dX4_findBest_49 : decode cX4_findBest 49 = .ok (.ior, 1) := by decide +kernel
theorem dX4_findBest_50 : decode cX4_findBest 50 = .ok (.iastore, 1) := by decide +kernel
theorem dX4_findBest_51 : decode cX4_findBest 51 = .ok (.iload_n 1, 1) := by decide +kernel
theorem dX4_findBest_52 : decode cX4_findBest 52 = .ok (.iconst 1, 1) := by decide +kernel
theorem dX4_findBest_53 : decode cX4_findBest 53 = .ok (.aload_n 0, 1) := by decide +kernel
theorem dX4_findBest_54 : decode cX4_findBest 54 = .ok (.getfield 15, 3) := by decide +kernel
theorem dX4_findBest_57 : decode cX4_findBest 57 = .ok (.iload_n 2, 1) := by decide +kernel
theorem dX4_findBest_58 : decode cX4_findBest 58 = .ok (.iaload, 1) := by decide +kernel
theorem dX4_findBest_59 : decode cX4_findBest 59 = .ok (.ishl, 1) := by decide +kernel
theorem dX4_findBest_60 : decode cX4_findBest 60 = .ok (.ior, 1) := by decide +kernel
theorem dX4_findBest_61 : decode cX4_findBest 61 = .ok (.istore_n 1, 1) := by decide +kernel
theorem dX4_findBest_62 : decode cX4_findBest 62 = .ok (.iinc 2 1, 3) := by decide +kernel
theorem dX4_findBest_65 : decode cX4_findBest 65 = .ok (.goto (-61), 3) := by decide +kernel
theorem dX4_findBest_68 : decode cX4_findBest 68 = .ok (.aload_n 0, 1) := by decide +kernel
theorem dX4_findBest_69 : decode cX4_findBest 69 = .ok (.iconst 0, 1) := by decide +kernel
theorem dX4_findBest_70 : decode cX4_findBest 70 = .ok (.iconst 0, 1) := by decide +kernel
theorem dX4_findBest_71 : decode cX4_findBest 71 = .ok (.iload_n 1, 1) := by decide +kernel
theorem dX4_findBest_72 : decode cX4_findBest 72 = .ok (.invokevirtual 65, 3) := by decide +kernel
theorem dX4_findBest_75 : decode cX4_findBest 75 = .ok (.return_, 1) := by decide +kernel
theorem dX4_goOn_0 : decode cX4_goOn 0 = .ok (.iload_n 2, 1) := by decide +kernel
theorem dX4_goOn_1 : decode cX4_goOn 1 = .ok (.aload_n 0, 1) := by decide +kernel
theorem dX4_goOn_2 : decode cX4_goOn 2 = .ok (.getfield 31, 3) := by decide +kernel
theorem dX4_goOn_5 : decode cX4_goOn 5 = .ok (.if_icmp .ge 11, 3) := by decide +kernel
theorem dX4_goOn_8 : decode cX4_goOn 8 = .ok (.aload_n 0, 1) := by decide +kernel
theorem dX4_goOn_9 : decode cX4_goOn 9 = .ok (.iload_n 1, 1) := by decide +kernel
theorem dX4_goOn_10 : decode cX4_goOn 10 = .ok (.invokevirtual 69, 3) := by decide +kernel
theorem dX4_goOn_13 : decode cX4_goOn 13 = .ok (.ifCond .eq 4, 3) := by decide +kernel
theorem dX4_goOn_16 : decode cX4_goOn 16 = .ok (.return_, 1) := by decide +kernel
theorem dX4_goOn_17 : decode cX4_goOn 17 = .ok (.iload_n 1, 1) := by decide +kernel
theorem dX4_goOn_18 : decode cX4_goOn 18 = .ok (.aload_n 0, 1) := by decide +kernel
theorem dX4_goOn_19 : decode cX4_goOn 19 = .ok (.getfield 53, 3) := by decide +kernel
theorem dX4_goOn_22 : decode cX4_goOn 22 = .ok (.if_icmp .lt 24, 3) := by decide +kernel
theorem dX4_goOn_25 : decode cX4_goOn 25 = .ok (.aload_n 0, 1) := by decide +kernel
theorem dX4_goOn_26 : decode cX4_goOn 26 = .ok (.iload_n 2, 1) := by decide +kernel
theorem dX4_goOn_27 : decode cX4_goOn 27 = .ok (.putfield 31, 3) := by decide +kernel
theorem dX4_goOn_30 : decode cX4_goOn 30 = .ok (.aload_n 0, 1) := by decide +kernel
theorem dX4_goOn_31 : decode cX4_goOn 31 = .ok (.getfield 25, 3) := by decide +kernel
theorem dX4_goOn_34 : decode cX4_goOn 34 = .ok (.iconst 0, 1) := by decide +kernel
theorem dX4_goOn_35 : decode cX4_goOn 35 = .ok (.aload_n 0, 1) := by decide +kernel
theorem dX4_goOn_36 : decode cX4_goOn 36 = .ok (.getfield 28, 3) := by decide +kernel
theorem dX4_goOn_39 : decode cX4_goOn 39 = .ok (.iconst 0, 1) := by decide +kernel
theorem dX4_goOn_40 : decode cX4_goOn 40 = .ok (.bipush 12, 2) := by decide +kernel
theorem dX4_goOn_42 : decode cX4_goOn 42 = .ok (.invokestatic 72, 3) := by decide +kernel
theorem dX4_goOn_45 : decode cX4_goOn 45 = .ok (.return_, 1) := by decide +kernel
theorem dX4_goOn_46 : decode cX4_goOn 46 = .ok (.iconst 0, 1) := by decide +kernel
theorem dX4_goOn_47 : decode cX4_goOn 47 = .ok (.istore 4, 2) := by decide +kernel
theorem dX4_goOn_49 : decode cX4_goOn 49 = .ok (.iconst 0, 1) := by decide +kernel
theorem dX4_goOn_50 : decode cX4_goOn 50 = .ok (.istore 5, 2) := by decide +kernel
theorem dX4_goOn_52 : decode cX4_goOn 52 = .ok (.iload 5, 2) := by decide +kernel
theorem dX4_goOn_54 : decode cX4_goOn 54 = .ok (.aload_n 0, 1) := by decide +kernel
theorem dX4_goOn_55 : decode cX4_goOn 55 = .ok (.getfield 44, 3) := by decide +kernel
theorem dX4_goOn_58 : decode cX4_goOn 58 = .ok (.if_icmp .ge 66, 3) := by decide +kernel
theorem dX4_goOn_61 : decode cX4_goOn 61 = .ok (.iload_n 3, 1) := by decide +kernel
theorem dX4_goOn_62 : decode cX4_goOn 62 = .ok (.iload 5, 2) := by decide +kernel
theorem dX4_goOn_64 : decode cX4_goOn 64 = .ok (.ishr, 1) := by decide +kernel
theorem dX4_goOn_65 : decode cX4_goOn 65 = .ok (.iconst 1, 1) := by decide +kernel
theorem dX4_goOn_66 : decode cX4_goOn 66 = .ok (.iand, 1) := by decide +kernel
theorem dX4_goOn_67 : decode cX4_goOn 67 = .ok (.ifCond .ne 7, 3) := by decide +kernel
theorem dX4_goOn_70 : decode cX4_goOn 70 = .ok (.iconst 1, 1) := by decide +kernel
theorem dX4_goOn_71 : decode cX4_goOn 71 = .ok (.goto 4, 3) := by decide +kernel
theorem dX4_goOn_74 : decode cX4_goOn 74 = .ok (.iconst 0, 1) := by decide +kernel
theorem dX4_goOn_75 : decode cX4_goOn 75 = .ok (.istore 6, 2) := by decide +kernel
theorem dX4_goOn_77 : decode cX4_goOn 77 = .ok (.aload_n 0, 1) := by decide +kernel
theorem dX4_goOn_78 : decode cX4_goOn 78 = .ok (.iload_n 1, 1) := by decide +kernel
theorem dX4_goOn_79 : decode cX4_goOn 79 = .ok (.iload 5, 2) := by decide +kernel
theorem dX4_goOn_81 : decode cX4_goOn 81 = .ok (.invokevirtual 78, 3) := by decide +kernel
theorem dX4_goOn_84 : decode cX4_goOn 84 = .ok (.ifCond .eq 27, 3) := by decide +kernel
theorem dX4_goOn_87 : decode cX4_goOn 87 = .ok (.iload 6, 2) := by decide +kernel
theorem dX4_goOn_89 : decode cX4_goOn 89 = .ok (.ifCond .eq 8, 3) := by decide +kernel
theorem dX4_goOn_92 : decode cX4_goOn 92 = .ok (.iload 4, 2) := by decide +kernel
theorem dX4_goOn_94 : decode cX4_goOn 94 = .ok (.ifCond .ne 17, 3) := by decide +kernel
theorem dX4_goOn_97 : decode cX4_goOn 97 = .ok (.aload_n 0, 1) := by decide +kernel
theorem dX4_goOn_98 : decode cX4_goOn 98 = .ok (.iload_n 1, 1) := by decide +kernel
theorem dX4_goOn_99 : decode cX4_goOn 99 = .ok (.iload 5, 2) := by decide +kernel
theorem dX4_goOn_101 : decode cX4_goOn 101 = .ok (.iload_n 2, 1) := by decide +kernel
theorem dX4_goOn_102 : decode cX4_goOn 102 = .ok (.iload_n 3, 1) := by decide +kernel
theorem dX4_goOn_103 : decode cX4_goOn 103 = .ok (.iconst 1, 1) := by decide +kernel
theorem dX4_goOn_104 : decode cX4_goOn 104 = .ok (.iload 5, 2) := by decide +kernel
theorem dX4_goOn_106 : decode cX4_goOn 106 = .ok (.ishl, 1) := by decide +kernel
theorem dX4_goOn_107 : decode cX4_goOn 107 = .ok (.ior, 1) := by decide +kernel
theorem dX4_goOn_108 : decode cX4_goOn 108 = .ok (.invokevirtual 82, 3) := by decide +kernel
theorem dX4_goOn_111 : decode cX4_goOn 111 = .ok (.iload 4, 2) := by decide +kernel
theorem dX4_goOn_113 : decode cX4_goOn 113 = .ok (.iload 6, 2) := by decide +kernel
theorem dX4_goOn_115 : decode cX4_goOn 115 = .ok (.ior, 1) := by decide +kernel
theorem dX4_goOn_116 : decode cX4_goOn 116 = .ok (.istore 4, 2) := by decide +kernel
theorem dX4_goOn_118 : decode cX4_goOn 118 = .ok (.iinc 5 1, 3) := by decide +kernel
theorem dX4_goOn_121 : decode cX4_goOn 121 = .ok (.goto (-69), 3) := by decide +kernel
theorem dX4_goOn_124 : decode cX4_goOn 124 = .ok (.return_, 1) := by decide +kernel
theorem dX4_tryColour_0 : decode cX4_tryColour 0 = .ok (.iload_n 1, 1) := by decide +kernel
theorem dX4_tryColour_1 : decode cX4_tryColour 1 = .ok (.ifCond .lt 23, 3) := by decide +kernel
theorem dX4_tryColour_4 : decode cX4_tryColour 4 = .ok (.iload_n 1, 1) := by decide +kernel
theorem dX4_tryColour_5 : decode cX4_tryColour 5 = .ok (.aload_n 0, 1) := by decide +kernel
theorem dX4_tryColour_6 : decode cX4_tryColour 6 = .ok (.getfield 53, 3) := by decide +kernel
theorem dX4_tryColour_9 : decode cX4_tryColour 9 = .ok (.if_icmp .ge 15, 3) := by decide +kernel
theorem dX4_tryColour_12 : decode cX4_tryColour 12 = .ok (.iload_n 2, 1) := by decide +kernel
theorem dX4_tryColour_13 : decode cX4_tryColour 13 = .ok (.ifCond .lt 11, 3) := by decide +kernel
theorem dX4_tryColour_16 : decode cX4_tryColour 16 = .ok (.iload_n 2, 1) := by decide +kernel
theorem dX4_tryColour_17 : decode cX4_tryColour 17 = .ok (.aload_n 0, 1) := by decide +kernel
theorem dX4_tryColour_18 : decode cX4_tryColour 18 = .ok (.getfield 44, 3) := by decide +kernel
theorem dX4_tryColour_21 : decode cX4_tryColour 21 = .ok (.if_icmp .lt 4, 3) := by decide +kernel
theorem dX4_tryColour_24 : decode cX4_tryColour 24 = .ok (.return_, 1) := by decide +kernel
theorem dX4_tryColour_25 : decode cX4_tryColour 25 = .ok (.iload_n 1, 1) := by decide +kernel
theorem dX4_tryColour_26 : decode cX4_tryColour 26 = .ok (.ifCond .le 28, 3) := by decide +kernel
theorem dX4_tryColour_29 : decode cX4_tryColour 29 = .ok (.aload_n 0, 1) := by decide +kernel
theorem dX4_tryColour_30 : decode cX4_tryColour 30 = .ok (.getfield 18, 3) := by decide +kernel
theorem dX4_tryColour_33 : decode cX4_tryColour 33 = .ok (.iload_n 1, 1) := by decide +kernel
theorem dX4_tryColour_34 : decode cX4_tryColour 34 = .ok (.baload, 1) := by decide +kernel
theorem dX4_tryColour_35 : decode cX4_tryColour 35 = .ok (.ifCond .eq 19, 3) := by decide +kernel
theorem dX4_tryColour_38 : decode cX4_tryColour 38 = .ok (.aload_n 0, 1) := by decide +kernel
theorem dX4_tryColour_39 : decode cX4_tryColour 39 = .ok (.getfield 25, 3) := by decide +kernel
theorem dX4_tryColour_42 : decode cX4_tryColour 42 = .ok (.iload_n 1, 1) := by decide +kernel
theorem dX4_tryColour_43 : decode cX4_tryColour 43 = .ok (.iconst 1, 1) := by decide +kernel
theorem dX4_tryColour_44 : decode cX4_tryColour 44 = .ok (.isub, 1) := by decide +kernel
theorem dX4_tryColour_45 : decode cX4_tryColour 45 = .ok (.iaload, 1) := by decide +kernel
theorem dX4_tryColour_46 : decode cX4_tryColour 46 = .ok (.iload_n 2, 1) := by decide +kernel
theorem dX4_tryColour_47 : decode cX4_tryColour 47 = .ok (.if_icmp .eq 7, 3) := by decide +kernel
theorem dX4_tryColour_50 : decode cX4_tryColour 50 = .ok (.iconst 1, 1) := by decide +kernel
theorem dX4_tryColour_51 : decode cX4_tryColour 51 = .ok (.goto 4, 3) := by decide +kernel
theorem dX4_tryColour_54 : decode cX4_tryColour 54 = .ok (.iconst 0, 1) := by decide +kernel
theorem dX4_tryColour_55 : decode cX4_tryColour 55 = .ok (.istore 5, 2) := by decide +kernel
theorem dX4_tryColour_57 : decode cX4_tryColour 57 = .ok (.aload_n 0, 1) := by decide +kernel
theorem dX4_tryColour_58 : decode cX4_tryColour 58 = .ok (.getfield 22, 3) := by decide +kernel
theorem dX4_tryColour_61 : decode cX4_tryColour 61 = .ok (.iload_n 2, 1) := by decide +kernel
theorem dX4_tryColour_62 : decode cX4_tryColour 62 = .ok (.iaload, 1) := by decide +kernel
theorem dX4_tryColour_63 : decode cX4_tryColour 63 = .ok (.istore 6, 2) := by decide +kernel
theorem dX4_tryColour_65 : decode cX4_tryColour 65 = .ok (.aload_n 0, 1) := by decide +kernel
theorem dX4_tryColour_66 : decode cX4_tryColour 66 = .ok (.getfield 25, 3) := by decide +kernel
theorem dX4_tryColour_69 : decode cX4_tryColour 69 = .ok (.iload_n 1, 1) := by decide +kernel
theorem dX4_tryColour_70 : decode cX4_tryColour 70 = .ok (.iload_n 2, 1) := by decide +kernel
theorem dX4_tryColour_71 : decode cX4_tryColour 71 = .ok (.iastore, 1) := by decide +kernel
theorem dX4_tryColour_72 : decode cX4_tryColour 72 = .ok (.aload_n 0, 1) := by decide +kernel
theorem dX4_tryColour_73 : decode cX4_tryColour 73 = .ok (.getfield 22, 3) := by decide +kernel
theorem dX4_tryColour_76 : decode cX4_tryColour 76 = .ok (.iload_n 2, 1) := by decide +kernel
theorem dX4_tryColour_77 : decode cX4_tryColour 77 = .ok (.iload 6, 2) := by decide +kernel
theorem dX4_tryColour_79 : decode cX4_tryColour 79 = .ok (.iconst 1, 1) := by decide +kernel
theorem dX4_tryColour_80 : decode cX4_tryColour 80 = .ok (.iload_n 1, 1) := by decide +kernel
theorem dX4_tryColour_81 : decode cX4_tryColour 81 = .ok (.ishl, 1) := by decide +kernel
theorem dX4_tryColour_82 : decode cX4_tryColour 82 = .ok (.ior, 1) := by decide +kernel
theorem dX4_tryColour_83 : decode cX4_tryColour 83 = .ok (.iastore, 1) := by decide +kernel
theorem dX4_tryColour_84 : decode cX4_tryColour 84 = .ok (.aload_n 0, 1) := by decide +kernel
theorem dX4_tryColour_85 : decode cX4_tryColour 85 = .ok (.iload_n 1, 1) := by decide +kernel
theorem dX4_tryColour_86 : decode cX4_tryColour 86 = .ok (.iconst 1, 1) := by decide +kernel
theorem dX4_tryColour_87 : decode cX4_tryColour 87 = .ok (.iadd, 1) := by decide +kernel
theorem dX4_tryColour_88 : decode cX4_tryColour 88 = .ok (.iload 5, 2) := by decide +kernel
theorem dX4_tryColour_90 : decode cX4_tryColour 90 = .ok (.ifCond .eq 9, 3) := by decide +kernel
theorem dX4_tryColour_93 : decode cX4_tryColour 93 = .ok (.iload_n 3, 1) := by decide +kernel
theorem dX4_tryColour_94 : decode cX4_tryColour 94 = .ok (.iconst 1, 1) := by decide +kernel
theorem dX4_tryColour_95 : decode cX4_tryColour 95 = .ok (.iadd, 1) := by decide +kernel
theorem dX4_tryColour_96 : decode cX4_tryColour 96 = .ok (.goto 4, 3) := by decide +kernel
theorem dX4_tryColour_99 : decode cX4_tryColour 99 = .ok (.iload_n 3, 1) := by decide +kernel
theorem dX4_tryColour_100 : decode cX4_tryColour 100 = .ok (.iload 4, 2) := by decide +kernel
theorem dX4_tryColour_102 : decode cX4_tryColour 102 = .ok (.invokevirtual 65, 3) := by decide +kernel
end
section
theorem dX4_tryColour_105 : decode cX4_tryColour 105 = .ok (.aload_n 0, 1) := by decide +kernel
theorem dX4_tryColour_106 : decode cX4_tryColour 106 = .ok (.getfield 22, 3) := by decide +kernel
theorem dX4_tryColour_109 : decode cX4_tryColour 109 = .ok (.iload_n 2, 1) := by decide +kernel
theorem dX4_tryColour_110 : decode cX4_tryColour 110 = .ok (.iload 6, 2) := by decide +kernel
theorem dX4_tryColour_112 : decode cX4_tryColour 112 = .ok (.iastore, 1) := by decide +kernel
theorem dX4_tryColour_113 : decode cX4_tryColour 113 = .ok (.return_, 1) := by decide +kernel
theorem dX4_canHave_0 : decode cX4_canHave 0 = .ok (.aload_n 0, 1) := by decide +kernel
theorem dX4_canHave_1 : decode cX4_canHave 1 = .ok (.getfield 15, 3) := by decide +kernel
theorem dX4_canHave_4 : decode cX4_canHave 4 = .ok (.iload_n 1, 1) := by decide +kernel
theorem dX4_canHave_5 : decode cX4_canHave 5 = .ok (.iaload, 1) := by decide +kernel
theorem dX4_canHave_6 : decode cX4_canHave 6 = .ok (.iconst (-1), 1) := by decide +kernel
theorem dX4_canHave_7 : decode cX4_canHave 7 = .ok (.if_icmp .eq 13, 3) := by decide +kernel
theorem dX4_canHave_10 : decode cX4_canHave 10 = .ok (.aload_n 0, 1) := by decide +kernel
theorem dX4_canHave_11 : decode cX4_canHave 11 = .ok (.getfield 15, 3) := by decide +kernel
theorem dX4_canHave_14 : decode cX4_canHave 14 = .ok (.iload_n 1, 1) := by decide +kernel
theorem dX4_canHave_15 : decode cX4_canHave 15 = .ok (.iaload, 1) := by decide +kernel
theorem dX4_canHave_16 : decode cX4_canHave 16 = .ok (.iload_n 2, 1) := by decide +kernel
theorem dX4_canHave_17 : decode cX4_canHave 17 = .ok (.if_icmp .ne 23, 3) := by decide +kernel
theorem dX4_canHave_20 : decode cX4_canHave 20 = .ok (.aload_n 0, 1) := by decide +kernel
theorem dX4_canHave_21 : decode cX4_canHave 21 = .ok (.getfield 9, 3) := by decide +kernel
theorem dX4_canHave_24 : decode cX4_canHave 24 = .ok (.iload_n 1, 1) := by decide +kernel
theorem dX4_canHave_25 : decode cX4_canHave 25 = .ok (.iaload, 1) := by decide +kernel
theorem dX4_canHave_26 : decode cX4_canHave 26 = .ok (.aload_n 0, 1) := by decide +kernel
theorem dX4_canHave_27 : decode cX4_canHave 27 = .ok (.getfield 22, 3) := by decide +kernel
theorem dX4_canHave_30 : decode cX4_canHave 30 = .ok (.iload_n 2, 1) := by decide +kernel
theorem dX4_canHave_31 : decode cX4_canHave 31 = .ok (.iaload, 1) := by decide +kernel
theorem dX4_canHave_32 : decode cX4_canHave 32 = .ok (.iand, 1) := by decide +kernel
theorem dX4_canHave_33 : decode cX4_canHave 33 = .ok (.ifCond .ne 7, 3) := by decide +kernel
theorem dX4_canHave_36 : decode cX4_canHave 36 = .ok (.iconst 1, 1) := by decide +kernel
theorem dX4_canHave_37 : decode cX4_canHave 37 = .ok (.goto 4, 3) := by decide +kernel
theorem dX4_canHave_40 : decode cX4_canHave 40 = .ok (.iconst 0, 1) := by decide +kernel
theorem dX4_canHave_41 : decode cX4_canHave 41 = .ok (.ireturn, 1) := by decide +kernel
theorem dX4_isDeadEnd_0 : decode cX4_isDeadEnd 0 = .ok (.iload_n 1, 1) := by decide +kernel
theorem dX4_isDeadEnd_1 : decode cX4_isDeadEnd 1 = .ok (.istore_n 2, 1) := by decide +kernel
theorem dX4_isDeadEnd_2 : decode cX4_isDeadEnd 2 = .ok (.iload_n 2, 1) := by decide +kernel
theorem dX4_isDeadEnd_3 : decode cX4_isDeadEnd 3 = .ok (.aload_n 0, 1) := by decide +kernel
theorem dX4_isDeadEnd_4 : decode cX4_isDeadEnd 4 = .ok (.getfield 53, 3) := by decide +kernel
theorem dX4_isDeadEnd_7 : decode cX4_isDeadEnd 7 = .ok (.if_icmp .ge 47, 3) := by decide +kernel
theorem dX4_isDeadEnd_10 : decode cX4_isDeadEnd 10 = .ok (.iconst 0, 1) := by decide +kernel
theorem dX4_isDeadEnd_11 : decode cX4_isDeadEnd 11 = .ok (.istore_n 3, 1) := by decide +kernel
theorem dX4_isDeadEnd_12 : decode cX4_isDeadEnd 12 = .ok (.iconst 0, 1) := by decide +kernel
theorem dX4_isDeadEnd_13 : decode cX4_isDeadEnd 13 = .ok (.istore 4, 2) := by decide +kernel
theorem dX4_isDeadEnd_15 : decode cX4_isDeadEnd 15 = .ok (.iload 4, 2) := by decide +kernel
theorem dX4_isDeadEnd_17 : decode cX4_isDeadEnd 17 = .ok (.aload_n 0, 1) := by decide +kernel
theorem dX4_isDeadEnd_18 : decode cX4_isDeadEnd 18 = .ok (.getfield 44, 3) := by decide +kernel
theorem dX4_isDeadEnd_21 : decode cX4_isDeadEnd 21 = .ok (.if_icmp .ge 21, 3) := by decide +kernel
theorem dX4_isDeadEnd_24 : decode cX4_isDeadEnd 24 = .ok (.iload_n 3, 1) := by decide +kernel
theorem dX4_isDeadEnd_25 : decode cX4_isDeadEnd 25 = .ok (.ifCond .ne 17, 3) := by decide +kernel
theorem dX4_isDeadEnd_28 : decode cX4_isDeadEnd 28 = .ok (.aload_n 0, 1) := by decide +kernel
theorem dX4_isDeadEnd_29 : decode cX4_isDeadEnd 29 = .ok (.iload_n 2, 1) := by decide +kernel
theorem dX4_isDeadEnd_30 : decode cX4_isDeadEnd 30 = .ok (.iload 4, 2) := by decide +kernel
theorem dX4_isDeadEnd_32 : decode cX4_isDeadEnd 32 = .ok (.invokevirtual 78, 3) := by decide +kernel
theorem dX4_isDeadEnd_35 : decode cX4_isDeadEnd 35 = .ok (.istore_n 3, 1) := by decide +kernel
theorem dX4_isDeadEnd_36 : decode cX4_isDeadEnd 36 = .ok (.iinc 4 1, 3) := by decide +kernel
theorem dX4_isDeadEnd_39 : decode cX4_isDeadEnd 39 = .ok (.goto (-24), 3) := by decide +kernel
theorem dX4_isDeadEnd_42 : decode cX4_isDeadEnd 42 = .ok (.iload_n 3, 1) := by decide +kernel
theorem dX4_isDeadEnd_43 : decode cX4_isDeadEnd 43 = .ok (.ifCond .ne 5, 3) := by decide +kernel
theorem dX4_isDeadEnd_46 : decode cX4_isDeadEnd 46 = .ok (.iconst 1, 1) := by decide +kernel
theorem dX4_isDeadEnd_47 : decode cX4_isDeadEnd 47 = .ok (.ireturn, 1) := by decide +kernel
theorem dX4_isDeadEnd_48 : decode cX4_isDeadEnd 48 = .ok (.iinc 2 1, 3) := by decide +kernel
theorem dX4_isDeadEnd_51 : decode cX4_isDeadEnd 51 = .ok (.goto (-49), 3) := by decide +kernel
theorem dX4_isDeadEnd_54 : decode cX4_isDeadEnd 54 = .ok (.iconst 0, 1) := by decide +kernel
theorem dX4_isDeadEnd_55 : decode cX4_isDeadEnd 55 = .ok (.ireturn, 1) := by decide +kernel
theorem dX5_init_0 : decode cX5_init 0 = .ok (.aload_n 0, 1) := by decide +kernel
theorem dX5_init_1 : decode cX5_init 1 = .ok (.invokespecial 3, 3) := by decide +kernel
theorem dX5_init_4 : decode cX5_init 4 = .ok (.aload_n 0, 1) := by decide +kernel
theorem dX5_init_5 : decode cX5_init 5 = .ok (.new 9, 3) := by decide +kernel
theorem dX5_init_8 : decode cX5_init 8 = .ok (.dup, 1) := by decide +kernel
theorem dX5_init_9 : decode cX5_init 9 = .ok (.invokespecial 11, 3) := by decide +kernel
theorem dX5_init_12 : decode cX5_init 12 = .ok (.putfield 12, 3) := by decide +kernel
theorem dX5_init_15 : decode cX5_init 15 = .ok (.aload_n 0, 1) := by decide +kernel
theorem dX5_init_16 : decode cX5_init 16 = .ok (.iconst 3, 1) := by decide +kernel
theorem dX5_init_17 : decode cX5_init 17 = .ok (.newarray .long, 2) := by decide +kernel
theorem dX5_init_19 : decode cX5_init 19 = .ok (.putfield 18, 3) := by decide +kernel
theorem dX5_init_22 : decode cX5_init 22 = .ok (.aload_n 0, 1) := by decide +kernel
theorem dX5_init_23 : decode cX5_init 23 = .ok (.iconst 0, 1) := by decide +kernel
theorem dX5_init_24 : decode cX5_init 24 = .ok (.putfield 22, 3) := by decide +kernel
theorem dX5_init_27 : decode cX5_init 27 = .ok (.aload_n 0, 1) := by decide +kernel
theorem dX5_init_28 : decode cX5_init 28 = .ok (.iconst 0, 1) := by decide +kernel
theorem dX5_init_29 : decode cX5_init 29 = .ok (.putfield 26, 3) := by decide +kernel
theorem dX5_init_32 : decode cX5_init 32 = .ok (.aload_n 0, 1) := by decide +kernel
theorem dX5_init_33 : decode cX5_init 33 = .ok (.iconst (-1), 1) := by decide +kernel
theorem dX5_init_34 : decode cX5_init 34 = .ok (.putfield 30, 3) := by decide +kernel
theorem dX5_init_37 : decode cX5_init 37 = .ok (.aload_n 0, 1) := by decide +kernel
theorem dX5_init_38 : decode cX5_init 38 = .ok (.iconst 0, 1) := by decide +kernel
theorem dX5_init_39 : decode cX5_init 39 = .ok (.putfield 33, 3) := by decide +kernel
theorem dX5_init_42 : decode cX5_init 42 = .ok (.aload_n 0, 1) := by decide +kernel
theorem dX5_init_43 : decode cX5_init 43 = .ok (.iconst 0, 1) := by decide +kernel
theorem dX5_init_44 : decode cX5_init 44 = .ok (.putfield 36, 3) := by decide +kernel
theorem dX5_init_47 : decode cX5_init 47 = .ok (.aload_n 0, 1) := by decide +kernel
theorem dX5_init_48 : decode cX5_init 48 = .ok (.lconst 0, 1) := by decide +kernel
theorem dX5_init_49 : decode cX5_init 49 = .ok (.putfield 39, 3) := by decide +kernel
theorem dX5_init_52 : decode cX5_init 52 = .ok (.aload_n 0, 1) := by decide +kernel
theorem dX5_init_53 : decode cX5_init 53 = .ok (.lconst 0, 1) := by decide +kernel
theorem dX5_init_54 : decode cX5_init 54 = .ok (.putfield 43, 3) := by decide +kernel
theorem dX5_init_57 : decode cX5_init 57 = .ok (.return_, 1) := by decide +kernel
theorem dX5_isOpen_0 : decode cX5_isOpen 0 = .ok (.aload_n 0, 1) := by decide +kernel
theorem dX5_isOpen_1 : decode cX5_isOpen 1 = .ok (.getfield 36, 3) := by decide +kernel
theorem dX5_isOpen_4 : decode cX5_isOpen 4 = .ok (.ifCond .ne 13, 3) := by decide +kernel
theorem dX5_isOpen_7 : decode cX5_isOpen 7 = .ok (.aload_n 0, 1) := by decide +kernel
theorem dX5_isOpen_8 : decode cX5_isOpen 8 = .ok (.getfield 12, 3) := by decide +kernel
theorem dX5_isOpen_11 : decode cX5_isOpen 11 = .ok (.invokevirtual 46, 3) := by decide +kernel
theorem dX5_isOpen_14 : decode cX5_isOpen 14 = .ok (.ifCond .eq 7, 3) := by decide +kernel
theorem dX5_isOpen_17 : decode cX5_isOpen 17 = .ok (.iconst 1, 1) := by decide +kernel
theorem dX5_isOpen_18 : decode cX5_isOpen 18 = .ok (.goto 4, 3) := by decide +kernel
theorem dX5_isOpen_21 : decode cX5_isOpen 21 = .ok (.iconst 0, 1) := by decide +kernel
theorem dX5_isOpen_22 : decode cX5_isOpen 22 = .ok (.ireturn, 1) := by decide +kernel
theorem dX5_isNearShape_0 : decode cX5_isNearShape 0 = .ok (.aload_n 0, 1) := by decide +kernel
theorem dX5_isNearShape_1 : decode cX5_isNearShape 1 = .ok (.getfield 33, 3) := by decide +kernel
theorem dX5_isNearShape_4 : decode cX5_isNearShape 4 = .ok (.iload_n 1, 1) := by decide +kernel
theorem dX5_isNearShape_5 : decode cX5_isNearShape 5 = .ok (.ishr, 1) := by decide +kernel
theorem dX5_isNearShape_6 : decode cX5_isNearShape 6 = .ok (.iconst 1, 1) := by decide +kernel
theorem dX5_isNearShape_7 : decode cX5_isNearShape 7 = .ok (.iand, 1) := by decide +kernel
theorem dX5_isNearShape_8 : decode cX5_isNearShape 8 = .ok (.ifCond .eq 7, 3) := by decide +kernel
theorem dX5_isNearShape_11 : decode cX5_isNearShape 11 = .ok (.iconst 1, 1) := by decide +kernel
theorem dX5_isNearShape_12 : decode cX5_isNearShape 12 = .ok (.goto 4, 3) := by decide +kernel
theorem dX5_isNearShape_15 : decode cX5_isNearShape 15 = .ok (.iconst 0, 1) := by decide +kernel
theorem dX5_isNearShape_16 : decode cX5_isNearShape 16 = .ok (.ireturn, 1) := by decide +kernel
theorem dX5_addCorner_0 : decode cX5_addCorner 0 = .ok (.aload_n 0, 1) := by decide +kernel
theorem dX5_addCorner_1 : decode cX5_addCorner 1 = .ok (.getfield 36, 3) := by decide +kernel
theorem dX5_addCorner_4 : decode cX5_addCorner 4 = .ok (.ifCond .eq 57, 3) := by decide +kernel
theorem dX5_addCorner_7 : decode cX5_addCorner 7 = .ok (.aload_n 0, 1) := by decide +kernel
theorem dX5_addCorner_8 : decode cX5_addCorner 8 = .ok (.getfield 12, 3) := by decide +kernel
theorem dX5_addCorner_11 : decode cX5_addCorner 11 = .ok (.new 50, 3) := by decide +kernel
theorem dX5_addCorner_14 : decode cX5_addCorner 14 = .ok (.dup, 1) := by decide +kernel
theorem dX5_addCorner_15 : decode cX5_addCorner 15 = .ok (.aload_n 0, 1) := by decide +kernel
theorem dX5_addCorner_16 : decode cX5_addCorner 16 = .ok (.getfield 39, 3) := by decide +kernel
theorem dX5_addCorner_19 : decode cX5_addCorner 19 = .ok (.lload_n 1, 1) := by decide +kernel
theorem dX5_addCorner_20 : decode cX5_addCorner 20 = .ok (.invokestatic 52, 3) := by decide +kernel
theorem dX5_addCorner_23 : decode cX5_addCorner 23 = .ok (.aload_n 0, 1) := by decide +kernel
theorem dX5_addCorner_24 : decode cX5_addCorner 24 = .ok (.getfield 43, 3) := by decide +kernel
theorem dX5_addCorner_27 : decode cX5_addCorner 27 = .ok (.lload_n 3, 1) := by decide +kernel
theorem dX5_addCorner_28 : decode cX5_addCorner 28 = .ok (.invokestatic 52, 3) := by decide +kernel
theorem dX5_addCorner_31 : decode cX5_addCorner 31 = .ok (.aload_n 0, 1) := by decide +kernel
theorem dX5_addCorner_32 : decode cX5_addCorner 32 = .ok (.getfield 39, 3) := by decide +kernel
theorem dX5_addCorner_35 : decode cX5_addCorner 35 = .ok (.lload_n 1, 1) := by decide +kernel
theorem dX5_addCorner_36 : decode cX5_addCorner 36 = .ok (.invokestatic 58, 3) := by decide +kernel
theorem dX5_addCorner_39 : decode cX5_addCorner 39 = .ok (.aload_n 0, 1) := by decide +kernel
theorem dX5_addCorner_40 : decode cX5_addCorner 40 = .ok (.getfield 43, 3) := by decide +kernel
theorem dX5_addCorner_43 : decode cX5_addCorner 43 = .ok (.lload_n 3, 1) := by decide +kernel
theorem dX5_addCorner_44 : decode cX5_addCorner 44 = .ok (.invokestatic 58, 3) := by decide +kernel
theorem dX5_addCorner_47 : decode cX5_addCorner 47 = .ok (.invokespecial 61, 3) := by decide +kernel
theorem dX5_addCorner_50 : decode cX5_addCorner 50 = .ok (.invokevirtual 64, 3) := by decide +kernel
theorem dX5_addCorner_53 : decode cX5_addCorner 53 = .ok (.pop, 1) := by decide +kernel
theorem dX5_addCorner_54 : decode cX5_addCorner 54 = .ok (.aload_n 0, 1) := by decide +kernel
theorem dX5_addCorner_55 : decode cX5_addCorner 55 = .ok (.iconst 0, 1) := by decide +kernel
theorem dX5_addCorner_56 : decode cX5_addCorner 56 = .ok (.putfield 36, 3) := by decide +kernel
theorem dX5_addCorner_59 : decode cX5_addCorner 59 = .ok (.iconst 1, 1) := by decide +kernel
theorem dX5_addCorner_60 : decode cX5_addCorner 60 = .ok (.ireturn, 1) := by decide +kernel
theorem dX5_addCorner_61 : decode cX5_addCorner 61 = .ok (.aload_n 0, 1) := by decide +kernel
theorem dX5_addCorner_62 : decode cX5_addCorner 62 = .ok (.lload_n 1, 1) := by decide +kernel
theorem dX5_addCorner_63 : decode cX5_addCorner 63 = .ok (.putfield 39, 3) := by decide +kernel
theorem dX5_addCorner_66 : decode cX5_addCorner 66 = .ok (.aload_n 0, 1) := by decide +kernel
theorem dX5_addCorner_67 : decode cX5_addCorner 67 = .ok (.lload_n 3, 1) := by decide +kernel
theorem dX5_addCorner_68 : decode cX5_addCorner 68 = .ok (.putfield 43, 3) := by decide +kernel
theorem dX5_addCorner_71 : decode cX5_addCorner 71 = .ok (.aload_n 0, 1) := by decide +kernel
theorem dX5_addCorner_72 : decode cX5_addCorner 72 = .ok (.iconst 1, 1) := by decide +kernel
theorem dX5_addCorner_73 : decode cX5_addCorner 73 = .ok (.putfield 36, 3) := by decide +kernel
theorem dX5_addCorner_76 : decode cX5_addCorner 76 = .ok (.iconst 0, 1) := by decide +kernel
theorem dX5_addCorner_77 : decode cX5_addCorner 77 = .ok (.ireturn, 1) := by decide +kernel
theorem dX5_hasStitch_0 : decode cX5_hasStitch 0 = .ok (.aload_n 0, 1) := by decide +kernel
theorem dX5_hasStitch_1 : decode cX5_hasStitch 1 = .ok (.getfield 26, 3) := by decide +kernel
theorem dX5_hasStitch_4 : decode cX5_hasStitch 4 = .ok (.iload_n 3, 1) := by decide +kernel
theorem dX5_hasStitch_5 : decode cX5_hasStitch 5 = .ok (.if_icmp .eq 5, 3) := by decide +kernel
theorem dX5_hasStitch_8 : decode cX5_hasStitch 8 = .ok (.iconst 0, 1) := by decide +kernel
theorem dX5_hasStitch_9 : decode cX5_hasStitch 9 = .ok (.ireturn, 1) := by decide +kernel
theorem dX5_hasStitch_10 : decode cX5_hasStitch 10 = .ok (.iconst 0, 1) := by decide +kernel
theorem dX5_hasStitch_11 : decode cX5_hasStitch 11 = .ok (.istore 4, 2) := by decide +kernel
theorem dX5_hasStitch_13 : decode cX5_hasStitch 13 = .ok (.iload 4, 2) := by decide +kernel
theorem dX5_hasStitch_15 : decode cX5_hasStitch 15 = .ok (.aload_n 0, 1) := by decide +kernel
theorem dX5_hasStitch_16 : decode cX5_hasStitch 16 = .ok (.getfield 22, 3) := by decide +kernel
theorem dX5_hasStitch_19 : decode cX5_hasStitch 19 = .ok (.if_icmp .ge 23, 3) := by decide +kernel
theorem dX5_hasStitch_22 : decode cX5_hasStitch 22 = .ok (.aload_n 0, 1) := by decide +kernel
theorem dX5_hasStitch_23 : decode cX5_hasStitch 23 = .ok (.getfield 18, 3) := by decide +kernel
theorem dX5_hasStitch_26 : decode cX5_hasStitch 26 = .ok (.iload 4, 2) := by decide +kernel
theorem dX5_hasStitch_28 : decode cX5_hasStitch 28 = .ok (.laload, 1) := by decide +kernel
theorem dX5_hasStitch_29 : decode cX5_hasStitch 29 = .ok (.lload_n 1, 1) := by decide +kernel
theorem dX5_hasStitch_30 : decode cX5_hasStitch 30 = .ok (.lcmp, 1) := by decide +kernel
theorem dX5_hasStitch_31 : decode cX5_hasStitch 31 = .ok (.ifCond .ne 5, 3) := by decide +kernel
theorem dX5_hasStitch_34 : decode cX5_hasStitch 34 = .ok (.iconst 1, 1) := by decide +kernel
theorem dX5_hasStitch_35 : decode cX5_hasStitch 35 = .ok (.ireturn, 1) := by decide +kernel
theorem dX5_hasStitch_36 : decode cX5_hasStitch 36 = .ok (.iinc 4 1, 3) := by decide +kernel
theorem dX5_hasStitch_39 : decode cX5_hasStitch 39 = .ok (.goto (-26), 3) := by decide +kernel
theorem dX5_hasStitch_42 : decode cX5_hasStitch 42 = .ok (.iconst 0, 1) := by decide +kernel
theorem dX5_hasStitch_43 : decode cX5_hasStitch 43 = .ok (.ireturn, 1) := by decide +kernel
theorem dX5_addStitch_0 : decode cX5_addStitch 0 = .ok (.aload_n 0, 1) := by decide +kernel
theorem dX5_addStitch_1 : decode cX5_addStitch 1 = .ok (.getfield 22, 3) := by decide +kernel
theorem dX5_addStitch_4 : decode cX5_addStitch 4 = .ok (.iconst 3, 1) := by decide +kernel
theorem dX5_addStitch_5 : decode cX5_addStitch 5 = .ok (.if_icmp .lt 4, 3) := by decide +kernel
theorem dX5_addStitch_8 : decode cX5_addStitch 8 = .ok (.return_, 1) := by decide +kernel
theorem dX5_addStitch_9 : decode cX5_addStitch 9 = .ok (.aload_n 0, 1) := by decide +kernel
theorem dX5_addStitch_10 : decode cX5_addStitch 10 = .ok (.getfield 22, 3) := by decide +kernel
theorem dX5_addStitch_13 : decode cX5_addStitch 13 = .ok (.istore 4, 2) := by decide +kernel
theorem dX5_addStitch_15 : decode cX5_addStitch 15 = .ok (.iload 4, 2) := by decide +kernel
theorem dX5_addStitch_17 : decode cX5_addStitch 17 = .ok (.ifCond .le 39, 3) := by decide +kernel
theorem dX5_addStitch_20 : decode cX5_addStitch 20 = .ok (.aload_n 0, 1) := by decide +kernel
theorem dX5_addStitch_21 : decode cX5_addStitch 21 = .ok (.getfield 18, 3) := by decide +kernel
theorem dX5_addStitch_24 : decode cX5_addStitch 24 = .ok (.iload 4, 2) := by decide +kernel
theorem dX5_addStitch_26 : decode cX5_addStitch 26 = .ok (.iconst 1, 1) := by decide +kernel
theorem dX5_addStitch_27 : decode cX5_addStitch 27 = .ok (.isub, 1) := by decide +kernel
theorem dX5_addStitch_28 : decode cX5_addStitch 28 = .ok (.laload, 1) := by decide +kernel
theorem dX5_addStitch_29 : decode cX5_addStitch 29 = .ok (.lload_n 1, 1) := by decide +kernel
theorem dX5_addStitch_30 : decode cX5_addStitch 30 = .ok (.lcmp, 1) := by decide +kernel
theorem dX5_addStitch_31 : decode cX5_addStitch 31 = .ok (.ifCond .le 25, 3) := by decide +kernel
theorem dX5_addStitch_34 : decode cX5_addStitch 34 = .ok (.aload_n 0, 1) := by decide +kernel
theorem dX5_addStitch_35 : decode cX5_addStitch 35 = .ok (.getfield 18, 3) := by decide +kernel
theorem dX5_addStitch_38 : decode cX5_addStitch 38 = .ok (.iload 4, 2) := by decide +kernel
theorem dX5_addStitch_40 : decode cX5_addStitch 40 = .ok (.aload_n 0, 1) := by decide +kernel
theorem dX5_addStitch_41 : decode cX5_addStitch 41 = .ok (.getfield 18, 3) := by decide +kernel
theorem dX5_addStitch_44 : decode cX5_addStitch 44 = .ok (.iload 4, 2) := by decide +kernel
theorem dX5_addStitch_46 : decode cX5_addStitch 46 = .ok (.iconst 1, 1) := by decide +kernel
theorem dX5_addStitch_47 : decode cX5_addStitch 47 = .ok (.isub, 1) := by decide +kernel
theorem dX5_addStitch_48 : decode cX5_addStitch 48 = .ok (.laload, 1) := by decide +kernel
theorem dX5_addStitch_49 : decode cX5_addStitch 49 = .ok (.lastore, 1) := by decide +kernel
theorem dX5_addStitch_50 : decode cX5_addStitch 50 = .ok (.iinc 4 (-1), 3) := by decide +kernel
theorem dX5_addStitch_53 : decode cX5_addStitch 53 = .ok (.goto (-38), 3) := by decide +kernel
theorem dX5_addStitch_56 : decode cX5_addStitch 56 = .ok (.aload_n 0, 1) := by decide +kernel
theorem dX5_addStitch_57 : decode cX5_addStitch 57 = .ok (.getfield 18, 3) := by decide +kernel
theorem dX5_addStitch_60 : decode cX5_addStitch 60 = .ok (.iload 4, 2) := by decide +kernel
theorem dX5_addStitch_62 : decode cX5_addStitch 62 = .ok (.lload_n 1, 1) := by decide +kernel
theorem dX5_addStitch_63 : decode cX5_addStitch 63 = .ok (.lastore, 1) := by decide +kernel
theorem dX5_addStitch_64 : decode cX5_addStitch 64 = .ok (.aload_n 0, 1) := by decide +kernel
theorem dX5_addStitch_65 : decode cX5_addStitch 65 = .ok (.dup, 1) := by decide +kernel
theorem dX5_addStitch_66 : decode cX5_addStitch 66 = .ok (.getfield 22, 3) := by decide +kernel
theorem dX5_addStitch_69 : decode cX5_addStitch 69 = .ok (.iconst 1, 1) := by decide +kernel
theorem dX5_addStitch_70 : decode cX5_addStitch 70 = .ok (.iadd, 1) := by decide +kernel
theorem dX5_addStitch_71 : decode cX5_addStitch 71 = .ok (.putfield 22, 3) := by decide +kernel
theorem dX5_addStitch_74 : decode cX5_addStitch 74 = .ok (.aload_n 0, 1) := by decide +kernel
theorem dX5_addStitch_75 : decode cX5_addStitch 75 = .ok (.iload_n 3, 1) := by decide +kernel
theorem dX5_addStitch_76 : decode cX5_addStitch 76 = .ok (.putfield 26, 3) := by decide +kernel
theorem dX5_addStitch_79 : decode cX5_addStitch 79 = .ok (.return_, 1) := by decide +kernel
theorem dX5_pieceBoxes_0 : decode cX5_pieceBoxes 0 = .ok (.aload_n 0, 1) := by decide +kernel
theorem dX5_pieceBoxes_1 : decode cX5_pieceBoxes 1 = .ok (.getfield 22, 3) := by decide +kernel
theorem dX5_pieceBoxes_4 : decode cX5_pieceBoxes 4 = .ok (.ifCond .eq 13, 3) := by decide +kernel
theorem dX5_pieceBoxes_7 : decode cX5_pieceBoxes 7 = .ok (.aload_n 0, 1) := by decide +kernel
theorem dX5_pieceBoxes_8 : decode cX5_pieceBoxes 8 = .ok (.getfield 12, 3) := by decide +kernel
theorem dX5_pieceBoxes_11 : decode cX5_pieceBoxes 11 = .ok (.invokevirtual 46, 3) := by decide +kernel
theorem dX5_pieceBoxes_14 : decode cX5_pieceBoxes 14 = .ok (.ifCond .eq 8, 3) := by decide +kernel
theorem dX5_pieceBoxes_17 : decode cX5_pieceBoxes 17 = .ok (.aload_n 0, 1) := by decide +kernel
theorem dX5_pieceBoxes_18 : decode cX5_pieceBoxes 18 = .ok (.getfield 12, 3) := by decide +kernel
theorem dX5_pieceBoxes_21 : decode cX5_pieceBoxes 21 = .ok (.areturn, 1) := by decide +kernel
theorem dX5_pieceBoxes_22 : decode cX5_pieceBoxes 22 = .ok (.new 9, 3) := by decide +kernel
theorem dX5_pieceBoxes_25 : decode cX5_pieceBoxes 25 = .ok (.dup, 1) := by decide +kernel
theorem dX5_pieceBoxes_26 : decode cX5_pieceBoxes 26 = .ok (.invokespecial 11, 3) := by decide +kernel
theorem dX5_pieceBoxes_29 : decode cX5_pieceBoxes 29 = .ok (.astore_n 2, 1) := by decide +kernel
theorem dX5_pieceBoxes_30 : decode cX5_pieceBoxes 30 = .ok (.aload_n 2, 1) := by decide +kernel
theorem dX5_pieceBoxes_31 : decode cX5_pieceBoxes 31 = .ok (.aload_n 0, 1) := by decide +kernel
theorem dX5_pieceBoxes_32 : decode cX5_pieceBoxes 32 = .ok (.aload_n 0, 1) := by decide +kernel
theorem dX5_pieceBoxes_33 : decode cX5_pieceBoxes 33 = .ok (.getfield 12, 3) := by decide +kernel
theorem dX5_pieceBoxes_36 : decode cX5_pieceBoxes 36 = .ok (.iconst 0, 1) := by decide +kernel
theorem dX5_pieceBoxes_37 : decode cX5_pieceBoxes 37 = .ok (.invokevirtual 68, 3) := by decide +kernel
theorem dX5_pieceBoxes_40 : decode cX5_pieceBoxes 40 = .ok (.checkcast 50, 3) := by decide +kernel
theorem dX5_pieceBoxes_43 : decode cX5_pieceBoxes 43 = .ok (.iload_n 1, 1) := by decide +kernel
theorem dX5_pieceBoxes_44 : decode cX5_pieceBoxes 44 = .ok (.invokevirtual 72, 3) := by decide +kernel
theorem dX5_pieceBoxes_47 : decode cX5_pieceBoxes 47 = .ok (.invokevirtual 64, 3) := by decide +kernel
theorem dX5_pieceBoxes_50 : decode cX5_pieceBoxes 50 = .ok (.pop, 1) := by decide +kernel
theorem dX5_pieceBoxes_51 : decode cX5_pieceBoxes 51 = .ok (.aload_n 2, 1) := by decide +kernel
theorem dX5_pieceBoxes_52 : decode cX5_pieceBoxes 52 = .ok (.areturn, 1) := by decide +kernel
theorem dX5_cutBox_0 : decode cX5_cutBox 0 = .ok (.iload_n 2, 1) := by decide +kernel
theorem dX5_cutBox_1 : decode cX5_cutBox 1 = .ok (.ifCond .le 15, 3) := by decide +kernel
theorem dX5_cutBox_4 : decode cX5_cutBox 4 = .ok (.iload_n 2, 1) := by decide +kernel
theorem dX5_cutBox_5 : decode cX5_cutBox 5 = .ok (.aload_n 0, 1) := by decide +kernel
theorem dX5_cutBox_6 : decode cX5_cutBox 6 = .ok (.getfield 22, 3) := by decide +kernel
theorem dX5_cutBox_9 : decode cX5_cutBox 9 = .ok (.if_icmp .gt 7, 3) := by decide +kernel
theorem dX5_cutBox_12 : decode cX5_cutBox 12 = .ok (.iconst 1, 1) := by decide +kernel
theorem dX5_cutBox_13 : decode cX5_cutBox 13 = .ok (.goto 4, 3) := by decide +kernel
theorem dX5_cutBox_16 : decode cX5_cutBox 16 = .ok (.iconst 0, 1) := by decide +kernel
theorem dX5_cutBox_17 : decode cX5_cutBox 17 = .ok (.istore_n 3, 1) := by decide +kernel
theorem dX5_cutBox_18 : decode cX5_cutBox 18 = .ok (.iload_n 2, 1) := by decide +kernel
theorem dX5_cutBox_19 : decode cX5_cutBox 19 = .ok (.ifCond .lt 15, 3) := by decide +kernel
theorem dX5_cutBox_22 : decode cX5_cutBox 22 = .ok (.iload_n 2, 1) := by decide +kernel
theorem dX5_cutBox_23 : decode cX5_cutBox 23 = .ok (.aload_n 0, 1) := by decide +kernel
theorem dX5_cutBox_24 : decode cX5_cutBox 24 = .ok (.getfield 22, 3) := by decide +kernel
theorem dX5_cutBox_27 : decode cX5_cutBox 27 = .ok (.if_icmp .ge 7, 3) := by decide +kernel
theorem dX5_cutBox_30 : decode cX5_cutBox 30 = .ok (.iconst 1, 1) := by decide +kernel
theorem dX5_cutBox_31 : decode cX5_cutBox 31 = .ok (.goto 4, 3) := by decide +kernel
theorem dX5_cutBox_34 : decode cX5_cutBox 34 = .ok (.iconst 0, 1) := by decide +kernel
theorem dX5_cutBox_35 : decode cX5_cutBox 35 = .ok (.istore 4, 2) := by decide +kernel
theorem dX5_cutBox_37 : decode cX5_cutBox 37 = .ok (.aload_n 0, 1) := by decide +kernel
theorem dX5_cutBox_38 : decode cX5_cutBox 38 = .ok (.getfield 26, 3) := by decide +kernel
theorem dX5_cutBox_41 : decode cX5_cutBox 41 = .ok (.ifCond .eq 56, 3) := by decide +kernel
theorem dX5_cutBox_44 : decode cX5_cutBox 44 = .ok (.new 50, 3) := by decide +kernel
theorem dX5_cutBox_47 : decode cX5_cutBox 47 = .ok (.dup, 1) := by decide +kernel
theorem dX5_cutBox_48 : decode cX5_cutBox 48 = .ok (.iload_n 3, 1) := by decide +kernel
theorem dX5_cutBox_49 : decode cX5_cutBox 49 = .ok (.ifCond .eq 14, 3) := by decide +kernel
theorem dX5_cutBox_52 : decode cX5_cutBox 52 = .ok (.aload_n 0, 1) := by decide +kernel
theorem dX5_cutBox_53 : decode cX5_cutBox 53 = .ok (.getfield 18, 3) := by decide +kernel
theorem dX5_cutBox_56 : decode cX5_cutBox 56 = .ok (.iload_n 2, 1) := by decide +kernel
theorem dX5_cutBox_57 : decode cX5_cutBox 57 = .ok (.iconst 1, 1) := by decide +kernel
theorem dX5_cutBox_58 : decode cX5_cutBox 58 = .ok (.isub, 1) := by decide +kernel
theorem dX5_cutBox_59 : decode cX5_cutBox 59 = .ok (.laload, 1) := by decide +kernel
theorem dX5_cutBox_60 : decode cX5_cutBox 60 = .ok (.goto 7, 3) := by decide +kernel
theorem dX5_cutBox_63 : decode cX5_cutBox 63 = .ok (.aload_n 1, 1) := by decide +kernel
theorem dX5_cutBox_64 : decode cX5_cutBox 64 = .ok (.getfield 76, 3) := by decide +kernel
theorem dX5_cutBox_67 : decode cX5_cutBox 67 = .ok (.aload_n 1, 1) := by decide +kernel
theorem dX5_cutBox_68 : decode cX5_cutBox 68 = .ok (.getfield 79, 3) := by decide +kernel
theorem dX5_cutBox_71 : decode cX5_cutBox 71 = .ok (.iload 4, 2) := by decide +kernel
theorem dX5_cutBox_73 : decode cX5_cutBox 73 = .ok (.ifCond .eq 12, 3) := by decide +kernel
theorem dX5_cutBox_76 : decode cX5_cutBox 76 = .ok (.aload_n 0, 1) := by decide +kernel
theorem dX5_cutBox_77 : decode cX5_cutBox 77 = .ok (.getfield 18, 3) := by decide +kernel
theorem dX5_cutBox_80 : decode cX5_cutBox 80 = .ok (.iload_n 2, 1) := by decide +kernel
theorem dX5_cutBox_81 : decode cX5_cutBox 81 = .ok (.laload, 1) := by decide +kernel
theorem dX5_cutBox_82 : decode cX5_cutBox 82 = .ok (.goto 7, 3) := by decide +kernel
theorem dX5_cutBox_85 : decode cX5_cutBox 85 = .ok (.aload_n 1, 1) := by decide +kernel
theorem dX5_cutBox_86 : decode cX5_cutBox 86 = .ok (.getfield 82, 3) := by decide +kernel
theorem dX5_cutBox_89 : decode cX5_cutBox 89 = .ok (.aload_n 1, 1) := by decide +kernel
theorem dX5_cutBox_90 : decode cX5_cutBox 90 = .ok (.getfield 85, 3) := by decide +kernel
theorem dX5_cutBox_93 : decode cX5_cutBox 93 = .ok (.invokespecial 61, 3) := by decide +kernel
theorem dX5_cutBox_96 : decode cX5_cutBox 96 = .ok (.areturn, 1) := by decide +kernel
theorem dX5_cutBox_97 : decode cX5_cutBox 97 = .ok (.new 50, 3) := by decide +kernel
theorem dX5_cutBox_100 : decode cX5_cutBox 100 = .ok (.dup, 1) := by decide +kernel
theorem dX5_cutBox_101 : decode cX5_cutBox 101 = .ok (.aload_n 1, 1) := by decide +kernel
theorem dX5_cutBox_102 : decode cX5_cutBox 102 = .ok (.getfield 76, 3) := by decide +kernel
theorem dX5_cutBox_105 : decode cX5_cutBox 105 = .ok (.iload_n 3, 1) := by decide +kernel
theorem dX5_cutBox_106 : decode cX5_cutBox 106 = .ok (.ifCond .eq 14, 3) := by decide +kernel
theorem dX5_cutBox_109 : decode cX5_cutBox 109 = .ok (.aload_n 0, 1) := by decide +kernel
theorem dX5_cutBox_110 : decode cX5_cutBox 110 = .ok (.getfield 18, 3) := by decide +kernel
theorem dX5_cutBox_113 : decode cX5_cutBox 113 = .ok (.iload_n 2, 1) := by decide +kernel
theorem dX5_cutBox_114 : decode cX5_cutBox 114 = .ok (.iconst 1, 1) := by decide +kernel
theorem dX5_cutBox_115 : decode cX5_cutBox 115 = .ok (.isub, 1) := by decide +kernel
theorem dX5_cutBox_116 : decode cX5_cutBox 116 = .ok (.laload, 1) := by decide +kernel
theorem dX5_cutBox_117 : decode cX5_cutBox 117 = .ok (.goto 7, 3) := by decide +kernel
theorem dX5_cutBox_120 : decode cX5_cutBox 120 = .ok (.aload_n 1, 1) := by decide +kernel
theorem dX5_cutBox_121 : decode cX5_cutBox 121 = .ok (.getfield 79, 3) := by decide +kernel
theorem dX5_cutBox_124 : decode cX5_cutBox 124 = .ok (.aload_n 1, 1) := by decide +kernel
theorem dX5_cutBox_125 : decode cX5_cutBox 125 = .ok (.getfield 82, 3) := by decide +kernel
theorem dX5_cutBox_128 : decode cX5_cutBox 128 = .ok (.iload 4, 2) := by decide +kernel
theorem dX5_cutBox_130 : decode cX5_cutBox 130 = .ok (.ifCond .eq 12, 3) := by decide +kernel
theorem dX5_cutBox_133 : decode cX5_cutBox 133 = .ok (.aload_n 0, 1) := by decide +kernel
theorem dX5_cutBox_134 : decode cX5_cutBox 134 = .ok (.getfield 18, 3) := by decide +kernel
theorem dX5_cutBox_137 : decode cX5_cutBox 137 = .ok (.iload_n 2, 1) := by decide +kernel
theorem dX5_cutBox_138 : decode cX5_cutBox 138 = .ok (.laload, 1) := by decide +kernel
theorem dX5_cutBox_139 : decode cX5_cutBox 139 = .ok (.goto 7, 3) := by decide +kernel
theorem dX5_cutBox_142 : decode cX5_cutBox 142 = .ok (.aload_n 1, 1) := by decide +kernel
theorem dX5_cutBox_143 : decode cX5_cutBox 143 = .ok (.getfield 85, 3) := by decide +kernel
theorem dX5_cutBox_146 : decode cX5_cutBox 146 = .ok (.invokespecial 61, 3) := by decide +kernel
theorem dX5_cutBox_149 : decode cX5_cutBox 149 = .ok (.areturn, 1) := by decide +kernel
theorem dX6_init_0 : decode cX6_init 0 = .ok (.aload_n 0, 1) := by decide +kernel
theorem dX6_init_1 : decode cX6_init 1 = .ok (.invokespecial 1, 3) := by decide +kernel
theorem dX6_init_4 : decode cX6_init 4 = .ok (.aload_n 0, 1) := by decide +kernel
theorem dX6_init_5 : decode cX6_init 5 = .ok (.new 7, 3) := by decide +kernel
theorem dX6_init_8 : decode cX6_init 8 = .ok (.dup, 1) := by decide +kernel
theorem dX6_init_9 : decode cX6_init 9 = .ok (.invokespecial 9, 3) := by decide +kernel
theorem dX6_init_12 : decode cX6_init 12 = .ok (.putfield 10, 3) := by decide +kernel
theorem dX6_init_15 : decode cX6_init 15 = .ok (.aload_n 0, 1) := by decide +kernel
theorem dX6_init_16 : decode cX6_init 16 = .ok (.bipush 12, 2) := by decide +kernel
theorem dX6_init_18 : decode cX6_init 18 = .ok (.newarray .int, 2) := by decide +kernel
theorem dX6_init_20 : decode cX6_init 20 = .ok (.putfield 16, 3) := by decide +kernel
theorem dX6_init_23 : decode cX6_init 23 = .ok (.aload_n 0, 1) := by decide +kernel
theorem dX6_init_24 : decode cX6_init 24 = .ok (.iconst 0, 1) := by decide +kernel
theorem dX6_init_25 : decode cX6_init 25 = .ok (.putfield 20, 3) := by decide +kernel
theorem dX6_init_28 : decode cX6_init 28 = .ok (.aload_n 0, 1) := by decide +kernel
theorem dX6_init_29 : decode cX6_init 29 = .ok (.aconst_null, 1) := by decide +kernel
theorem dX6_init_30 : decode cX6_init 30 = .ok (.putfield 24, 3) := by decide +kernel
theorem dX6_init_33 : decode cX6_init 33 = .ok (.aload_n 0, 1) := by decide +kernel
theorem dX6_init_34 : decode cX6_init 34 = .ok (.iconst 0, 1) := by decide +kernel
theorem dX6_init_35 : decode cX6_init 35 = .ok (.putfield 28, 3) := by decide +kernel
theorem dX6_init_38 : decode cX6_init 38 = .ok (.lconst 1, 1) := by decide +kernel
theorem dX6_init_39 : decode cX6_init 39 = .ok (.ldc2_w 32, 3) := by decide +kernel
theorem dX6_init_42 : decode cX6_init 42 = .ok (.lload_n 1, 1) := by decide +kernel
theorem dX6_init_43 : decode cX6_init 43 = .ok (.invokestatic 34, 3) := by decide +kernel
theorem dX6_init_46 : decode cX6_init 46 = .ok (.invokestatic 40, 3) := by decide +kernel
theorem dX6_init_49 : decode cX6_init 49 = .ok (.lstore_n 3, 1) := by decide +kernel
theorem dX6_init_50 : decode cX6_init 50 = .ok (.aload_n 0, 1) := by decide +kernel
theorem dX6_init_51 : decode cX6_init 51 = .ok (.lload_n 3, 1) := by decide +kernel
theorem dX6_init_52 : decode cX6_init 52 = .ok (.lload_n 3, 1) := by decide +kernel
theorem dX6_init_53 : decode cX6_init 53 = .ok (.lmul, 1) := by decide +kernel
theorem dX6_init_54 : decode cX6_init 54 = .ok (.putfield 43, 3) := by decide +kernel
theorem dX6_init_57 : decode cX6_init 57 = .ok (.return_, 1) := by decide +kernel
theorem dX6_shape_0 : decode cX6_shape 0 = .ok (.aload_n 0, 1) := by decide +kernel
theorem dX6_shape_1 : decode cX6_shape 1 = .ok (.getfield 10, 3) := by decide +kernel
theorem dX6_shape_4 : decode cX6_shape 4 = .ok (.invokevirtual 47, 3) := by decide +kernel
theorem dX6_shape_7 : decode cX6_shape 7 = .ok (.bipush 10, 2) := by decide +kernel
theorem dX6_shape_9 : decode cX6_shape 9 = .ok (.if_icmp .ge 12, 3) := by decide +kernel
theorem dX6_shape_12 : decode cX6_shape 12 = .ok (.aload_n 0, 1) := by decide +kernel
theorem dX6_shape_13 : decode cX6_shape 13 = .ok (.invokevirtual 51, 3) := by decide +kernel
theorem dX6_shape_16 : decode cX6_shape 16 = .ok (.bipush 12, 2) := by decide +kernel
theorem dX6_shape_18 : decode cX6_shape 18 = .ok (.if_icmp .lt 13, 3) := by decide +kernel
theorem dX6_shape_21 : decode cX6_shape 21 = .ok (.new 54, 3) := by decide +kernel
theorem dX6_shape_24 : decode cX6_shape 24 = .ok (.dup, 1) := by decide +kernel
theorem dX6_shape_25 : decode cX6_shape 25 = .ok (.ldc 56, 2) := by decide +kernel
theorem dX6_shape_27 : decode cX6_shape 27 = .ok (.invokespecial 58, 3) := by decide +kernel
theorem dX6_shape_30 : decode cX6_shape 30 = .ok (.athrow, 1) := by decide +kernel
theorem dX6_shape_31 : decode cX6_shape 31 = .ok (.aload_n 0, 1) := by decide +kernel
theorem dX6_shape_32 : decode cX6_shape 32 = .ok (.getfield 10, 3) := by decide +kernel
theorem dX6_shape_35 : decode cX6_shape 35 = .ok (.new 61, 3) := by decide +kernel
theorem dX6_shape_38 : decode cX6_shape 38 = .ok (.dup, 1) := by decide +kernel
theorem dX6_shape_39 : decode cX6_shape 39 = .ok (.invokespecial 63, 3) := by decide +kernel
theorem dX6_shape_42 : decode cX6_shape 42 = .ok (.invokevirtual 64, 3) := by decide +kernel
theorem dX6_shape_45 : decode cX6_shape 45 = .ok (.pop, 1) := by decide +kernel
theorem dX6_shape_46 : decode cX6_shape 46 = .ok (.aload_n 0, 1) := by decide +kernel
theorem dX6_shape_47 : decode cX6_shape 47 = .ok (.getfield 10, 3) := by decide +kernel
theorem dX6_shape_50 : decode cX6_shape 50 = .ok (.invokevirtual 47, 3) := by decide +kernel
theorem dX6_shape_53 : decode cX6_shape 53 = .ok (.iconst 1, 1) := by decide +kernel
theorem dX6_shape_54 : decode cX6_shape 54 = .ok (.isub, 1) := by decide +kernel
theorem dX6_shape_55 : decode cX6_shape 55 = .ok (.ireturn, 1) := by decide +kernel
theorem dX6_corner_0 : decode cX6_corner 0 = .ok (.aload_n 0, 1) := by decide +kernel
theorem dX6_corner_1 : decode cX6_corner 1 = .ok (.iload_n 1, 1) := by decide +kernel
theorem dX6_corner_2 : decode cX6_corner 2 = .ok (.invokevirtual 68, 3) := by decide +kernel
theorem dX6_corner_5 : decode cX6_corner 5 = .ok (.aload_n 0, 1) := by decide +kernel
theorem dX6_corner_6 : decode cX6_corner 6 = .ok (.getfield 10, 3) := by decide +kernel
theorem dX6_corner_9 : decode cX6_corner 9 = .ok (.iload_n 1, 1) := by decide +kernel
theorem dX6_corner_10 : decode cX6_corner 10 = .ok (.invokevirtual 72, 3) := by decide +kernel
theorem dX6_corner_13 : decode cX6_corner 13 = .ok (.checkcast 61, 3) := by decide +kernel
theorem dX6_corner_16 : decode cX6_corner 16 = .ok (.astore 6, 2) := by decide +kernel
theorem dX6_corner_18 : decode cX6_corner 18 = .ok (.aload 6, 2) := by decide +kernel
theorem dX6_corner_20 : decode cX6_corner 20 = .ok (.getfield 76, 3) := by decide +kernel
theorem dX6_corner_23 : decode cX6_corner 23 = .ok (.invokevirtual 47, 3) := by decide +kernel
theorem dX6_corner_26 : decode cX6_corner 26 = .ok (.iconst 4, 1) := by decide +kernel
theorem dX6_corner_27 : decode cX6_corner 27 = .ok (.if_icmp .ge 11, 3) := by decide +kernel
theorem dX6_corner_30 : decode cX6_corner 30 = .ok (.aload 6, 2) := by decide +kernel
theorem dX6_corner_32 : decode cX6_corner 32 = .ok (.getfield 79, 3) := by decide +kernel
theorem dX6_corner_35 : decode cX6_corner 35 = .ok (.ifCond .le 13, 3) := by decide +kernel
theorem dX6_corner_38 : decode cX6_corner 38 = .ok (.new 54, 3) := by decide +kernel
theorem dX6_corner_41 : decode cX6_corner 41 = .ok (.dup, 1) := by decide +kernel
theorem dX6_corner_42 : decode cX6_corner 42 = .ok (.ldc 82, 2) := by decide +kernel
theorem dX6_corner_44 : decode cX6_corner 44 = .ok (.invokespecial 58, 3) := by decide +kernel
theorem dX6_corner_47 : decode cX6_corner 47 = .ok (.athrow, 1) := by decide +kernel
theorem dX6_corner_48 : decode cX6_corner 48 = .ok (.lload_n 2, 1) := by decide +kernel
theorem dX6_corner_49 : decode cX6_corner 49 = .ok (.invokestatic 84, 3) := by decide +kernel
theorem dX6_corner_52 : decode cX6_corner 52 = .ok (.ifCond .ne 11, 3) := by decide +kernel
theorem dX6_corner_55 : decode cX6_corner 55 = .ok (.lload 4, 2) := by decide +kernel
theorem dX6_corner_57 : decode cX6_corner 57 = .ok (.invokestatic 84, 3) := by decide +kernel
theorem dX6_corner_60 : decode cX6_corner 60 = .ok (.ifCond .eq 13, 3) := by decide +kernel
theorem dX6_corner_63 : decode cX6_corner 63 = .ok (.new 88, 3) := by decide +kernel
theorem dX6_corner_66 : decode cX6_corner 66 = .ok (.dup, 1) := by decide +kernel
theorem dX6_corner_67 : decode cX6_corner 67 = .ok (.ldc 90, 2) := by decide +kernel
theorem dX6_corner_69 : decode cX6_corner 69 = .ok (.invokespecial 92, 3) := by decide +kernel
theorem dX6_corner_72 : decode cX6_corner 72 = .ok (.athrow, 1) := by decide +kernel
theorem dX6_corner_73 : decode cX6_corner 73 = .ok (.aload 6, 2) := by decide +kernel
theorem dX6_corner_75 : decode cX6_corner 75 = .ok (.lload_n 2, 1) := by decide +kernel
theorem dX6_corner_76 : decode cX6_corner 76 = .ok (.lload 4, 2) := by decide +kernel
theorem dX6_corner_78 : decode cX6_corner 78 = .ok (.invokevirtual 93, 3) := by decide +kernel
theorem dX6_corner_81 : decode cX6_corner 81 = .ok (.istore 7, 2) := by decide +kernel
theorem dX6_corner_83 : decode cX6_corner 83 = .ok (.iload 7, 2) := by decide +kernel
theorem dX6_corner_85 : decode cX6_corner 85 = .ok (.ifCond .eq 8, 3) := by decide +kernel
theorem dX6_corner_88 : decode cX6_corner 88 = .ok (.aload_n 0, 1) := by decide +kernel
theorem dX6_corner_89 : decode cX6_corner 89 = .ok (.iload_n 1, 1) := by decide +kernel
theorem dX6_corner_90 : decode cX6_corner 90 = .ok (.invokevirtual 97, 3) := by decide +kernel
theorem dX6_corner_93 : decode cX6_corner 93 = .ok (.iload 7, 2) := by decide +kernel
theorem dX6_corner_95 : decode cX6_corner 95 = .ok (.ireturn, 1) := by decide +kernel
theorem dX6_near_0 : decode cX6_near 0 = .ok (.aload_n 0, 1) := by decide +kernel
theorem dX6_near_1 : decode cX6_near 1 = .ok (.invokevirtual 100, 3) := by decide +kernel
theorem dX6_near_4 : decode cX6_near 4 = .ok (.iconst 0, 1) := by decide +kernel
theorem dX6_near_5 : decode cX6_near 5 = .ok (.istore_n 1, 1) := by decide +kernel
theorem dX6_near_6 : decode cX6_near 6 = .ok (.iconst 0, 1) := by decide +kernel
theorem dX6_near_7 : decode cX6_near 7 = .ok (.istore_n 2, 1) := by decide +kernel
theorem dX6_near_8 : decode cX6_near 8 = .ok (.iload_n 2, 1) := by decide +kernel
theorem dX6_near_9 : decode cX6_near 9 = .ok (.aload_n 0, 1) := by decide +kernel
theorem dX6_near_10 : decode cX6_near 10 = .ok (.getfield 10, 3) := by decide +kernel
theorem dX6_near_13 : decode cX6_near 13 = .ok (.invokevirtual 47, 3) := by decide +kernel
theorem dX6_near_16 : decode cX6_near 16 = .ok (.if_icmp .ge 29, 3) := by decide +kernel
theorem dX6_near_19 : decode cX6_near 19 = .ok (.iload_n 1, 1) := by decide +kernel
theorem dX6_near_20 : decode cX6_near 20 = .ok (.aload_n 0, 1) := by decide +kernel
theorem dX6_near_21 : decode cX6_near 21 = .ok (.getfield 10, 3) := by decide +kernel
theorem dX6_near_24 : decode cX6_near 24 = .ok (.iload_n 2, 1) := by decide +kernel
theorem dX6_near_25 : decode cX6_near 25 = .ok (.invokevirtual 72, 3) := by decide +kernel
theorem dX6_near_28 : decode cX6_near 28 = .ok (.checkcast 61, 3) := by decide +kernel
theorem dX6_near_31 : decode cX6_near 31 = .ok (.getfield 103, 3) := by decide +kernel
theorem dX6_near_34 : decode cX6_near 34 = .ok (.invokestatic 106, 3) := by decide +kernel
theorem dX6_near_37 : decode cX6_near 37 = .ok (.iadd, 1) := by decide +kernel
theorem dX6_near_38 : decode cX6_near 38 = .ok (.istore_n 1, 1) := by decide +kernel
theorem dX6_near_39 : decode cX6_near 39 = .ok (.iinc 2 1, 3) := by decide +kernel
theorem dX6_near_42 : decode cX6_near 42 = .ok (.goto (-34), 3) := by decide +kernel
theorem dX6_near_45 : decode cX6_near 45 = .ok (.iload_n 1, 1) := by decide +kernel
theorem dX6_near_46 : decode cX6_near 46 = .ok (.iconst 2, 1) := by decide +kernel
theorem dX6_near_47 : decode cX6_near 47 = .ok (.idiv, 1) := by decide +kernel
theorem dX6_near_48 : decode cX6_near 48 = .ok (.ireturn, 1) := by decide +kernel
theorem dX6_run_0 : decode cX6_run 0 = .ok (.aload_n 0, 1) := by decide +kernel
theorem dX6_run_1 : decode cX6_run 1 = .ok (.invokevirtual 100, 3) := by decide +kernel
theorem dX6_run_4 : decode cX6_run 4 = .ok (.iload_n 1, 1) := by decide +kernel
theorem dX6_run_5 : decode cX6_run 5 = .ok (.iconst 2, 1) := by decide +kernel
theorem dX6_run_6 : decode cX6_run 6 = .ok (.if_icmp .lt 14, 3) := by decide +kernel
theorem dX6_run_9 : decode cX6_run 9 = .ok (.iload_n 1, 1) := by decide +kernel
theorem dX6_run_10 : decode cX6_run 10 = .ok (.iconst 4, 1) := by decide +kernel
theorem dX6_run_11 : decode cX6_run 11 = .ok (.if_icmp .gt 9, 3) := by decide +kernel
theorem dX6_run_14 : decode cX6_run 14 = .ok (.lload_n 2, 1) := by decide +kernel
theorem dX6_run_15 : decode cX6_run 15 = .ok (.lconst 0, 1) := by decide +kernel
theorem dX6_run_16 : decode cX6_run 16 = .ok (.lcmp, 1) := by decide +kernel
theorem dX6_run_17 : decode cX6_run 17 = .ok (.ifCond .ge 13, 3) := by decide +kernel
theorem dX6_run_20 : decode cX6_run 20 = .ok (.new 88, 3) := by decide +kernel
theorem dX6_run_23 : decode cX6_run 23 = .ok (.dup, 1) := by decide +kernel
theorem dX6_run_24 : decode cX6_run 24 = .ok (.ldc 112, 2) := by decide +kernel
theorem dX6_run_26 : decode cX6_run 26 = .ok (.invokespecial 92, 3) := by decide +kernel
theorem dX6_run_29 : decode cX6_run 29 = .ok (.athrow, 1) := by decide +kernel
theorem dX6_run_30 : decode cX6_run 30 = .ok (.aload_n 0, 1) := by decide +kernel
theorem dX6_run_31 : decode cX6_run 31 = .ok (.invokevirtual 51, 3) := by decide +kernel
theorem dX6_run_34 : decode cX6_run 34 = .ok (.i2l, 1) := by decide +kernel
theorem dX6_run_35 : decode cX6_run 35 = .ok (.lload_n 2, 1) := by decide +kernel
theorem dX6_run_36 : decode cX6_run 36 = .ok (.lcmp, 1) := by decide +kernel
theorem dX6_run_37 : decode cX6_run 37 = .ok (.ifCond .le 10, 3) := by decide +kernel
theorem dX6_run_40 : decode cX6_run 40 = .ok (.aload_n 0, 1) := by decide +kernel
theorem dX6_run_41 : decode cX6_run 41 = .ok (.iconst 0, 1) := by decide +kernel
theorem dX6_run_42 : decode cX6_run 42 = .ok (.putfield 28, 3) := by decide +kernel
theorem dX6_run_45 : decode cX6_run 45 = .ok (.iconst 2, 1) := by decide +kernel
theorem dX6_run_46 : decode cX6_run 46 = .ok (.ireturn, 1) := by decide +kernel
theorem dX6_run_47 : decode cX6_run 47 = .ok (.aload_n 0, 1) := by decide +kernel
theorem dX6_run_48 : decode cX6_run 48 = .ok (.iconst 1, 1) := by decide +kernel
theorem dX6_run_49 : decode cX6_run 49 = .ok (.putfield 28, 3) := by decide +kernel
theorem dX6_run_52 : decode cX6_run 52 = .ok (.aload_n 0, 1) := by decide +kernel
theorem dX6_run_53 : decode cX6_run 53 = .ok (.invokevirtual 114, 3) := by decide +kernel
theorem dX6_run_56 : decode cX6_run 56 = .ok (.astore 4, 2) := by decide +kernel
theorem dX6_run_58 : decode cX6_run 58 = .ok (.aload 4, 2) := by decide +kernel
theorem dX6_run_60 : decode cX6_run 60 = .ok (.aload_n 0, 1) := by decide +kernel
theorem dX6_run_61 : decode cX6_run 61 = .ok (.getfield 43, 3) := by decide +kernel
theorem dX6_run_64 : decode cX6_run 64 = .ok (.invokevirtual 118, 3) := by decide +kernel
theorem dX6_run_67 : decode cX6_run 67 = .ok (.new 123, 3) := by decide +kernel
theorem dX6_run_70 : decode cX6_run 70 = .ok (.dup, 1) := by decide +kernel
theorem dX6_run_71 : decode cX6_run 71 = .ok (.aload 4, 2) := by decide +kernel
theorem dX6_run_73 : decode cX6_run 73 = .ok (.iload_n 1, 1) := by decide +kernel
theorem dX6_run_74 : decode cX6_run 74 = .ok (.invokespecial 125, 3) := by decide +kernel
theorem dX6_run_77 : decode cX6_run 77 = .ok (.astore 5, 2) := by decide +kernel
theorem dX6_run_79 : decode cX6_run 79 = .ok (.aload 5, 2) := by decide +kernel
theorem dX6_run_81 : decode cX6_run 81 = .ok (.invokevirtual 128, 3) := by decide +kernel
theorem dX6_run_84 : decode cX6_run 84 = .ok (.aload_n 0, 1) := by decide +kernel
theorem dX6_run_85 : decode cX6_run 85 = .ok (.iconst 0, 1) := by decide +kernel
theorem dX6_run_86 : decode cX6_run 86 = .ok (.putfield 20, 3) := by decide +kernel
theorem dX6_run_89 : decode cX6_run 89 = .ok (.aload 5, 2) := by decide +kernel
theorem dX6_run_91 : decode cX6_run 91 = .ok (.invokevirtual 131, 3) := by decide +kernel
theorem dX6_run_94 : decode cX6_run 94 = .ok (.ifCond .eq 28, 3) := by decide +kernel
theorem dX6_run_97 : decode cX6_run 97 = .ok (.aload_n 0, 1) := by decide +kernel
theorem dX6_run_98 : decode cX6_run 98 = .ok (.new 135, 3) := by decide +kernel
theorem dX6_run_101 : decode cX6_run 101 = .ok (.dup, 1) := by decide +kernel
theorem dX6_run_102 : decode cX6_run 102 = .ok (.aload 4, 2) := by decide +kernel
theorem dX6_run_104 : decode cX6_run 104 = .ok (.aload 5, 2) := by decide +kernel
theorem dX6_run_106 : decode cX6_run 106 = .ok (.getfield 137, 3) := by decide +kernel
theorem dX6_run_109 : decode cX6_run 109 = .ok (.aload 5, 2) := by decide +kernel
theorem dX6_run_111 : decode cX6_run 111 = .ok (.getfield 140, 3) := by decide +kernel
theorem dX6_run_114 : decode cX6_run 114 = .ok (.invokespecial 143, 3) := by decide +kernel
theorem dX6_run_117 : decode cX6_run 117 = .ok (.putfield 24, 3) := by decide +kernel
theorem dX6_run_120 : decode cX6_run 120 = .ok (.iconst 0, 1) := by decide +kernel
theorem dX6_run_121 : decode cX6_run 121 = .ok (.ireturn, 1) := by decide +kernel
theorem dX6_run_122 : decode cX6_run 122 = .ok (.aload_n 0, 1) := by decide +kernel
theorem dX6_run_123 : decode cX6_run 123 = .ok (.aconst_null, 1) := by decide +kernel
theorem dX6_run_124 : decode cX6_run 124 = .ok (.putfield 24, 3) := by decide +kernel
theorem dX6_run_127 : decode cX6_run 127 = .ok (.iload_n 1, 1) := by decide +kernel
theorem dX6_run_128 : decode cX6_run 128 = .ok (.iconst 2, 1) := by decide +kernel
theorem dX6_run_129 : decode cX6_run 129 = .ok (.if_icmp .ne 16, 3) := by decide +kernel
theorem dX6_run_132 : decode cX6_run 132 = .ok (.aload_n 0, 1) := by decide +kernel
theorem dX6_run_133 : decode cX6_run 133 = .ok (.aload 4, 2) := by decide +kernel
theorem dX6_run_135 : decode cX6_run 135 = .ok (.aload_n 0, 1) := by decide +kernel
theorem dX6_run_136 : decode cX6_run 136 = .ok (.getfield 16, 3) := by decide +kernel
theorem dX6_run_139 : decode cX6_run 139 = .ok (.invokevirtual 146, 3) := by decide +kernel
theorem dX6_run_142 : decode cX6_run 142 = .ok (.putfield 20, 3) := by decide +kernel
theorem dX6_run_145 : decode cX6_run 145 = .ok (.iconst 1, 1) := by decide +kernel
theorem dX6_run_146 : decode cX6_run 146 = .ok (.ireturn, 1) := by decide +kernel
theorem dX6_colour_0 : decode cX6_colour 0 = .ok (.aload_n 0, 1) := by decide +kernel
theorem dX6_colour_1 : decode cX6_colour 1 = .ok (.iload_n 1, 1) := by decide +kernel
theorem dX6_colour_2 : decode cX6_colour 2 = .ok (.invokevirtual 68, 3) := by decide +kernel
theorem dX6_colour_5 : decode cX6_colour 5 = .ok (.aload_n 0, 1) := by decide +kernel
theorem dX6_colour_6 : decode cX6_colour 6 = .ok (.getfield 24, 3) := by decide +kernel
theorem dX6_colour_9 : decode cX6_colour 9 = .ok (.ifnonnull 7, 3) := by decide +kernel
theorem dX6_colour_12 : decode cX6_colour 12 = .ok (.iconst (-1), 1) := by decide +kernel
theorem dX6_colour_13 : decode cX6_colour 13 = .ok (.goto 12, 3) := by decide +kernel
theorem dX6_colour_16 : decode cX6_colour 16 = .ok (.aload_n 0, 1) := by decide +kernel
theorem dX6_colour_17 : decode cX6_colour 17 = .ok (.getfield 24, 3) := by decide +kernel
theorem dX6_colour_20 : decode cX6_colour 20 = .ok (.getfield 150, 3) := by decide +kernel
theorem dX6_colour_23 : decode cX6_colour 23 = .ok (.iload_n 1, 1) := by decide +kernel
theorem dX6_colour_24 : decode cX6_colour 24 = .ok (.iaload, 1) := by decide +kernel
theorem dX6_colour_25 : decode cX6_colour 25 = .ok (.ireturn, 1) := by decide +kernel
theorem dX6_ring_0 : decode cX6_ring 0 = .ok (.iload_n 1, 1) := by decide +kernel
theorem dX6_ring_1 : decode cX6_ring 1 = .ok (.ifCond .lt 11, 3) := by decide +kernel
theorem dX6_ring_4 : decode cX6_ring 4 = .ok (.iload_n 1, 1) := by decide +kernel
theorem dX6_ring_5 : decode cX6_ring 5 = .ok (.aload_n 0, 1) := by decide +kernel
theorem dX6_ring_6 : decode cX6_ring 6 = .ok (.getfield 20, 3) := by decide +kernel
theorem dX6_ring_9 : decode cX6_ring 9 = .ok (.if_icmp .lt 13, 3) := by decide +kernel
theorem dX6_ring_12 : decode cX6_ring 12 = .ok (.new 153, 3) := by decide +kernel
theorem dX6_ring_15 : decode cX6_ring 15 = .ok (.dup, 1) := by decide +kernel
theorem dX6_ring_16 : decode cX6_ring 16 = .ok (.ldc 155, 2) := by decide +kernel
theorem dX6_ring_18 : decode cX6_ring 18 = .ok (.invokespecial 157, 3) := by decide +kernel
theorem dX6_ring_21 : decode cX6_ring 21 = .ok (.athrow, 1) := by decide +kernel
theorem dX6_ring_22 : decode cX6_ring 22 = .ok (.aload_n 0, 1) := by decide +kernel
theorem dX6_ring_23 : decode cX6_ring 23 = .ok (.getfield 16, 3) := by decide +kernel
theorem dX6_ring_26 : decode cX6_ring 26 = .ok (.iload_n 1, 1) := by decide +kernel
theorem dX6_ring_27 : decode cX6_ring 27 = .ok (.iaload, 1) := by decide +kernel
theorem dX6_ring_28 : decode cX6_ring 28 = .ok (.ireturn, 1) := by decide +kernel
theorem dX6_length_0 : decode cX6_length 0 = .ok (.aload_n 0, 1) := by decide +kernel
theorem dX6_length_1 : decode cX6_length 1 = .ok (.getfield 20, 3) := by decide +kernel
theorem dX6_length_4 : decode cX6_length 4 = .ok (.ireturn, 1) := by decide +kernel
theorem dX6_pre_0 : decode cX6_pre 0 = .ok (.aload_n 0, 1) := by decide +kernel
theorem dX6_pre_1 : decode cX6_pre 1 = .ok (.iload_n 1, 1) := by decide +kernel
theorem dX6_pre_2 : decode cX6_pre 2 = .ok (.invokevirtual 68, 3) := by decide +kernel
theorem dX6_pre_5 : decode cX6_pre 5 = .ok (.aload_n 0, 1) := by decide +kernel
theorem dX6_pre_6 : decode cX6_pre 6 = .ok (.invokevirtual 100, 3) := by decide +kernel
theorem dX6_pre_9 : decode cX6_pre 9 = .ok (.iload_n 2, 1) := by decide +kernel
theorem dX6_pre_10 : decode cX6_pre 10 = .ok (.iconst (-1), 1) := by decide +kernel
theorem dX6_pre_11 : decode cX6_pre 11 = .ok (.if_icmp .eq 20, 3) := by decide +kernel
theorem dX6_pre_14 : decode cX6_pre 14 = .ok (.iload_n 2, 1) := by decide +kernel
theorem dX6_pre_15 : decode cX6_pre 15 = .ok (.invokestatic 158, 3) := by decide +kernel
theorem dX6_pre_18 : decode cX6_pre 18 = .ok (.ifCond .eq 13, 3) := by decide +kernel
theorem dX6_pre_21 : decode cX6_pre 21 = .ok (.new 88, 3) := by decide +kernel
theorem dX6_pre_24 : decode cX6_pre 24 = .ok (.dup, 1) := by decide +kernel
theorem dX6_pre_25 : decode cX6_pre 25 = .ok (.ldc 162, 2) := by decide +kernel
theorem dX6_pre_27 : decode cX6_pre 27 = .ok (.invokespecial 92, 3) := by decide +kernel
theorem dX6_pre_30 : decode cX6_pre 30 = .ok (.athrow, 1) := by decide +kernel
theorem dX6_pre_31 : decode cX6_pre 31 = .ok (.aload_n 0, 1) := by decide +kernel
theorem dX6_pre_32 : decode cX6_pre 32 = .ok (.getfield 10, 3) := by decide +kernel
theorem dX6_pre_35 : decode cX6_pre 35 = .ok (.iload_n 1, 1) := by decide +kernel
theorem dX6_pre_36 : decode cX6_pre 36 = .ok (.invokevirtual 72, 3) := by decide +kernel
theorem dX6_pre_39 : decode cX6_pre 39 = .ok (.checkcast 61, 3) := by decide +kernel
theorem dX6_pre_42 : decode cX6_pre 42 = .ok (.astore_n 3, 1) := by decide +kernel
theorem dX6_pre_43 : decode cX6_pre 43 = .ok (.aload_n 3, 1) := by decide +kernel
theorem dX6_pre_44 : decode cX6_pre 44 = .ok (.getfield 164, 3) := by decide +kernel
theorem dX6_pre_47 : decode cX6_pre 47 = .ok (.iload_n 2, 1) := by decide +kernel
theorem dX6_pre_48 : decode cX6_pre 48 = .ok (.if_icmp .eq 7, 3) := by decide +kernel
theorem dX6_pre_51 : decode cX6_pre 51 = .ok (.iconst 1, 1) := by decide +kernel
theorem dX6_pre_52 : decode cX6_pre 52 = .ok (.goto 4, 3) := by decide +kernel
theorem dX6_pre_55 : decode cX6_pre 55 = .ok (.iconst 0, 1) := by decide +kernel
theorem dX6_pre_56 : decode cX6_pre 56 = .ok (.istore 4, 2) := by decide +kernel
theorem dX6_pre_58 : decode cX6_pre 58 = .ok (.aload_n 3, 1) := by decide +kernel
theorem dX6_pre_59 : decode cX6_pre 59 = .ok (.iload_n 2, 1) := by decide +kernel
theorem dX6_pre_60 : decode cX6_pre 60 = .ok (.putfield 164, 3) := by decide +kernel
theorem dX6_pre_63 : decode cX6_pre 63 = .ok (.iload 4, 2) := by decide +kernel
theorem dX6_pre_65 : decode cX6_pre 65 = .ok (.ireturn, 1) := by decide +kernel
theorem dX6_stitch_0 : decode cX6_stitch 0 = .ok (.aload_n 0, 1) := by decide +kernel
theorem dX6_stitch_1 : decode cX6_stitch 1 = .ok (.iload_n 1, 1) := by decide +kernel
theorem dX6_stitch_2 : decode cX6_stitch 2 = .ok (.invokevirtual 68, 3) := by decide +kernel
theorem dX6_stitch_5 : decode cX6_stitch 5 = .ok (.aload_n 0, 1) := by decide +kernel
theorem dX6_stitch_6 : decode cX6_stitch 6 = .ok (.invokevirtual 100, 3) := by decide +kernel
theorem dX6_stitch_9 : decode cX6_stitch 9 = .ok (.aload_n 0, 1) := by decide +kernel
theorem dX6_stitch_10 : decode cX6_stitch 10 = .ok (.getfield 10, 3) := by decide +kernel
theorem dX6_stitch_13 : decode cX6_stitch 13 = .ok (.iload_n 1, 1) := by decide +kernel
theorem dX6_stitch_14 : decode cX6_stitch 14 = .ok (.invokevirtual 72, 3) := by decide +kernel
theorem dX6_stitch_17 : decode cX6_stitch 17 = .ok (.checkcast 61, 3) := by decide +kernel
theorem dX6_stitch_20 : decode cX6_stitch 20 = .ok (.astore 5, 2) := by decide +kernel
theorem dX6_stitch_22 : decode cX6_stitch 22 = .ok (.aload 5, 2) := by decide +kernel
theorem dX6_stitch_24 : decode cX6_stitch 24 = .ok (.getfield 76, 3) := by decide +kernel
theorem dX6_stitch_27 : decode cX6_stitch 27 = .ok (.invokevirtual 47, 3) := by decide +kernel
theorem dX6_stitch_30 : decode cX6_stitch 30 = .ok (.iconst 1, 1) := by decide +kernel
theorem dX6_stitch_31 : decode cX6_stitch 31 = .ok (.if_icmp .eq 13, 3) := by decide +kernel
theorem dX6_stitch_34 : decode cX6_stitch 34 = .ok (.new 54, 3) := by decide +kernel
theorem dX6_stitch_37 : decode cX6_stitch 37 = .ok (.dup, 1) := by decide +kernel
theorem dX6_stitch_38 : decode cX6_stitch 38 = .ok (.ldc 167, 2) := by decide +kernel
theorem dX6_stitch_40 : decode cX6_stitch 40 = .ok (.invokespecial 58, 3) := by decide +kernel
theorem dX6_stitch_43 : decode cX6_stitch 43 = .ok (.athrow, 1) := by decide +kernel
theorem dX6_stitch_44 : decode cX6_stitch 44 = .ok (.aload 5, 2) := by decide +kernel
theorem dX6_stitch_46 : decode cX6_stitch 46 = .ok (.lload_n 2, 1) := by decide +kernel
theorem dX6_stitch_47 : decode cX6_stitch 47 = .ok (.iload 4, 2) := by decide +kernel
theorem dX6_stitch_49 : decode cX6_stitch 49 = .ok (.invokevirtual 169, 3) := by decide +kernel
theorem dX6_stitch_52 : decode cX6_stitch 52 = .ok (.ifCond .eq 5, 3) := by decide +kernel
theorem dX6_stitch_55 : decode cX6_stitch 55 = .ok (.iconst 0, 1) := by decide +kernel
theorem dX6_stitch_56 : decode cX6_stitch 56 = .ok (.ireturn, 1) := by decide +kernel
theorem dX6_stitch_57 : decode cX6_stitch 57 = .ok (.aload 5, 2) := by decide +kernel
theorem dX6_stitch_59 : decode cX6_stitch 59 = .ok (.getfield 79, 3) := by decide +kernel
theorem dX6_stitch_62 : decode cX6_stitch 62 = .ok (.iconst 3, 1) := by decide +kernel
theorem dX6_stitch_63 : decode cX6_stitch 63 = .ok (.if_icmp .ge 12, 3) := by decide +kernel
theorem dX6_stitch_66 : decode cX6_stitch 66 = .ok (.aload_n 0, 1) := by decide +kernel
theorem dX6_stitch_67 : decode cX6_stitch 67 = .ok (.invokevirtual 51, 3) := by decide +kernel
theorem dX6_stitch_70 : decode cX6_stitch 70 = .ok (.bipush 12, 2) := by decide +kernel
theorem dX6_stitch_72 : decode cX6_stitch 72 = .ok (.if_icmp .lt 13, 3) := by decide +kernel
theorem dX6_stitch_75 : decode cX6_stitch 75 = .ok (.new 54, 3) := by decide +kernel
theorem dX6_stitch_78 : decode cX6_stitch 78 = .ok (.dup, 1) := by decide +kernel
theorem dX6_stitch_79 : decode cX6_stitch 79 = .ok (.ldc 173, 2) := by decide +kernel
theorem dX6_stitch_81 : decode cX6_stitch 81 = .ok (.invokespecial 58, 3) := by decide +kernel
theorem dX6_stitch_84 : decode cX6_stitch 84 = .ok (.athrow, 1) := by decide +kernel
theorem dX6_stitch_85 : decode cX6_stitch 85 = .ok (.aload 5, 2) := by decide +kernel
theorem dX6_stitch_87 : decode cX6_stitch 87 = .ok (.getfield 76, 3) := by decide +kernel
theorem dX6_stitch_90 : decode cX6_stitch 90 = .ok (.iconst 0, 1) := by decide +kernel
theorem dX6_stitch_91 : decode cX6_stitch 91 = .ok (.invokevirtual 72, 3) := by decide +kernel
theorem dX6_stitch_94 : decode cX6_stitch 94 = .ok (.checkcast 175, 3) := by decide +kernel
theorem dX6_stitch_97 : decode cX6_stitch 97 = .ok (.lload_n 2, 1) := by decide +kernel
theorem dX6_stitch_98 : decode cX6_stitch 98 = .ok (.iload 4, 2) := by decide +kernel
theorem dX6_stitch_100 : decode cX6_stitch 100 = .ok (.invokevirtual 177, 3) := by decide +kernel
theorem dX6_stitch_103 : decode cX6_stitch 103 = .ok (.ifCond .ne 13, 3) := by decide +kernel
theorem dX6_stitch_106 : decode cX6_stitch 106 = .ok (.new 88, 3) := by decide +kernel
theorem dX6_stitch_109 : decode cX6_stitch 109 = .ok (.dup, 1) := by decide +kernel
theorem dX6_stitch_110 : decode cX6_stitch 110 = .ok (.ldc 180, 2) := by decide +kernel
theorem dX6_stitch_112 : decode cX6_stitch 112 = .ok (.invokespecial 92, 3) := by decide +kernel
theorem dX6_stitch_115 : decode cX6_stitch 115 = .ok (.athrow, 1) := by decide +kernel
theorem dX6_stitch_116 : decode cX6_stitch 116 = .ok (.aload 5, 2) := by decide +kernel
theorem dX6_stitch_118 : decode cX6_stitch 118 = .ok (.getfield 79, 3) := by decide +kernel
theorem dX6_stitch_121 : decode cX6_stitch 121 = .ok (.ifCond .le 23, 3) := by decide +kernel
theorem dX6_stitch_124 : decode cX6_stitch 124 = .ok (.aload 5, 2) := by decide +kernel
theorem dX6_stitch_126 : decode cX6_stitch 126 = .ok (.getfield 182, 3) := by decide +kernel
theorem dX6_stitch_129 : decode cX6_stitch 129 = .ok (.iload 4, 2) := by decide +kernel
theorem dX6_stitch_131 : decode cX6_stitch 131 = .ok (.if_icmp .eq 13, 3) := by decide +kernel
theorem dX6_stitch_134 : decode cX6_stitch 134 = .ok (.new 88, 3) := by decide +kernel
theorem dX6_stitch_137 : decode cX6_stitch 137 = .ok (.dup, 1) := by decide +kernel
theorem dX6_stitch_138 : decode cX6_stitch 138 = .ok (.ldc 185, 2) := by decide +kernel
theorem dX6_stitch_140 : decode cX6_stitch 140 = .ok (.invokespecial 92, 3) := by decide +kernel
theorem dX6_stitch_143 : decode cX6_stitch 143 = .ok (.athrow, 1) := by decide +kernel
theorem dX6_stitch_144 : decode cX6_stitch 144 = .ok (.aload 5, 2) := by decide +kernel
theorem dX6_stitch_146 : decode cX6_stitch 146 = .ok (.lload_n 2, 1) := by decide +kernel
theorem dX6_stitch_147 : decode cX6_stitch 147 = .ok (.iload 4, 2) := by decide +kernel
theorem dX6_stitch_149 : decode cX6_stitch 149 = .ok (.invokevirtual 187, 3) := by decide +kernel
theorem dX6_stitch_152 : decode cX6_stitch 152 = .ok (.iconst 1, 1) := by decide +kernel
theorem dX6_stitch_153 : decode cX6_stitch 153 = .ok (.ireturn, 1) := by decide +kernel
theorem dX6_stitches_0 : decode cX6_stitches 0 = .ok (.aload_n 0, 1) := by decide +kernel
theorem dX6_stitches_1 : decode cX6_stitches 1 = .ok (.getfield 24, 3) := by decide +kernel
theorem dX6_stitches_4 : decode cX6_stitches 4 = .ok (.ifnonnull 7, 3) := by decide +kernel
theorem dX6_stitches_7 : decode cX6_stitches 7 = .ok (.iconst 0, 1) := by decide +kernel
theorem dX6_stitches_8 : decode cX6_stitches 8 = .ok (.goto 10, 3) := by decide +kernel
theorem dX6_stitches_11 : decode cX6_stitches 11 = .ok (.aload_n 0, 1) := by decide +kernel
theorem dX6_stitches_12 : decode cX6_stitches 12 = .ok (.getfield 24, 3) := by decide +kernel
theorem dX6_stitches_15 : decode cX6_stitches 15 = .ok (.getfield 191, 3) := by decide +kernel
theorem dX6_stitches_18 : decode cX6_stitches 18 = .ok (.ireturn, 1) := by decide +kernel
theorem dX6_used_0 : decode cX6_used 0 = .ok (.aload_n 0, 1) := by decide +kernel
theorem dX6_used_1 : decode cX6_used 1 = .ok (.iload_n 1, 1) := by decide +kernel
theorem dX6_used_2 : decode cX6_used 2 = .ok (.invokevirtual 68, 3) := by decide +kernel
theorem dX6_used_5 : decode cX6_used 5 = .ok (.aload_n 0, 1) := by decide +kernel
theorem dX6_used_6 : decode cX6_used 6 = .ok (.getfield 24, 3) := by decide +kernel
theorem dX6_used_9 : decode cX6_used 9 = .ok (.ifnull 20, 3) := by decide +kernel
theorem dX6_used_12 : decode cX6_used 12 = .ok (.iload_n 2, 1) := by decide +kernel
theorem dX6_used_13 : decode cX6_used 13 = .ok (.ifCond .lt 16, 3) := by decide +kernel
theorem dX6_used_16 : decode cX6_used 16 = .ok (.iload_n 2, 1) := by decide +kernel
theorem dX6_used_17 : decode cX6_used 17 = .ok (.aload_n 0, 1) := by decide +kernel
theorem dX6_used_18 : decode cX6_used 18 = .ok (.getfield 24, 3) := by decide +kernel
theorem dX6_used_21 : decode cX6_used 21 = .ok (.getfield 194, 3) := by decide +kernel
theorem dX6_used_24 : decode cX6_used 24 = .ok (.iload_n 1, 1) := by decide +kernel
theorem dX6_used_25 : decode cX6_used 25 = .ok (.iaload, 1) := by decide +kernel
theorem dX6_used_26 : decode cX6_used 26 = .ok (.if_icmp .lt 13, 3) := by decide +kernel
theorem dX6_used_29 : decode cX6_used 29 = .ok (.new 153, 3) := by decide +kernel
theorem dX6_used_32 : decode cX6_used 32 = .ok (.dup, 1) := by decide +kernel
theorem dX6_used_33 : decode cX6_used 33 = .ok (.ldc 197, 2) := by decide +kernel
theorem dX6_used_35 : decode cX6_used 35 = .ok (.invokespecial 157, 3) := by decide +kernel
theorem dX6_used_38 : decode cX6_used 38 = .ok (.athrow, 1) := by decide +kernel
theorem dX6_used_39 : decode cX6_used 39 = .ok (.aload_n 0, 1) := by decide +kernel
theorem dX6_used_40 : decode cX6_used 40 = .ok (.getfield 24, 3) := by decide +kernel
theorem dX6_used_43 : decode cX6_used 43 = .ok (.getfield 199, 3) := by decide +kernel
theorem dX6_used_46 : decode cX6_used 46 = .ok (.iload_n 1, 1) := by decide +kernel
theorem dX6_used_47 : decode cX6_used 47 = .ok (.iaload, 1) := by decide +kernel
theorem dX6_used_48 : decode cX6_used 48 = .ok (.iload_n 2, 1) := by decide +kernel
theorem dX6_used_49 : decode cX6_used 49 = .ok (.ishr, 1) := by decide +kernel
theorem dX6_used_50 : decode cX6_used 50 = .ok (.iconst 1, 1) := by decide +kernel
theorem dX6_used_51 : decode cX6_used 51 = .ok (.iand, 1) := by decide +kernel
theorem dX6_used_52 : decode cX6_used 52 = .ok (.ifCond .eq 7, 3) := by decide +kernel
theorem dX6_used_55 : decode cX6_used 55 = .ok (.iconst 1, 1) := by decide +kernel
theorem dX6_used_56 : decode cX6_used 56 = .ok (.goto 4, 3) := by decide +kernel
theorem dX6_used_59 : decode cX6_used 59 = .ok (.iconst 0, 1) := by decide +kernel
theorem dX6_used_60 : decode cX6_used 60 = .ok (.ireturn, 1) := by decide +kernel
theorem dX6_balance_0 : decode cX6_balance 0 = .ok (.iload_n 2, 1) := by decide +kernel
theorem dX6_balance_1 : decode cX6_balance 1 = .ok (.ifCond .lt 8, 3) := by decide +kernel
theorem dX6_balance_4 : decode cX6_balance 4 = .ok (.iload_n 2, 1) := by decide +kernel
theorem dX6_balance_5 : decode cX6_balance 5 = .ok (.iconst 1, 1) := by decide +kernel
theorem dX6_balance_6 : decode cX6_balance 6 = .ok (.if_icmp .le 13, 3) := by decide +kernel
theorem dX6_balance_9 : decode cX6_balance 9 = .ok (.new 153, 3) := by decide +kernel
theorem dX6_balance_12 : decode cX6_balance 12 = .ok (.dup, 1) := by decide +kernel
theorem dX6_balance_13 : decode cX6_balance 13 = .ok (.ldc 202, 2) := by decide +kernel
theorem dX6_balance_15 : decode cX6_balance 15 = .ok (.invokespecial 157, 3) := by decide +kernel
theorem dX6_balance_18 : decode cX6_balance 18 = .ok (.athrow, 1) := by decide +kernel
theorem dX6_balance_19 : decode cX6_balance 19 = .ok (.iload_n 1, 1) := by decide +kernel
theorem dX6_balance_20 : decode cX6_balance 20 = .ok (.invokestatic 158, 3) := by decide +kernel
theorem dX6_balance_23 : decode cX6_balance 23 = .ok (.ifCond .eq 13, 3) := by decide +kernel
theorem dX6_balance_26 : decode cX6_balance 26 = .ok (.new 88, 3) := by decide +kernel
theorem dX6_balance_29 : decode cX6_balance 29 = .ok (.dup, 1) := by decide +kernel
theorem dX6_balance_30 : decode cX6_balance 30 = .ok (.ldc 162, 2) := by decide +kernel
theorem dX6_balance_32 : decode cX6_balance 32 = .ok (.invokespecial 92, 3) := by decide +kernel
theorem dX6_balance_35 : decode cX6_balance 35 = .ok (.athrow, 1) := by decide +kernel
theorem dX6_balance_36 : decode cX6_balance 36 = .ok (.aload_n 0, 1) := by decide +kernel
theorem dX6_balance_37 : decode cX6_balance 37 = .ok (.getfield 24, 3) := by decide +kernel
theorem dX6_balance_40 : decode cX6_balance 40 = .ok (.ifnonnull 5, 3) := by decide +kernel
theorem dX6_balance_43 : decode cX6_balance 43 = .ok (.lconst 0, 1) := by decide +kernel
theorem dX6_balance_44 : decode cX6_balance 44 = .ok (.lreturn, 1) := by decide +kernel
theorem dX6_balance_45 : decode cX6_balance 45 = .ok (.iload_n 2, 1) := by decide +kernel
theorem dX6_balance_46 : decode cX6_balance 46 = .ok (.ifCond .ne 16, 3) := by decide +kernel
theorem dX6_balance_49 : decode cX6_balance 49 = .ok (.aload_n 0, 1) := by decide +kernel
theorem dX6_balance_50 : decode cX6_balance 50 = .ok (.getfield 24, 3) := by decide +kernel
theorem dX6_balance_53 : decode cX6_balance 53 = .ok (.getfield 204, 3) := by decide +kernel
theorem dX6_balance_56 : decode cX6_balance 56 = .ok (.iload_n 1, 1) := by decide +kernel
theorem dX6_balance_57 : decode cX6_balance 57 = .ok (.iaload, 1) := by decide +kernel
theorem dX6_balance_58 : decode cX6_balance 58 = .ok (.i2l, 1) := by decide +kernel
theorem dX6_balance_59 : decode cX6_balance 59 = .ok (.goto 12, 3) := by decide +kernel
theorem dX6_balance_62 : decode cX6_balance 62 = .ok (.aload_n 0, 1) := by decide +kernel
theorem dX6_balance_63 : decode cX6_balance 63 = .ok (.getfield 24, 3) := by decide +kernel
theorem dX6_balance_66 : decode cX6_balance 66 = .ok (.getfield 207, 3) := by decide +kernel
theorem dX6_balance_69 : decode cX6_balance 69 = .ok (.iload_n 1, 1) := by decide +kernel
theorem dX6_balance_70 : decode cX6_balance 70 = .ok (.laload, 1) := by decide +kernel
theorem dX6_balance_71 : decode cX6_balance 71 = .ok (.lreturn, 1) := by decide +kernel
theorem dX6_pair_0 : decode cX6_pair 0 = .ok (.iload_n 1, 1) := by decide +kernel
theorem dX6_pair_1 : decode cX6_pair 1 = .ok (.ifCond .lt 12, 3) := by decide +kernel
theorem dX6_pair_4 : decode cX6_pair 4 = .ok (.iload_n 2, 1) := by decide +kernel
theorem dX6_pair_5 : decode cX6_pair 5 = .ok (.ifCond .lt 8, 3) := by decide +kernel
theorem dX6_pair_8 : decode cX6_pair 8 = .ok (.iload_n 2, 1) := by decide +kernel
theorem dX6_pair_9 : decode cX6_pair 9 = .ok (.iconst 1, 1) := by decide +kernel
theorem dX6_pair_10 : decode cX6_pair 10 = .ok (.if_icmp .le 13, 3) := by decide +kernel
theorem dX6_pair_13 : decode cX6_pair 13 = .ok (.new 153, 3) := by decide +kernel
theorem dX6_pair_16 : decode cX6_pair 16 = .ok (.dup, 1) := by decide +kernel
theorem dX6_pair_17 : decode cX6_pair 17 = .ok (.ldc 211, 2) := by decide +kernel
theorem dX6_pair_19 : decode cX6_pair 19 = .ok (.invokespecial 157, 3) := by decide +kernel
theorem dX6_pair_22 : decode cX6_pair 22 = .ok (.athrow, 1) := by decide +kernel
theorem dX6_pair_23 : decode cX6_pair 23 = .ok (.aload_n 0, 1) := by decide +kernel
theorem dX6_pair_24 : decode cX6_pair 24 = .ok (.invokevirtual 100, 3) := by decide +kernel
theorem dX6_pair_27 : decode cX6_pair 27 = .ok (.iconst 0, 1) := by decide +kernel
theorem dX6_pair_28 : decode cX6_pair 28 = .ok (.istore_n 3, 1) := by decide +kernel
theorem dX6_pair_29 : decode cX6_pair 29 = .ok (.iconst 0, 1) := by decide +kernel
theorem dX6_pair_30 : decode cX6_pair 30 = .ok (.istore 4, 2) := by decide +kernel
theorem dX6_pair_32 : decode cX6_pair 32 = .ok (.iload 4, 2) := by decide +kernel
theorem dX6_pair_34 : decode cX6_pair 34 = .ok (.aload_n 0, 1) := by decide +kernel
theorem dX6_pair_35 : decode cX6_pair 35 = .ok (.getfield 10, 3) := by decide +kernel
theorem dX6_pair_38 : decode cX6_pair 38 = .ok (.invokevirtual 47, 3) := by decide +kernel
theorem dX6_pair_41 : decode cX6_pair 41 = .ok (.if_icmp .ge 76, 3) := by decide +kernel
theorem dX6_pair_44 : decode cX6_pair 44 = .ok (.iload 4, 2) := by decide +kernel
theorem dX6_pair_46 : decode cX6_pair 46 = .ok (.iconst 1, 1) := by decide +kernel
theorem dX6_pair_47 : decode cX6_pair 47 = .ok (.iadd, 1) := by decide +kernel
theorem dX6_pair_48 : decode cX6_pair 48 = .ok (.istore 5, 2) := by decide +kernel
theorem dX6_pair_50 : decode cX6_pair 50 = .ok (.iload 5, 2) := by decide +kernel
theorem dX6_pair_52 : decode cX6_pair 52 = .ok (.aload_n 0, 1) := by decide +kernel
theorem dX6_pair_53 : decode cX6_pair 53 = .ok (.getfield 10, 3) := by decide +kernel
theorem dX6_pair_56 : decode cX6_pair 56 = .ok (.invokevirtual 47, 3) := by decide +kernel
theorem dX6_pair_59 : decode cX6_pair 59 = .ok (.if_icmp .ge 52, 3) := by decide +kernel
theorem dX6_pair_62 : decode cX6_pair 62 = .ok (.aload_n 0, 1) := by decide +kernel
theorem dX6_pair_63 : decode cX6_pair 63 = .ok (.getfield 10, 3) := by decide +kernel
theorem dX6_pair_66 : decode cX6_pair 66 = .ok (.iload 4, 2) := by decide +kernel
theorem dX6_pair_68 : decode cX6_pair 68 = .ok (.invokevirtual 72, 3) := by decide +kernel
theorem dX6_pair_71 : decode cX6_pair 71 = .ok (.checkcast 61, 3) := by decide +kernel
theorem dX6_pair_74 : decode cX6_pair 74 = .ok (.iload 5, 2) := by decide +kernel
theorem dX6_pair_76 : decode cX6_pair 76 = .ok (.invokevirtual 213, 3) := by decide +kernel
theorem dX6_pair_79 : decode cX6_pair 79 = .ok (.ifCond .ne 6, 3) := by decide +kernel
theorem dX6_pair_82 : decode cX6_pair 82 = .ok (.goto 23, 3) := by decide +kernel
theorem dX6_pair_85 : decode cX6_pair 85 = .ok (.iload_n 3, 1) := by decide +kernel
theorem dX6_pair_86 : decode cX6_pair 86 = .ok (.iload_n 1, 1) := by decide +kernel
theorem dX6_pair_87 : decode cX6_pair 87 = .ok (.if_icmp .ne 15, 3) := by decide +kernel
theorem dX6_pair_90 : decode cX6_pair 90 = .ok (.iload_n 2, 1) := by decide +kernel
theorem dX6_pair_91 : decode cX6_pair 91 = .ok (.ifCond .ne 8, 3) := by decide +kernel
theorem dX6_pair_94 : decode cX6_pair 94 = .ok (.iload 4, 2) := by decide +kernel
theorem dX6_pair_96 : decode cX6_pair 96 = .ok (.goto 5, 3) := by decide +kernel
theorem dX6_pair_99 : decode cX6_pair 99 = .ok (.iload 5, 2) := by decide +kernel
theorem dX6_pair_101 : decode cX6_pair 101 = .ok (.ireturn, 1) := by decide +kernel
theorem dX6_pair_102 : decode cX6_pair 102 = .ok (.iinc 3 1, 3) := by decide +kernel
theorem dX6_pair_105 : decode cX6_pair 105 = .ok (.iinc 5 1, 3) := by decide +kernel
theorem dX6_pair_108 : decode cX6_pair 108 = .ok (.goto (-58), 3) := by decide +kernel
theorem dX6_pair_111 : decode cX6_pair 111 = .ok (.iinc 4 1, 3) := by decide +kernel
theorem dX6_pair_114 : decode cX6_pair 114 = .ok (.goto (-82), 3) := by decide +kernel
theorem dX6_pair_117 : decode cX6_pair 117 = .ok (.iconst (-1), 1) := by decide +kernel
theorem dX6_pair_118 : decode cX6_pair 118 = .ok (.ireturn, 1) := by decide +kernel
theorem dX6_closed_0 : decode cX6_closed 0 = .ok (.aload_n 0, 1) := by decide +kernel
theorem dX6_closed_1 : decode cX6_closed 1 = .ok (.getfield 28, 3) := by decide +kernel
theorem dX6_closed_4 : decode cX6_closed 4 = .ok (.ireturn, 1) := by decide +kernel
theorem dX6_clear_0 : decode cX6_clear 0 = .ok (.aload_n 0, 1) := by decide +kernel
theorem dX6_clear_1 : decode cX6_clear 1 = .ok (.getfield 10, 3) := by decide +kernel
theorem dX6_clear_4 : decode cX6_clear 4 = .ok (.invokevirtual 216, 3) := by decide +kernel
theorem dX6_clear_7 : decode cX6_clear 7 = .ok (.aload_n 0, 1) := by decide +kernel
theorem dX6_clear_8 : decode cX6_clear 8 = .ok (.aconst_null, 1) := by decide +kernel
theorem dX6_clear_9 : decode cX6_clear 9 = .ok (.putfield 24, 3) := by decide +kernel
theorem dX6_clear_12 : decode cX6_clear 12 = .ok (.aload_n 0, 1) := by decide +kernel
theorem dX6_clear_13 : decode cX6_clear 13 = .ok (.iconst 0, 1) := by decide +kernel
theorem dX6_clear_14 : decode cX6_clear 14 = .ok (.putfield 20, 3) := by decide +kernel
theorem dX6_clear_17 : decode cX6_clear 17 = .ok (.aload_n 0, 1) := by decide +kernel
theorem dX6_clear_18 : decode cX6_clear 18 = .ok (.iconst 0, 1) := by decide +kernel
theorem dX6_clear_19 : decode cX6_clear 19 = .ok (.putfield 28, 3) := by decide +kernel
theorem dX6_clear_22 : decode cX6_clear 22 = .ok (.return_, 1) := by decide +kernel
theorem dX6_needShape_0 : decode cX6_needShape 0 = .ok (.iload_n 1, 1) := by decide +kernel
theorem dX6_needShape_1 : decode cX6_needShape 1 = .ok (.ifCond .lt 14, 3) := by decide +kernel
theorem dX6_needShape_4 : decode cX6_needShape 4 = .ok (.iload_n 1, 1) := by decide +kernel
theorem dX6_needShape_5 : decode cX6_needShape 5 = .ok (.aload_n 0, 1) := by decide +kernel
theorem dX6_needShape_6 : decode cX6_needShape 6 = .ok (.getfield 10, 3) := by decide +kernel
theorem dX6_needShape_9 : decode cX6_needShape 9 = .ok (.invokevirtual 47, 3) := by decide +kernel
theorem dX6_needShape_12 : decode cX6_needShape 12 = .ok (.if_icmp .lt 13, 3) := by decide +kernel
theorem dX6_needShape_15 : decode cX6_needShape 15 = .ok (.new 153, 3) := by decide +kernel
theorem dX6_needShape_18 : decode cX6_needShape 18 = .ok (.dup, 1) := by decide +kernel
theorem dX6_needShape_19 : decode cX6_needShape 19 = .ok (.ldc 219, 2) := by decide +kernel
theorem dX6_needShape_21 : decode cX6_needShape 21 = .ok (.invokespecial 157, 3) := by decide +kernel
theorem dX6_needShape_24 : decode cX6_needShape 24 = .ok (.athrow, 1) := by decide +kernel
theorem dX6_needShape_25 : decode cX6_needShape 25 = .ok (.return_, 1) := by decide +kernel
theorem dX6_needNoneOpen_0 : decode cX6_needNoneOpen 0 = .ok (.iconst 0, 1) := by decide +kernel
theorem dX6_needNoneOpen_1 : decode cX6_needNoneOpen 1 = .ok (.istore_n 1, 1) := by decide +kernel
theorem dX6_needNoneOpen_2 : decode cX6_needNoneOpen 2 = .ok (.iload_n 1, 1) := by decide +kernel
theorem dX6_needNoneOpen_3 : decode cX6_needNoneOpen 3 = .ok (.aload_n 0, 1) := by decide +kernel
theorem dX6_needNoneOpen_4 : decode cX6_needNoneOpen 4 = .ok (.getfield 10, 3) := by decide +kernel
theorem dX6_needNoneOpen_7 : decode cX6_needNoneOpen 7 = .ok (.invokevirtual 47, 3) := by decide +kernel
theorem dX6_needNoneOpen_10 : decode cX6_needNoneOpen 10 = .ok (.if_icmp .ge 36, 3) := by decide +kernel
theorem dX6_needNoneOpen_13 : decode cX6_needNoneOpen 13 = .ok (.aload_n 0, 1) := by decide +kernel
theorem dX6_needNoneOpen_14 : decode cX6_needNoneOpen 14 = .ok (.getfield 10, 3) := by decide +kernel
theorem dX6_needNoneOpen_17 : decode cX6_needNoneOpen 17 = .ok (.iload_n 1, 1) := by decide +kernel
theorem dX6_needNoneOpen_18 : decode cX6_needNoneOpen 18 = .ok (.invokevirtual 72, 3) := by decide +kernel
theorem dX6_needNoneOpen_21 : decode cX6_needNoneOpen 21 = .ok (.checkcast 61, 3) := by decide +kernel
theorem dX6_needNoneOpen_24 : decode cX6_needNoneOpen 24 = .ok (.invokevirtual 221, 3) := by decide +kernel
theorem dX6_needNoneOpen_27 : decode cX6_needNoneOpen 27 = .ok (.ifCond .eq 13, 3) := by decide +kernel
theorem dX6_needNoneOpen_30 : decode cX6_needNoneOpen 30 = .ok (.new 54, 3) := by decide +kernel
theorem dX6_needNoneOpen_33 : decode cX6_needNoneOpen 33 = .ok (.dup, 1) := by decide +kernel
theorem dX6_needNoneOpen_34 : decode cX6_needNoneOpen 34 = .ok (.ldc 224, 2) := by decide +kernel
theorem dX6_needNoneOpen_36 : decode cX6_needNoneOpen 36 = .ok (.invokespecial 58, 3) := by decide +kernel
theorem dX6_needNoneOpen_39 : decode cX6_needNoneOpen 39 = .ok (.athrow, 1) := by decide +kernel
theorem dX6_needNoneOpen_40 : decode cX6_needNoneOpen 40 = .ok (.iinc 1 1, 3) := by decide +kernel
theorem dX6_needNoneOpen_43 : decode cX6_needNoneOpen 43 = .ok (.goto (-41), 3) := by decide +kernel
theorem dX6_needNoneOpen_46 : decode cX6_needNoneOpen 46 = .ok (.return_, 1) := by decide +kernel
theorem dX6_isNoColour_0 : decode cX6_isNoColour 0 = .ok (.iload_n 0, 1) := by decide +kernel
theorem dX6_isNoColour_1 : decode cX6_isNoColour 1 = .ok (.ifCond .lt 8, 3) := by decide +kernel
theorem dX6_isNoColour_4 : decode cX6_isNoColour 4 = .ok (.iload_n 0, 1) := by decide +kernel
theorem dX6_isNoColour_5 : decode cX6_isNoColour 5 = .ok (.iconst 4, 1) := by decide +kernel
theorem dX6_isNoColour_6 : decode cX6_isNoColour 6 = .ok (.if_icmp .lt 7, 3) := by decide +kernel
theorem dX6_isNoColour_9 : decode cX6_isNoColour 9 = .ok (.iconst 1, 1) := by decide +kernel
theorem dX6_isNoColour_10 : decode cX6_isNoColour 10 = .ok (.goto 4, 3) := by decide +kernel
theorem dX6_isNoColour_13 : decode cX6_isNoColour 13 = .ok (.iconst 0, 1) := by decide +kernel
theorem dX6_isNoColour_14 : decode cX6_isNoColour 14 = .ok (.ireturn, 1) := by decide +kernel
theorem dX6_isTooFar_0 : decode cX6_isTooFar 0 = .ok (.lload_n 0, 1) := by decide +kernel
theorem dX6_isTooFar_1 : decode cX6_isTooFar 1 = .ok (.ldc2_w 226, 3) := by decide +kernel
theorem dX6_isTooFar_4 : decode cX6_isTooFar 4 = .ok (.lcmp, 1) := by decide +kernel
theorem dX6_isTooFar_5 : decode cX6_isTooFar 5 = .ok (.ifCond .lt 11, 3) := by decide +kernel
theorem dX6_isTooFar_8 : decode cX6_isTooFar 8 = .ok (.lload_n 0, 1) := by decide +kernel
theorem dX6_isTooFar_9 : decode cX6_isTooFar 9 = .ok (.ldc2_w 228, 3) := by decide +kernel
theorem dX6_isTooFar_12 : decode cX6_isTooFar 12 = .ok (.lcmp, 1) := by decide +kernel
theorem dX6_isTooFar_13 : decode cX6_isTooFar 13 = .ok (.ifCond .le 7, 3) := by decide +kernel
theorem dX6_isTooFar_16 : decode cX6_isTooFar 16 = .ok (.iconst 1, 1) := by decide +kernel
theorem dX6_isTooFar_17 : decode cX6_isTooFar 17 = .ok (.goto 4, 3) := by decide +kernel
theorem dX6_isTooFar_20 : decode cX6_isTooFar 20 = .ok (.iconst 0, 1) := by decide +kernel
theorem dX6_isTooFar_21 : decode cX6_isTooFar 21 = .ok (.ireturn, 1) := by decide +kernel
theorem dX6_countPieces_0 : decode cX6_countPieces 0 = .ok (.iconst 0, 1) := by decide +kernel
theorem dX6_countPieces_1 : decode cX6_countPieces 1 = .ok (.istore_n 1, 1) := by decide +kernel
theorem dX6_countPieces_2 : decode cX6_countPieces 2 = .ok (.iconst 0, 1) := by decide +kernel
end
section
theorem dX6_countPieces_3 : decode cX6_countPieces 3 = .ok (.istore_n 2, 1) := by decide +kernel
theorem dX6_countPieces_4 : decode cX6_countPieces 4 = .ok (.iload_n 2, 1) := by decide +kernel
theorem dX6_countPieces_5 : decode cX6_countPieces 5 = .ok (.aload_n 0, 1) := by decide +kernel
theorem dX6_countPieces_6 : decode cX6_countPieces 6 = .ok (.getfield 10, 3) := by decide +kernel
theorem dX6_countPieces_9 : decode cX6_countPieces 9 = .ok (.invokevirtual 47, 3) := by decide +kernel
theorem dX6_countPieces_12 : decode cX6_countPieces 12 = .ok (.if_icmp .ge 28, 3) := by decide +kernel
theorem dX6_countPieces_15 : decode cX6_countPieces 15 = .ok (.iload_n 1, 1) := by decide +kernel
theorem dX6_countPieces_16 : decode cX6_countPieces 16 = .ok (.aload_n 0, 1) := by decide +kernel
theorem dX6_countPieces_17 : decode cX6_countPieces 17 = .ok (.getfield 10, 3) := by decide +kernel
theorem dX6_countPieces_20 : decode cX6_countPieces 20 = .ok (.iload_n 2, 1) := by decide +kernel
theorem dX6_countPieces_21 : decode cX6_countPieces 21 = .ok (.invokevirtual 72, 3) := by decide +kernel
theorem dX6_countPieces_24 : decode cX6_countPieces 24 = .ok (.checkcast 61, 3) := by decide +kernel
theorem dX6_countPieces_27 : decode cX6_countPieces 27 = .ok (.getfield 79, 3) := by decide +kernel
theorem dX6_countPieces_30 : decode cX6_countPieces 30 = .ok (.iconst 1, 1) := by decide +kernel
theorem dX6_countPieces_31 : decode cX6_countPieces 31 = .ok (.iadd, 1) := by decide +kernel
theorem dX6_countPieces_32 : decode cX6_countPieces 32 = .ok (.iadd, 1) := by decide +kernel
theorem dX6_countPieces_33 : decode cX6_countPieces 33 = .ok (.istore_n 1, 1) := by decide +kernel
theorem dX6_countPieces_34 : decode cX6_countPieces 34 = .ok (.iinc 2 1, 3) := by decide +kernel
theorem dX6_countPieces_37 : decode cX6_countPieces 37 = .ok (.goto (-33), 3) := by decide +kernel
theorem dX6_countPieces_40 : decode cX6_countPieces 40 = .ok (.iload_n 1, 1) := by decide +kernel
theorem dX6_countPieces_41 : decode cX6_countPieces 41 = .ok (.ireturn, 1) := by decide +kernel
theorem dX6_findNearOnes_0 : decode cX6_findNearOnes 0 = .ok (.aload_n 0, 1) := by decide +kernel
theorem dX6_findNearOnes_1 : decode cX6_findNearOnes 1 = .ok (.getfield 10, 3) := by decide +kernel
theorem dX6_findNearOnes_4 : decode cX6_findNearOnes 4 = .ok (.iload_n 1, 1) := by decide +kernel
theorem dX6_findNearOnes_5 : decode cX6_findNearOnes 5 = .ok (.invokevirtual 72, 3) := by decide +kernel
theorem dX6_findNearOnes_8 : decode cX6_findNearOnes 8 = .ok (.checkcast 61, 3) := by decide +kernel
theorem dX6_findNearOnes_11 : decode cX6_findNearOnes 11 = .ok (.astore_n 2, 1) := by decide +kernel
theorem dX6_findNearOnes_12 : decode cX6_findNearOnes 12 = .ok (.aload_n 2, 1) := by decide +kernel
theorem dX6_findNearOnes_13 : decode cX6_findNearOnes 13 = .ok (.getfield 76, 3) := by decide +kernel
theorem dX6_findNearOnes_16 : decode cX6_findNearOnes 16 = .ok (.invokevirtual 230, 3) := by decide +kernel
theorem dX6_findNearOnes_19 : decode cX6_findNearOnes 19 = .ok (.ifCond .eq 4, 3) := by decide +kernel
theorem dX6_findNearOnes_22 : decode cX6_findNearOnes 22 = .ok (.return_, 1) := by decide +kernel
theorem dX6_findNearOnes_23 : decode cX6_findNearOnes 23 = .ok (.aload_n 2, 1) := by decide +kernel
theorem dX6_findNearOnes_24 : decode cX6_findNearOnes 24 = .ok (.getfield 76, 3) := by decide +kernel
theorem dX6_findNearOnes_27 : decode cX6_findNearOnes 27 = .ok (.aload_n 2, 1) := by decide +kernel
theorem dX6_findNearOnes_28 : decode cX6_findNearOnes 28 = .ok (.getfield 76, 3) := by decide +kernel
theorem dX6_findNearOnes_31 : decode cX6_findNearOnes 31 = .ok (.invokevirtual 47, 3) := by decide +kernel
theorem dX6_findNearOnes_34 : decode cX6_findNearOnes 34 = .ok (.iconst 1, 1) := by decide +kernel
theorem dX6_findNearOnes_35 : decode cX6_findNearOnes 35 = .ok (.isub, 1) := by decide +kernel
theorem dX6_findNearOnes_36 : decode cX6_findNearOnes 36 = .ok (.invokevirtual 72, 3) := by decide +kernel
theorem dX6_findNearOnes_39 : decode cX6_findNearOnes 39 = .ok (.checkcast 175, 3) := by decide +kernel
theorem dX6_findNearOnes_42 : decode cX6_findNearOnes 42 = .ok (.astore_n 3, 1) := by decide +kernel
theorem dX6_findNearOnes_43 : decode cX6_findNearOnes 43 = .ok (.iconst 0, 1) := by decide +kernel
theorem dX6_findNearOnes_44 : decode cX6_findNearOnes 44 = .ok (.istore 4, 2) := by decide +kernel
theorem dX6_findNearOnes_46 : decode cX6_findNearOnes 46 = .ok (.iload 4, 2) := by decide +kernel
theorem dX6_findNearOnes_48 : decode cX6_findNearOnes 48 = .ok (.aload_n 0, 1) := by decide +kernel
theorem dX6_findNearOnes_49 : decode cX6_findNearOnes 49 = .ok (.getfield 10, 3) := by decide +kernel
theorem dX6_findNearOnes_52 : decode cX6_findNearOnes 52 = .ok (.invokevirtual 47, 3) := by decide +kernel
theorem dX6_findNearOnes_55 : decode cX6_findNearOnes 55 = .ok (.if_icmp .ge 71, 3) := by decide +kernel
theorem dX6_findNearOnes_58 : decode cX6_findNearOnes 58 = .ok (.aload_n 0, 1) := by decide +kernel
theorem dX6_findNearOnes_59 : decode cX6_findNearOnes 59 = .ok (.getfield 10, 3) := by decide +kernel
theorem dX6_findNearOnes_62 : decode cX6_findNearOnes 62 = .ok (.iload 4, 2) := by decide +kernel
theorem dX6_findNearOnes_64 : decode cX6_findNearOnes 64 = .ok (.invokevirtual 72, 3) := by decide +kernel
theorem dX6_findNearOnes_67 : decode cX6_findNearOnes 67 = .ok (.checkcast 61, 3) := by decide +kernel
theorem dX6_findNearOnes_70 : decode cX6_findNearOnes 70 = .ok (.astore 5, 2) := by decide +kernel
theorem dX6_findNearOnes_72 : decode cX6_findNearOnes 72 = .ok (.iload 4, 2) := by decide +kernel
theorem dX6_findNearOnes_74 : decode cX6_findNearOnes 74 = .ok (.iload_n 1, 1) := by decide +kernel
theorem dX6_findNearOnes_75 : decode cX6_findNearOnes 75 = .ok (.if_icmp .eq 45, 3) := by decide +kernel
theorem dX6_findNearOnes_78 : decode cX6_findNearOnes 78 = .ok (.aload_n 3, 1) := by decide +kernel
theorem dX6_findNearOnes_79 : decode cX6_findNearOnes 79 = .ok (.aload 5, 2) := by decide +kernel
theorem dX6_findNearOnes_81 : decode cX6_findNearOnes 81 = .ok (.getfield 76, 3) := by decide +kernel
theorem dX6_findNearOnes_84 : decode cX6_findNearOnes 84 = .ok (.aload_n 0, 1) := by decide +kernel
theorem dX6_findNearOnes_85 : decode cX6_findNearOnes 85 = .ok (.getfield 43, 3) := by decide +kernel
theorem dX6_findNearOnes_88 : decode cX6_findNearOnes 88 = .ok (.invokevirtual 233, 3) := by decide +kernel
theorem dX6_findNearOnes_91 : decode cX6_findNearOnes 91 = .ok (.ifCond .eq 29, 3) := by decide +kernel
theorem dX6_findNearOnes_94 : decode cX6_findNearOnes 94 = .ok (.aload_n 2, 1) := by decide +kernel
theorem dX6_findNearOnes_95 : decode cX6_findNearOnes 95 = .ok (.dup, 1) := by decide +kernel
theorem dX6_findNearOnes_96 : decode cX6_findNearOnes 96 = .ok (.getfield 103, 3) := by decide +kernel
theorem dX6_findNearOnes_99 : decode cX6_findNearOnes 99 = .ok (.iconst 1, 1) := by decide +kernel
theorem dX6_findNearOnes_100 : decode cX6_findNearOnes 100 = .ok (.iload 4, 2) := by decide +kernel
theorem dX6_findNearOnes_102 : decode cX6_findNearOnes 102 = .ok (.ishl, 1) := by decide +kernel
theorem dX6_findNearOnes_103 : decode cX6_findNearOnes 103 = .ok (.ior, 1) := by decide +kernel
theorem dX6_findNearOnes_104 : decode cX6_findNearOnes 104 = .ok (.putfield 103, 3) := by decide +kernel
theorem dX6_findNearOnes_107 : decode cX6_findNearOnes 107 = .ok (.aload 5, 2) := by decide +kernel
theorem dX6_findNearOnes_109 : decode cX6_findNearOnes 109 = .ok (.dup, 1) := by decide +kernel
theorem dX6_findNearOnes_110 : decode cX6_findNearOnes 110 = .ok (.getfield 103, 3) := by decide +kernel
theorem dX6_findNearOnes_113 : decode cX6_findNearOnes 113 = .ok (.iconst 1, 1) := by decide +kernel
theorem dX6_findNearOnes_114 : decode cX6_findNearOnes 114 = .ok (.iload_n 1, 1) := by decide +kernel
theorem dX6_findNearOnes_115 : decode cX6_findNearOnes 115 = .ok (.ishl, 1) := by decide +kernel
theorem dX6_findNearOnes_116 : decode cX6_findNearOnes 116 = .ok (.ior, 1) := by decide +kernel
theorem dX6_findNearOnes_117 : decode cX6_findNearOnes 117 = .ok (.putfield 103, 3) := by decide +kernel
theorem dX6_findNearOnes_120 : decode cX6_findNearOnes 120 = .ok (.iinc 4 1, 3) := by decide +kernel
theorem dX6_findNearOnes_123 : decode cX6_findNearOnes 123 = .ok (.goto (-77), 3) := by decide +kernel
theorem dX6_findNearOnes_126 : decode cX6_findNearOnes 126 = .ok (.return_, 1) := by decide +kernel
theorem dX6_cutShapes_0 : decode cX6_cutShapes 0 = .ok (.new 119, 3) := by decide +kernel
theorem dX6_cutShapes_3 : decode cX6_cutShapes 3 = .ok (.dup, 1) := by decide +kernel
theorem dX6_cutShapes_4 : decode cX6_cutShapes 4 = .ok (.invokespecial 237, 3) := by decide +kernel
theorem dX6_cutShapes_7 : decode cX6_cutShapes 7 = .ok (.astore_n 1, 1) := by decide +kernel
theorem dX6_cutShapes_8 : decode cX6_cutShapes 8 = .ok (.iconst 0, 1) := by decide +kernel
theorem dX6_cutShapes_9 : decode cX6_cutShapes 9 = .ok (.istore_n 2, 1) := by decide +kernel
theorem dX6_cutShapes_10 : decode cX6_cutShapes 10 = .ok (.iload_n 2, 1) := by decide +kernel
theorem dX6_cutShapes_11 : decode cX6_cutShapes 11 = .ok (.aload_n 0, 1) := by decide +kernel
theorem dX6_cutShapes_12 : decode cX6_cutShapes 12 = .ok (.getfield 10, 3) := by decide +kernel
theorem dX6_cutShapes_15 : decode cX6_cutShapes 15 = .ok (.invokevirtual 47, 3) := by decide +kernel
theorem dX6_cutShapes_18 : decode cX6_cutShapes 18 = .ok (.if_icmp .ge 54, 3) := by decide +kernel
theorem dX6_cutShapes_21 : decode cX6_cutShapes 21 = .ok (.aload_n 0, 1) := by decide +kernel
theorem dX6_cutShapes_22 : decode cX6_cutShapes 22 = .ok (.getfield 10, 3) := by decide +kernel
theorem dX6_cutShapes_25 : decode cX6_cutShapes 25 = .ok (.iload_n 2, 1) := by decide +kernel
theorem dX6_cutShapes_26 : decode cX6_cutShapes 26 = .ok (.invokevirtual 72, 3) := by decide +kernel
theorem dX6_cutShapes_29 : decode cX6_cutShapes 29 = .ok (.checkcast 61, 3) := by decide +kernel
theorem dX6_cutShapes_32 : decode cX6_cutShapes 32 = .ok (.astore_n 3, 1) := by decide +kernel
theorem dX6_cutShapes_33 : decode cX6_cutShapes 33 = .ok (.iconst 0, 1) := by decide +kernel
theorem dX6_cutShapes_34 : decode cX6_cutShapes 34 = .ok (.istore 4, 2) := by decide +kernel
theorem dX6_cutShapes_36 : decode cX6_cutShapes 36 = .ok (.iload 4, 2) := by decide +kernel
theorem dX6_cutShapes_38 : decode cX6_cutShapes 38 = .ok (.aload_n 3, 1) := by decide +kernel
theorem dX6_cutShapes_39 : decode cX6_cutShapes 39 = .ok (.getfield 79, 3) := by decide +kernel
theorem dX6_cutShapes_42 : decode cX6_cutShapes 42 = .ok (.if_icmp .gt 24, 3) := by decide +kernel
theorem dX6_cutShapes_45 : decode cX6_cutShapes 45 = .ok (.aload_n 1, 1) := by decide +kernel
theorem dX6_cutShapes_46 : decode cX6_cutShapes 46 = .ok (.iload_n 2, 1) := by decide +kernel
theorem dX6_cutShapes_47 : decode cX6_cutShapes 47 = .ok (.aload_n 3, 1) := by decide +kernel
theorem dX6_cutShapes_48 : decode cX6_cutShapes 48 = .ok (.getfield 164, 3) := by decide +kernel
theorem dX6_cutShapes_51 : decode cX6_cutShapes 51 = .ok (.aload_n 3, 1) := by decide +kernel
theorem dX6_cutShapes_52 : decode cX6_cutShapes 52 = .ok (.iload 4, 2) := by decide +kernel
theorem dX6_cutShapes_54 : decode cX6_cutShapes 54 = .ok (.invokevirtual 238, 3) := by decide +kernel
theorem dX6_cutShapes_57 : decode cX6_cutShapes 57 = .ok (.invokevirtual 242, 3) := by decide +kernel
theorem dX6_cutShapes_60 : decode cX6_cutShapes 60 = .ok (.iinc 4 1, 3) := by decide +kernel
theorem dX6_cutShapes_63 : decode cX6_cutShapes 63 = .ok (.goto (-27), 3) := by decide +kernel
theorem dX6_cutShapes_66 : decode cX6_cutShapes 66 = .ok (.iinc 2 1, 3) := by decide +kernel
theorem dX6_cutShapes_69 : decode cX6_cutShapes 69 = .ok (.goto (-59), 3) := by decide +kernel
theorem dX6_cutShapes_72 : decode cX6_cutShapes 72 = .ok (.aload_n 1, 1) := by decide +kernel
theorem dX6_cutShapes_73 : decode cX6_cutShapes 73 = .ok (.areturn, 1) := by decide +kernel
theorem dX7_init_0 : decode cX7_init 0 = .ok (.aload_n 0, 1) := by decide +kernel
theorem dX7_init_1 : decode cX7_init 1 = .ok (.invokespecial 1, 3) := by decide +kernel
theorem dX7_init_4 : decode cX7_init 4 = .ok (.aload_n 0, 1) := by decide +kernel
theorem dX7_init_5 : decode cX7_init 5 = .ok (.bipush 80, 2) := by decide +kernel
theorem dX7_init_7 : decode cX7_init 7 = .ok (.newarray .long, 2) := by decide +kernel
theorem dX7_init_9 : decode cX7_init 9 = .ok (.putfield 7, 3) := by decide +kernel
theorem dX7_init_12 : decode cX7_init 12 = .ok (.aload_n 0, 1) := by decide +kernel
theorem dX7_init_13 : decode cX7_init 13 = .ok (.bipush 80, 2) := by decide +kernel
theorem dX7_init_15 : decode cX7_init 15 = .ok (.newarray .long, 2) := by decide +kernel
theorem dX7_init_17 : decode cX7_init 17 = .ok (.putfield 13, 3) := by decide +kernel
theorem dX7_init_20 : decode cX7_init 20 = .ok (.aload_n 0, 1) := by decide +kernel
theorem dX7_init_21 : decode cX7_init 21 = .ok (.bipush 10, 2) := by decide +kernel
theorem dX7_init_23 : decode cX7_init 23 = .ok (.newarray .int, 2) := by decide +kernel
theorem dX7_init_25 : decode cX7_init 25 = .ok (.putfield 16, 3) := by decide +kernel
theorem dX7_init_28 : decode cX7_init 28 = .ok (.aload_n 0, 1) := by decide +kernel
theorem dX7_init_29 : decode cX7_init 29 = .ok (.bipush 10, 2) := by decide +kernel
theorem dX7_init_31 : decode cX7_init 31 = .ok (.newarray .int, 2) := by decide +kernel
theorem dX7_init_33 : decode cX7_init 33 = .ok (.putfield 20, 3) := by decide +kernel
theorem dX7_init_36 : decode cX7_init 36 = .ok (.aload_n 0, 1) := by decide +kernel
theorem dX7_init_37 : decode cX7_init 37 = .ok (.bipush 30, 2) := by decide +kernel
theorem dX7_init_39 : decode cX7_init 39 = .ok (.newarray .long, 2) := by decide +kernel
theorem dX7_init_41 : decode cX7_init 41 = .ok (.putfield 23, 3) := by decide +kernel
theorem dX7_init_44 : decode cX7_init 44 = .ok (.aload_n 0, 1) := by decide +kernel
theorem dX7_init_45 : decode cX7_init 45 = .ok (.bipush 10, 2) := by decide +kernel
theorem dX7_init_47 : decode cX7_init 47 = .ok (.newarray .int, 2) := by decide +kernel
theorem dX7_init_49 : decode cX7_init 49 = .ok (.putfield 26, 3) := by decide +kernel
theorem dX7_init_52 : decode cX7_init 52 = .ok (.aload_n 0, 1) := by decide +kernel
theorem dX7_init_53 : decode cX7_init 53 = .ok (.bipush 10, 2) := by decide +kernel
theorem dX7_init_55 : decode cX7_init 55 = .ok (.newarray .boolean, 2) := by decide +kernel
theorem dX7_init_57 : decode cX7_init 57 = .ok (.putfield 29, 3) := by decide +kernel
theorem dX7_init_60 : decode cX7_init 60 = .ok (.aload_n 0, 1) := by decide +kernel
theorem dX7_init_61 : decode cX7_init 61 = .ok (.bipush 12, 2) := by decide +kernel
theorem dX7_init_63 : decode cX7_init 63 = .ok (.newarray .int, 2) := by decide +kernel
theorem dX7_init_65 : decode cX7_init 65 = .ok (.putfield 33, 3) := by decide +kernel
theorem dX7_init_68 : decode cX7_init 68 = .ok (.aload_n 0, 1) := by decide +kernel
theorem dX7_init_69 : decode cX7_init 69 = .ok (.bipush 12, 2) := by decide +kernel
theorem dX7_init_71 : decode cX7_init 71 = .ok (.newarray .int, 2) := by decide +kernel
theorem dX7_init_73 : decode cX7_init 73 = .ok (.putfield 36, 3) := by decide +kernel
theorem dX7_init_76 : decode cX7_init 76 = .ok (.aload_n 0, 1) := by decide +kernel
theorem dX7_init_77 : decode cX7_init 77 = .ok (.sipush 144, 3) := by decide +kernel
theorem dX7_init_80 : decode cX7_init 80 = .ok (.newarray .boolean, 2) := by decide +kernel
theorem dX7_init_82 : decode cX7_init 82 = .ok (.putfield 39, 3) := by decide +kernel
theorem dX7_init_85 : decode cX7_init 85 = .ok (.aload_n 0, 1) := by decide +kernel
theorem dX7_init_86 : decode cX7_init 86 = .ok (.iconst 4, 1) := by decide +kernel
theorem dX7_init_87 : decode cX7_init 87 = .ok (.newarray .long, 2) := by decide +kernel
theorem dX7_init_89 : decode cX7_init 89 = .ok (.putfield 42, 3) := by decide +kernel
theorem dX7_init_92 : decode cX7_init 92 = .ok (.aload_n 0, 1) := by decide +kernel
theorem dX7_init_93 : decode cX7_init 93 = .ok (.iconst 4, 1) := by decide +kernel
theorem dX7_init_94 : decode cX7_init 94 = .ok (.newarray .long, 2) := by decide +kernel
theorem dX7_init_96 : decode cX7_init 96 = .ok (.putfield 45, 3) := by decide +kernel
theorem dX7_init_99 : decode cX7_init 99 = .ok (.aload_n 0, 1) := by decide +kernel
theorem dX7_init_100 : decode cX7_init 100 = .ok (.bipush 13, 2) := by decide +kernel
theorem dX7_init_102 : decode cX7_init 102 = .ok (.newarray .int, 2) := by decide +kernel
theorem dX7_init_104 : decode cX7_init 104 = .ok (.putfield 48, 3) := by decide +kernel
theorem dX7_init_107 : decode cX7_init 107 = .ok (.aload_n 0, 1) := by decide +kernel
theorem dX7_init_108 : decode cX7_init 108 = .ok (.bipush 12, 2) := by decide +kernel
theorem dX7_init_110 : decode cX7_init 110 = .ok (.newarray .int, 2) := by decide +kernel
theorem dX7_init_112 : decode cX7_init 112 = .ok (.putfield 51, 3) := by decide +kernel
theorem dX7_init_115 : decode cX7_init 115 = .ok (.aload_n 0, 1) := by decide +kernel
theorem dX7_init_116 : decode cX7_init 116 = .ok (.bipush 12, 2) := by decide +kernel
theorem dX7_init_118 : decode cX7_init 118 = .ok (.newarray .int, 2) := by decide +kernel
theorem dX7_init_120 : decode cX7_init 120 = .ok (.putfield 54, 3) := by decide +kernel
theorem dX7_init_123 : decode cX7_init 123 = .ok (.aload_n 0, 1) := by decide +kernel
theorem dX7_init_124 : decode cX7_init 124 = .ok (.bipush 12, 2) := by decide +kernel
theorem dX7_init_126 : decode cX7_init 126 = .ok (.newarray .long, 2) := by decide +kernel
theorem dX7_init_128 : decode cX7_init 128 = .ok (.putfield 57, 3) := by decide +kernel
theorem dX7_init_131 : decode cX7_init 131 = .ok (.aload_n 0, 1) := by decide +kernel
theorem dX7_init_132 : decode cX7_init 132 = .ok (.bipush 13, 2) := by decide +kernel
theorem dX7_init_134 : decode cX7_init 134 = .ok (.newarray .int, 2) := by decide +kernel
theorem dX7_init_136 : decode cX7_init 136 = .ok (.putfield 60, 3) := by decide +kernel
theorem dX7_init_139 : decode cX7_init 139 = .ok (.aload_n 0, 1) := by decide +kernel
theorem dX7_init_140 : decode cX7_init 140 = .ok (.bipush 12, 2) := by decide +kernel
theorem dX7_init_142 : decode cX7_init 142 = .ok (.newarray .int, 2) := by decide +kernel
theorem dX7_init_144 : decode cX7_init 144 = .ok (.putfield 63, 3) := by decide +kernel
theorem dX7_init_147 : decode cX7_init 147 = .ok (.aload_n 0, 1) := by decide +kernel
theorem dX7_init_148 : decode cX7_init 148 = .ok (.lload_n 1, 1) := by decide +kernel
theorem dX7_init_149 : decode cX7_init 149 = .ok (.lconst 1, 1) := by decide +kernel
theorem dX7_init_150 : decode cX7_init 150 = .ok (.lcmp, 1) := by decide +kernel
theorem dX7_init_151 : decode cX7_init 151 = .ok (.ifCond .ge 7, 3) := by decide +kernel
theorem dX7_init_154 : decode cX7_init 154 = .ok (.lconst 1, 1) := by decide +kernel
theorem dX7_init_155 : decode cX7_init 155 = .ok (.goto 18, 3) := by decide +kernel
theorem dX7_init_158 : decode cX7_init 158 = .ok (.lload_n 1, 1) := by decide +kernel
theorem dX7_init_159 : decode cX7_init 159 = .ok (.ldc2_w 66, 3) := by decide +kernel
theorem dX7_init_162 : decode cX7_init 162 = .ok (.lcmp, 1) := by decide +kernel
theorem dX7_init_163 : decode cX7_init 163 = .ok (.ifCond .le 9, 3) := by decide +kernel
theorem dX7_init_166 : decode cX7_init 166 = .ok (.ldc2_w 66, 3) := by decide +kernel
theorem dX7_init_169 : decode cX7_init 169 = .ok (.goto 4, 3) := by decide +kernel
theorem dX7_init_172 : decode cX7_init 172 = .ok (.lload_n 1, 1) := by decide +kernel
theorem dX7_init_173 : decode cX7_init 173 = .ok (.putfield 68, 3) := by decide +kernel
theorem dX7_init_176 : decode cX7_init 176 = .ok (.return_, 1) := by decide +kernel
theorem dX7_thrown_0 : decode cX7_thrown 0 = .ok (.aload_n 0, 1) := by decide +kernel
theorem dX7_thrown_1 : decode cX7_thrown 1 = .ok (.getfield 72, 3) := by decide +kernel
theorem dX7_thrown_4 : decode cX7_thrown 4 = .ok (.ireturn, 1) := by decide +kernel
theorem dX7_isShape_0 : decode cX7_isShape 0 = .ok (.iload_n 1, 1) := by decide +kernel
theorem dX7_isShape_1 : decode cX7_isShape 1 = .ok (.ifCond .lt 15, 3) := by decide +kernel
theorem dX7_isShape_4 : decode cX7_isShape 4 = .ok (.iload_n 1, 1) := by decide +kernel
theorem dX7_isShape_5 : decode cX7_isShape 5 = .ok (.aload_n 0, 1) := by decide +kernel
theorem dX7_isShape_6 : decode cX7_isShape 6 = .ok (.getfield 76, 3) := by decide +kernel
theorem dX7_isShape_9 : decode cX7_isShape 9 = .ok (.if_icmp .ge 7, 3) := by decide +kernel
theorem dX7_isShape_12 : decode cX7_isShape 12 = .ok (.iconst 1, 1) := by decide +kernel
theorem dX7_isShape_13 : decode cX7_isShape 13 = .ok (.goto 4, 3) := by decide +kernel
theorem dX7_isShape_16 : decode cX7_isShape 16 = .ok (.iconst 0, 1) := by decide +kernel
theorem dX7_isShape_17 : decode cX7_isShape 17 = .ok (.ireturn, 1) := by decide +kernel
theorem dX7_isOpen_0 : decode cX7_isOpen 0 = .ok (.iconst 0, 1) := by decide +kernel
theorem dX7_isOpen_1 : decode cX7_isOpen 1 = .ok (.istore_n 1, 1) := by decide +kernel
theorem dX7_isOpen_2 : decode cX7_isOpen 2 = .ok (.iconst 0, 1) := by decide +kernel
theorem dX7_isOpen_3 : decode cX7_isOpen 3 = .ok (.istore_n 2, 1) := by decide +kernel
theorem dX7_isOpen_4 : decode cX7_isOpen 4 = .ok (.iload_n 2, 1) := by decide +kernel
theorem dX7_isOpen_5 : decode cX7_isOpen 5 = .ok (.aload_n 0, 1) := by decide +kernel
theorem dX7_isOpen_6 : decode cX7_isOpen 6 = .ok (.getfield 76, 3) := by decide +kernel
theorem dX7_isOpen_9 : decode cX7_isOpen 9 = .ok (.if_icmp .ge 40, 3) := by decide +kernel
theorem dX7_isOpen_12 : decode cX7_isOpen 12 = .ok (.iload_n 1, 1) := by decide +kernel
theorem dX7_isOpen_13 : decode cX7_isOpen 13 = .ok (.ifCond .ne 24, 3) := by decide +kernel
theorem dX7_isOpen_16 : decode cX7_isOpen 16 = .ok (.aload_n 0, 1) := by decide +kernel
theorem dX7_isOpen_17 : decode cX7_isOpen 17 = .ok (.getfield 16, 3) := by decide +kernel
theorem dX7_isOpen_20 : decode cX7_isOpen 20 = .ok (.iload_n 2, 1) := by decide +kernel
theorem dX7_isOpen_21 : decode cX7_isOpen 21 = .ok (.iaload, 1) := by decide +kernel
theorem dX7_isOpen_22 : decode cX7_isOpen 22 = .ok (.iconst 2, 1) := by decide +kernel
theorem dX7_isOpen_23 : decode cX7_isOpen 23 = .ok (.irem, 1) := by decide +kernel
theorem dX7_isOpen_24 : decode cX7_isOpen 24 = .ok (.iconst 1, 1) := by decide +kernel
theorem dX7_isOpen_25 : decode cX7_isOpen 25 = .ok (.if_icmp .eq 12, 3) := by decide +kernel
theorem dX7_isOpen_28 : decode cX7_isOpen 28 = .ok (.aload_n 0, 1) := by decide +kernel
theorem dX7_isOpen_29 : decode cX7_isOpen 29 = .ok (.getfield 16, 3) := by decide +kernel
theorem dX7_isOpen_32 : decode cX7_isOpen 32 = .ok (.iload_n 2, 1) := by decide +kernel
theorem dX7_isOpen_33 : decode cX7_isOpen 33 = .ok (.iaload, 1) := by decide +kernel
theorem dX7_isOpen_34 : decode cX7_isOpen 34 = .ok (.ifCond .ne 7, 3) := by decide +kernel
theorem dX7_isOpen_37 : decode cX7_isOpen 37 = .ok (.iconst 1, 1) := by decide +kernel
theorem dX7_isOpen_38 : decode cX7_isOpen 38 = .ok (.goto 4, 3) := by decide +kernel
theorem dX7_isOpen_41 : decode cX7_isOpen 41 = .ok (.iconst 0, 1) := by decide +kernel
theorem dX7_isOpen_42 : decode cX7_isOpen 42 = .ok (.istore_n 1, 1) := by decide +kernel
theorem dX7_isOpen_43 : decode cX7_isOpen 43 = .ok (.iinc 2 1, 3) := by decide +kernel
theorem dX7_isOpen_46 : decode cX7_isOpen 46 = .ok (.goto (-42), 3) := by decide +kernel
theorem dX7_isOpen_49 : decode cX7_isOpen 49 = .ok (.iload_n 1, 1) := by decide +kernel
theorem dX7_isOpen_50 : decode cX7_isOpen 50 = .ok (.ireturn, 1) := by decide +kernel
theorem dX7_allPieces_0 : decode cX7_allPieces 0 = .ok (.iconst 0, 1) := by decide +kernel
theorem dX7_allPieces_1 : decode cX7_allPieces 1 = .ok (.istore_n 1, 1) := by decide +kernel
theorem dX7_allPieces_2 : decode cX7_allPieces 2 = .ok (.iconst 0, 1) := by decide +kernel
theorem dX7_allPieces_3 : decode cX7_allPieces 3 = .ok (.istore_n 2, 1) := by decide +kernel
theorem dX7_allPieces_4 : decode cX7_allPieces 4 = .ok (.iload_n 2, 1) := by decide +kernel
theorem dX7_allPieces_5 : decode cX7_allPieces 5 = .ok (.aload_n 0, 1) := by decide +kernel
theorem dX7_allPieces_6 : decode cX7_allPieces 6 = .ok (.getfield 76, 3) := by decide +kernel
theorem dX7_allPieces_9 : decode cX7_allPieces 9 = .ok (.if_icmp .ge 20, 3) := by decide +kernel
theorem dX7_allPieces_12 : decode cX7_allPieces 12 = .ok (.iload_n 1, 1) := by decide +kernel
theorem dX7_allPieces_13 : decode cX7_allPieces 13 = .ok (.iconst 1, 1) := by decide +kernel
theorem dX7_allPieces_14 : decode cX7_allPieces 14 = .ok (.aload_n 0, 1) := by decide +kernel
theorem dX7_allPieces_15 : decode cX7_allPieces 15 = .ok (.getfield 26, 3) := by decide +kernel
theorem dX7_allPieces_18 : decode cX7_allPieces 18 = .ok (.iload_n 2, 1) := by decide +kernel
theorem dX7_allPieces_19 : decode cX7_allPieces 19 = .ok (.iaload, 1) := by decide +kernel
theorem dX7_allPieces_20 : decode cX7_allPieces 20 = .ok (.iadd, 1) := by decide +kernel
theorem dX7_allPieces_21 : decode cX7_allPieces 21 = .ok (.iadd, 1) := by decide +kernel
theorem dX7_allPieces_22 : decode cX7_allPieces 22 = .ok (.istore_n 1, 1) := by decide +kernel
theorem dX7_allPieces_23 : decode cX7_allPieces 23 = .ok (.iinc 2 1, 3) := by decide +kernel
theorem dX7_allPieces_26 : decode cX7_allPieces 26 = .ok (.goto (-22), 3) := by decide +kernel
theorem dX7_allPieces_29 : decode cX7_allPieces 29 = .ok (.iload_n 1, 1) := by decide +kernel
theorem dX7_allPieces_30 : decode cX7_allPieces 30 = .ok (.ireturn, 1) := by decide +kernel
theorem dX7_shape_0 : decode cX7_shape 0 = .ok (.aload_n 0, 1) := by decide +kernel
theorem dX7_shape_1 : decode cX7_shape 1 = .ok (.aload_n 0, 1) := by decide +kernel
theorem dX7_shape_2 : decode cX7_shape 2 = .ok (.getfield 76, 3) := by decide +kernel
theorem dX7_shape_5 : decode cX7_shape 5 = .ok (.bipush 10, 2) := by decide +kernel
theorem dX7_shape_7 : decode cX7_shape 7 = .ok (.if_icmp .eq 12, 3) := by decide +kernel
theorem dX7_shape_10 : decode cX7_shape 10 = .ok (.aload_n 0, 1) := by decide +kernel
theorem dX7_shape_11 : decode cX7_shape 11 = .ok (.invokevirtual 79, 3) := by decide +kernel
theorem dX7_shape_14 : decode cX7_shape 14 = .ok (.bipush 12, 2) := by decide +kernel
theorem dX7_shape_16 : decode cX7_shape 16 = .ok (.if_icmp .ne 7, 3) := by decide +kernel
theorem dX7_shape_19 : decode cX7_shape 19 = .ok (.iconst 1, 1) := by decide +kernel
theorem dX7_shape_20 : decode cX7_shape 20 = .ok (.goto 4, 3) := by decide +kernel
theorem dX7_shape_23 : decode cX7_shape 23 = .ok (.iconst 0, 1) := by decide +kernel
theorem dX7_shape_24 : decode cX7_shape 24 = .ok (.putfield 72, 3) := by decide +kernel
theorem dX7_shape_27 : decode cX7_shape 27 = .ok (.aload_n 0, 1) := by decide +kernel
theorem dX7_shape_28 : decode cX7_shape 28 = .ok (.getfield 72, 3) := by decide +kernel
theorem dX7_shape_31 : decode cX7_shape 31 = .ok (.ifCond .le 5, 3) := by decide +kernel
theorem dX7_shape_34 : decode cX7_shape 34 = .ok (.iconst 0, 1) := by decide +kernel
theorem dX7_shape_35 : decode cX7_shape 35 = .ok (.ireturn, 1) := by decide +kernel
theorem dX7_shape_36 : decode cX7_shape 36 = .ok (.aload_n 0, 1) := by decide +kernel
theorem dX7_shape_37 : decode cX7_shape 37 = .ok (.getfield 16, 3) := by decide +kernel
theorem dX7_shape_40 : decode cX7_shape 40 = .ok (.aload_n 0, 1) := by decide +kernel
theorem dX7_shape_41 : decode cX7_shape 41 = .ok (.getfield 76, 3) := by decide +kernel
theorem dX7_shape_44 : decode cX7_shape 44 = .ok (.iconst 0, 1) := by decide +kernel
theorem dX7_shape_45 : decode cX7_shape 45 = .ok (.iastore, 1) := by decide +kernel
theorem dX7_shape_46 : decode cX7_shape 46 = .ok (.aload_n 0, 1) := by decide +kernel
theorem dX7_shape_47 : decode cX7_shape 47 = .ok (.getfield 20, 3) := by decide +kernel
theorem dX7_shape_50 : decode cX7_shape 50 = .ok (.aload_n 0, 1) := by decide +kernel
theorem dX7_shape_51 : decode cX7_shape 51 = .ok (.getfield 76, 3) := by decide +kernel
theorem dX7_shape_54 : decode cX7_shape 54 = .ok (.iconst (-1), 1) := by decide +kernel
theorem dX7_shape_55 : decode cX7_shape 55 = .ok (.iastore, 1) := by decide +kernel
theorem dX7_shape_56 : decode cX7_shape 56 = .ok (.aload_n 0, 1) := by decide +kernel
theorem dX7_shape_57 : decode cX7_shape 57 = .ok (.getfield 26, 3) := by decide +kernel
theorem dX7_shape_60 : decode cX7_shape 60 = .ok (.aload_n 0, 1) := by decide +kernel
theorem dX7_shape_61 : decode cX7_shape 61 = .ok (.getfield 76, 3) := by decide +kernel
theorem dX7_shape_64 : decode cX7_shape 64 = .ok (.iconst 0, 1) := by decide +kernel
theorem dX7_shape_65 : decode cX7_shape 65 = .ok (.iastore, 1) := by decide +kernel
theorem dX7_shape_66 : decode cX7_shape 66 = .ok (.aload_n 0, 1) := by decide +kernel
theorem dX7_shape_67 : decode cX7_shape 67 = .ok (.dup, 1) := by decide +kernel
theorem dX7_shape_68 : decode cX7_shape 68 = .ok (.getfield 76, 3) := by decide +kernel
theorem dX7_shape_71 : decode cX7_shape 71 = .ok (.iconst 1, 1) := by decide +kernel
theorem dX7_shape_72 : decode cX7_shape 72 = .ok (.iadd, 1) := by decide +kernel
theorem dX7_shape_73 : decode cX7_shape 73 = .ok (.putfield 76, 3) := by decide +kernel
theorem dX7_shape_76 : decode cX7_shape 76 = .ok (.aload_n 0, 1) := by decide +kernel
theorem dX7_shape_77 : decode cX7_shape 77 = .ok (.getfield 76, 3) := by decide +kernel
theorem dX7_shape_80 : decode cX7_shape 80 = .ok (.iconst 1, 1) := by decide +kernel
theorem dX7_shape_81 : decode cX7_shape 81 = .ok (.isub, 1) := by decide +kernel
theorem dX7_shape_82 : decode cX7_shape 82 = .ok (.ireturn, 1) := by decide +kernel
theorem dX7_corner_0 : decode cX7_corner 0 = .ok (.aload_n 0, 1) := by decide +kernel
theorem dX7_corner_1 : decode cX7_corner 1 = .ok (.aload_n 0, 1) := by decide +kernel
theorem dX7_corner_2 : decode cX7_corner 2 = .ok (.iload_n 1, 1) := by decide +kernel
theorem dX7_corner_3 : decode cX7_corner 3 = .ok (.invokevirtual 83, 3) := by decide +kernel
theorem dX7_corner_6 : decode cX7_corner 6 = .ok (.ifCond .ne 7, 3) := by decide +kernel
theorem dX7_corner_9 : decode cX7_corner 9 = .ok (.iconst 1, 1) := by decide +kernel
theorem dX7_corner_10 : decode cX7_corner 10 = .ok (.goto 66, 3) := by decide +kernel
theorem dX7_corner_13 : decode cX7_corner 13 = .ok (.aload_n 0, 1) := by decide +kernel
theorem dX7_corner_14 : decode cX7_corner 14 = .ok (.getfield 16, 3) := by decide +kernel
theorem dX7_corner_17 : decode cX7_corner 17 = .ok (.iload_n 1, 1) := by decide +kernel
theorem dX7_corner_18 : decode cX7_corner 18 = .ok (.iaload, 1) := by decide +kernel
theorem dX7_corner_19 : decode cX7_corner 19 = .ok (.bipush 8, 2) := by decide +kernel
theorem dX7_corner_21 : decode cX7_corner 21 = .ok (.if_icmp .eq 12, 3) := by decide +kernel
theorem dX7_corner_24 : decode cX7_corner 24 = .ok (.aload_n 0, 1) := by decide +kernel
theorem dX7_corner_25 : decode cX7_corner 25 = .ok (.getfield 26, 3) := by decide +kernel
theorem dX7_corner_28 : decode cX7_corner 28 = .ok (.iload_n 1, 1) := by decide +kernel
theorem dX7_corner_29 : decode cX7_corner 29 = .ok (.iaload, 1) := by decide +kernel
theorem dX7_corner_30 : decode cX7_corner 30 = .ok (.ifCond .le 7, 3) := by decide +kernel
theorem dX7_corner_33 : decode cX7_corner 33 = .ok (.iconst 2, 1) := by decide +kernel
theorem dX7_corner_34 : decode cX7_corner 34 = .ok (.goto 42, 3) := by decide +kernel
theorem dX7_corner_37 : decode cX7_corner 37 = .ok (.lload_n 2, 1) := by decide +kernel
theorem dX7_corner_38 : decode cX7_corner 38 = .ok (.ldc2_w 87, 3) := by decide +kernel
theorem dX7_corner_41 : decode cX7_corner 41 = .ok (.lcmp, 1) := by decide +kernel
theorem dX7_corner_42 : decode cX7_corner 42 = .ok (.ifCond .lt 29, 3) := by decide +kernel
theorem dX7_corner_45 : decode cX7_corner 45 = .ok (.lload_n 2, 1) := by decide +kernel
theorem dX7_corner_46 : decode cX7_corner 46 = .ok (.ldc2_w 89, 3) := by decide +kernel
theorem dX7_corner_49 : decode cX7_corner 49 = .ok (.lcmp, 1) := by decide +kernel
theorem dX7_corner_50 : decode cX7_corner 50 = .ok (.ifCond .gt 21, 3) := by decide +kernel
theorem dX7_corner_53 : decode cX7_corner 53 = .ok (.lload 4, 2) := by decide +kernel
theorem dX7_corner_55 : decode cX7_corner 55 = .ok (.ldc2_w 87, 3) := by decide +kernel
theorem dX7_corner_58 : decode cX7_corner 58 = .ok (.lcmp, 1) := by decide +kernel
theorem dX7_corner_59 : decode cX7_corner 59 = .ok (.ifCond .lt 12, 3) := by decide +kernel
theorem dX7_corner_62 : decode cX7_corner 62 = .ok (.lload 4, 2) := by decide +kernel
theorem dX7_corner_64 : decode cX7_corner 64 = .ok (.ldc2_w 89, 3) := by decide +kernel
theorem dX7_corner_67 : decode cX7_corner 67 = .ok (.lcmp, 1) := by decide +kernel
theorem dX7_corner_68 : decode cX7_corner 68 = .ok (.ifCond .le 7, 3) := by decide +kernel
theorem dX7_corner_71 : decode cX7_corner 71 = .ok (.iconst 3, 1) := by decide +kernel
theorem dX7_corner_72 : decode cX7_corner 72 = .ok (.goto 4, 3) := by decide +kernel
theorem dX7_corner_75 : decode cX7_corner 75 = .ok (.iconst 0, 1) := by decide +kernel
theorem dX7_corner_76 : decode cX7_corner 76 = .ok (.putfield 72, 3) := by decide +kernel
theorem dX7_corner_79 : decode cX7_corner 79 = .ok (.aload_n 0, 1) := by decide +kernel
theorem dX7_corner_80 : decode cX7_corner 80 = .ok (.getfield 72, 3) := by decide +kernel
theorem dX7_corner_83 : decode cX7_corner 83 = .ok (.ifCond .le 5, 3) := by decide +kernel
theorem dX7_corner_86 : decode cX7_corner 86 = .ok (.iconst 0, 1) := by decide +kernel
theorem dX7_corner_87 : decode cX7_corner 87 = .ok (.ireturn, 1) := by decide +kernel
theorem dX7_corner_88 : decode cX7_corner 88 = .ok (.aload_n 0, 1) := by decide +kernel
theorem dX7_corner_89 : decode cX7_corner 89 = .ok (.getfield 7, 3) := by decide +kernel
theorem dX7_corner_92 : decode cX7_corner 92 = .ok (.bipush 8, 2) := by decide +kernel
theorem dX7_corner_94 : decode cX7_corner 94 = .ok (.iload_n 1, 1) := by decide +kernel
theorem dX7_corner_95 : decode cX7_corner 95 = .ok (.imul, 1) := by decide +kernel
theorem dX7_corner_96 : decode cX7_corner 96 = .ok (.aload_n 0, 1) := by decide +kernel
theorem dX7_corner_97 : decode cX7_corner 97 = .ok (.getfield 16, 3) := by decide +kernel
theorem dX7_corner_100 : decode cX7_corner 100 = .ok (.iload_n 1, 1) := by decide +kernel
theorem dX7_corner_101 : decode cX7_corner 101 = .ok (.iaload, 1) := by decide +kernel
theorem dX7_corner_102 : decode cX7_corner 102 = .ok (.iadd, 1) := by decide +kernel
theorem dX7_corner_103 : decode cX7_corner 103 = .ok (.lload_n 2, 1) := by decide +kernel
theorem dX7_corner_104 : decode cX7_corner 104 = .ok (.lastore, 1) := by decide +kernel
theorem dX7_corner_105 : decode cX7_corner 105 = .ok (.aload_n 0, 1) := by decide +kernel
theorem dX7_corner_106 : decode cX7_corner 106 = .ok (.getfield 13, 3) := by decide +kernel
theorem dX7_corner_109 : decode cX7_corner 109 = .ok (.bipush 8, 2) := by decide +kernel
theorem dX7_corner_111 : decode cX7_corner 111 = .ok (.iload_n 1, 1) := by decide +kernel
theorem dX7_corner_112 : decode cX7_corner 112 = .ok (.imul, 1) := by decide +kernel
theorem dX7_corner_113 : decode cX7_corner 113 = .ok (.aload_n 0, 1) := by decide +kernel
theorem dX7_corner_114 : decode cX7_corner 114 = .ok (.getfield 16, 3) := by decide +kernel
theorem dX7_corner_117 : decode cX7_corner 117 = .ok (.iload_n 1, 1) := by decide +kernel
theorem dX7_corner_118 : decode cX7_corner 118 = .ok (.iaload, 1) := by decide +kernel
theorem dX7_corner_119 : decode cX7_corner 119 = .ok (.iadd, 1) := by decide +kernel
theorem dX7_corner_120 : decode cX7_corner 120 = .ok (.lload 4, 2) := by decide +kernel
theorem dX7_corner_122 : decode cX7_corner 122 = .ok (.lastore, 1) := by decide +kernel
theorem dX7_corner_123 : decode cX7_corner 123 = .ok (.aload_n 0, 1) := by decide +kernel
theorem dX7_corner_124 : decode cX7_corner 124 = .ok (.getfield 16, 3) := by decide +kernel
theorem dX7_corner_127 : decode cX7_corner 127 = .ok (.iload_n 1, 1) := by decide +kernel
theorem dX7_corner_128 : decode cX7_corner 128 = .ok (.dup2, 1) := by decide +kernel
theorem dX7_corner_129 : decode cX7_corner 129 = .ok (.iaload, 1) := by decide +kernel
theorem dX7_corner_130 : decode cX7_corner 130 = .ok (.iconst 1, 1) := by decide +kernel
theorem dX7_corner_131 : decode cX7_corner 131 = .ok (.iadd, 1) := by decide +kernel
theorem dX7_corner_132 : decode cX7_corner 132 = .ok (.iastore, 1) := by decide +kernel
theorem dX7_corner_133 : decode cX7_corner 133 = .ok (.aload_n 0, 1) := by decide +kernel
theorem dX7_corner_134 : decode cX7_corner 134 = .ok (.getfield 16, 3) := by decide +kernel
theorem dX7_corner_137 : decode cX7_corner 137 = .ok (.iload_n 1, 1) := by decide +kernel
theorem dX7_corner_138 : decode cX7_corner 138 = .ok (.iaload, 1) := by decide +kernel
theorem dX7_corner_139 : decode cX7_corner 139 = .ok (.iconst 2, 1) := by decide +kernel
theorem dX7_corner_140 : decode cX7_corner 140 = .ok (.irem, 1) := by decide +kernel
theorem dX7_corner_141 : decode cX7_corner 141 = .ok (.ifCond .ne 7, 3) := by decide +kernel
theorem dX7_corner_144 : decode cX7_corner 144 = .ok (.iconst 1, 1) := by decide +kernel
theorem dX7_corner_145 : decode cX7_corner 145 = .ok (.goto 4, 3) := by decide +kernel
theorem dX7_corner_148 : decode cX7_corner 148 = .ok (.iconst 0, 1) := by decide +kernel
theorem dX7_corner_149 : decode cX7_corner 149 = .ok (.ireturn, 1) := by decide +kernel
theorem dX7_clear_0 : decode cX7_clear 0 = .ok (.aload_n 0, 1) := by decide +kernel
theorem dX7_clear_1 : decode cX7_clear 1 = .ok (.iconst 0, 1) := by decide +kernel
theorem dX7_clear_2 : decode cX7_clear 2 = .ok (.putfield 72, 3) := by decide +kernel
theorem dX7_clear_5 : decode cX7_clear 5 = .ok (.aload_n 0, 1) := by decide +kernel
theorem dX7_clear_6 : decode cX7_clear 6 = .ok (.iconst 0, 1) := by decide +kernel
theorem dX7_clear_7 : decode cX7_clear 7 = .ok (.putfield 76, 3) := by decide +kernel
theorem dX7_clear_10 : decode cX7_clear 10 = .ok (.aload_n 0, 1) := by decide +kernel
theorem dX7_clear_11 : decode cX7_clear 11 = .ok (.iconst 0, 1) := by decide +kernel
theorem dX7_clear_12 : decode cX7_clear 12 = .ok (.putfield 91, 3) := by decide +kernel
theorem dX7_clear_15 : decode cX7_clear 15 = .ok (.aload_n 0, 1) := by decide +kernel
theorem dX7_clear_16 : decode cX7_clear 16 = .ok (.iconst 0, 1) := by decide +kernel
theorem dX7_clear_17 : decode cX7_clear 17 = .ok (.putfield 95, 3) := by decide +kernel
theorem dX7_clear_20 : decode cX7_clear 20 = .ok (.aload_n 0, 1) := by decide +kernel
theorem dX7_clear_21 : decode cX7_clear 21 = .ok (.iconst 0, 1) := by decide +kernel
theorem dX7_clear_22 : decode cX7_clear 22 = .ok (.putfield 98, 3) := by decide +kernel
theorem dX7_clear_25 : decode cX7_clear 25 = .ok (.return_, 1) := by decide +kernel
theorem dX7_low_0 : decode cX7_low 0 = .ok (.lload_n 0, 1) := by decide +kernel
theorem dX7_low_1 : decode cX7_low 1 = .ok (.lload_n 2, 1) := by decide +kernel
theorem dX7_low_2 : decode cX7_low 2 = .ok (.lcmp, 1) := by decide +kernel
theorem dX7_low_3 : decode cX7_low 3 = .ok (.ifCond .ge 7, 3) := by decide +kernel
theorem dX7_low_6 : decode cX7_low 6 = .ok (.lload_n 0, 1) := by decide +kernel
theorem dX7_low_7 : decode cX7_low 7 = .ok (.goto 4, 3) := by decide +kernel
theorem dX7_low_10 : decode cX7_low 10 = .ok (.lload_n 2, 1) := by decide +kernel
theorem dX7_low_11 : decode cX7_low 11 = .ok (.lreturn, 1) := by decide +kernel
theorem dX7_high_0 : decode cX7_high 0 = .ok (.lload_n 0, 1) := by decide +kernel
theorem dX7_high_1 : decode cX7_high 1 = .ok (.lload_n 2, 1) := by decide +kernel
theorem dX7_high_2 : decode cX7_high 2 = .ok (.lcmp, 1) := by decide +kernel
theorem dX7_high_3 : decode cX7_high 3 = .ok (.ifCond .le 7, 3) := by decide +kernel
theorem dX7_high_6 : decode cX7_high 6 = .ok (.lload_n 0, 1) := by decide +kernel
theorem dX7_high_7 : decode cX7_high 7 = .ok (.goto 4, 3) := by decide +kernel
theorem dX7_high_10 : decode cX7_high 10 = .ok (.lload_n 2, 1) := by decide +kernel
theorem dX7_high_11 : decode cX7_high 11 = .ok (.lreturn, 1) := by decide +kernel
theorem dX7_boxes_0 : decode cX7_boxes 0 = .ok (.aload_n 0, 1) := by decide +kernel
theorem dX7_boxes_1 : decode cX7_boxes 1 = .ok (.getfield 26, 3) := by decide +kernel
theorem dX7_boxes_4 : decode cX7_boxes 4 = .ok (.iload_n 1, 1) := by decide +kernel
theorem dX7_boxes_5 : decode cX7_boxes 5 = .ok (.iaload, 1) := by decide +kernel
theorem dX7_boxes_6 : decode cX7_boxes 6 = .ok (.ifCond .le 7, 3) := by decide +kernel
theorem dX7_boxes_9 : decode cX7_boxes 9 = .ok (.iconst 1, 1) := by decide +kernel
theorem dX7_boxes_10 : decode cX7_boxes 10 = .ok (.goto 11, 3) := by decide +kernel
theorem dX7_boxes_13 : decode cX7_boxes 13 = .ok (.aload_n 0, 1) := by decide +kernel
theorem dX7_boxes_14 : decode cX7_boxes 14 = .ok (.getfield 16, 3) := by decide +kernel
theorem dX7_boxes_17 : decode cX7_boxes 17 = .ok (.iload_n 1, 1) := by decide +kernel
theorem dX7_boxes_18 : decode cX7_boxes 18 = .ok (.iaload, 1) := by decide +kernel
theorem dX7_boxes_19 : decode cX7_boxes 19 = .ok (.iconst 2, 1) := by decide +kernel
theorem dX7_boxes_20 : decode cX7_boxes 20 = .ok (.idiv, 1) := by decide +kernel
theorem dX7_boxes_21 : decode cX7_boxes 21 = .ok (.ireturn, 1) := by decide +kernel
theorem dX7_load_0 : decode cX7_load 0 = .ok (.bipush 8, 2) := by decide +kernel
theorem dX7_load_2 : decode cX7_load 2 = .ok (.iload_n 1, 1) := by decide +kernel
theorem dX7_load_3 : decode cX7_load 3 = .ok (.imul, 1) := by decide +kernel
theorem dX7_load_4 : decode cX7_load 4 = .ok (.iconst 2, 1) := by decide +kernel
theorem dX7_load_5 : decode cX7_load 5 = .ok (.iload_n 3, 1) := by decide +kernel
theorem dX7_load_6 : decode cX7_load 6 = .ok (.imul, 1) := by decide +kernel
theorem dX7_load_7 : decode cX7_load 7 = .ok (.iadd, 1) := by decide +kernel
theorem dX7_load_8 : decode cX7_load 8 = .ok (.istore 5, 2) := by decide +kernel
theorem dX7_load_10 : decode cX7_load 10 = .ok (.aload_n 0, 1) := by decide +kernel
theorem dX7_load_11 : decode cX7_load 11 = .ok (.getfield 7, 3) := by decide +kernel
theorem dX7_load_14 : decode cX7_load 14 = .ok (.iload 5, 2) := by decide +kernel
theorem dX7_load_16 : decode cX7_load 16 = .ok (.laload, 1) := by decide +kernel
theorem dX7_load_17 : decode cX7_load 17 = .ok (.aload_n 0, 1) := by decide +kernel
theorem dX7_load_18 : decode cX7_load 18 = .ok (.getfield 7, 3) := by decide +kernel
theorem dX7_load_21 : decode cX7_load 21 = .ok (.iload 5, 2) := by decide +kernel
theorem dX7_load_23 : decode cX7_load 23 = .ok (.iconst 1, 1) := by decide +kernel
theorem dX7_load_24 : decode cX7_load 24 = .ok (.iadd, 1) := by decide +kernel
theorem dX7_load_25 : decode cX7_load 25 = .ok (.laload, 1) := by decide +kernel
theorem dX7_load_26 : decode cX7_load 26 = .ok (.invokestatic 101, 3) := by decide +kernel
theorem dX7_load_29 : decode cX7_load 29 = .ok (.lstore 6, 2) := by decide +kernel
theorem dX7_load_31 : decode cX7_load 31 = .ok (.aload_n 0, 1) := by decide +kernel
theorem dX7_load_32 : decode cX7_load 32 = .ok (.getfield 7, 3) := by decide +kernel
theorem dX7_load_35 : decode cX7_load 35 = .ok (.iload 5, 2) := by decide +kernel
theorem dX7_load_37 : decode cX7_load 37 = .ok (.laload, 1) := by decide +kernel
theorem dX7_load_38 : decode cX7_load 38 = .ok (.aload_n 0, 1) := by decide +kernel
theorem dX7_load_39 : decode cX7_load 39 = .ok (.getfield 7, 3) := by decide +kernel
theorem dX7_load_42 : decode cX7_load 42 = .ok (.iload 5, 2) := by decide +kernel
theorem dX7_load_44 : decode cX7_load 44 = .ok (.iconst 1, 1) := by decide +kernel
theorem dX7_load_45 : decode cX7_load 45 = .ok (.iadd, 1) := by decide +kernel
theorem dX7_load_46 : decode cX7_load 46 = .ok (.laload, 1) := by decide +kernel
theorem dX7_load_47 : decode cX7_load 47 = .ok (.invokestatic 105, 3) := by decide +kernel
theorem dX7_load_50 : decode cX7_load 50 = .ok (.lstore 8, 2) := by decide +kernel
theorem dX7_load_52 : decode cX7_load 52 = .ok (.aload_n 0, 1) := by decide +kernel
theorem dX7_load_53 : decode cX7_load 53 = .ok (.getfield 13, 3) := by decide +kernel
theorem dX7_load_56 : decode cX7_load 56 = .ok (.iload 5, 2) := by decide +kernel
theorem dX7_load_58 : decode cX7_load 58 = .ok (.laload, 1) := by decide +kernel
theorem dX7_load_59 : decode cX7_load 59 = .ok (.aload_n 0, 1) := by decide +kernel
theorem dX7_load_60 : decode cX7_load 60 = .ok (.getfield 13, 3) := by decide +kernel
theorem dX7_load_63 : decode cX7_load 63 = .ok (.iload 5, 2) := by decide +kernel
theorem dX7_load_65 : decode cX7_load 65 = .ok (.iconst 1, 1) := by decide +kernel
theorem dX7_load_66 : decode cX7_load 66 = .ok (.iadd, 1) := by decide +kernel
theorem dX7_load_67 : decode cX7_load 67 = .ok (.laload, 1) := by decide +kernel
theorem dX7_load_68 : decode cX7_load 68 = .ok (.invokestatic 101, 3) := by decide +kernel
theorem dX7_load_71 : decode cX7_load 71 = .ok (.lstore 10, 2) := by decide +kernel
theorem dX7_load_73 : decode cX7_load 73 = .ok (.aload_n 0, 1) := by decide +kernel
theorem dX7_load_74 : decode cX7_load 74 = .ok (.getfield 13, 3) := by decide +kernel
theorem dX7_load_77 : decode cX7_load 77 = .ok (.iload 5, 2) := by decide +kernel
theorem dX7_load_79 : decode cX7_load 79 = .ok (.laload, 1) := by decide +kernel
theorem dX7_load_80 : decode cX7_load 80 = .ok (.aload_n 0, 1) := by decide +kernel
theorem dX7_load_81 : decode cX7_load 81 = .ok (.getfield 13, 3) := by decide +kernel
theorem dX7_load_84 : decode cX7_load 84 = .ok (.iload 5, 2) := by decide +kernel
theorem dX7_load_86 : decode cX7_load 86 = .ok (.iconst 1, 1) := by decide +kernel
theorem dX7_load_87 : decode cX7_load 87 = .ok (.iadd, 1) := by decide +kernel
theorem dX7_load_88 : decode cX7_load 88 = .ok (.laload, 1) := by decide +kernel
theorem dX7_load_89 : decode cX7_load 89 = .ok (.invokestatic 105, 3) := by decide +kernel
theorem dX7_load_92 : decode cX7_load 92 = .ok (.lstore 12, 2) := by decide +kernel
theorem dX7_load_94 : decode cX7_load 94 = .ok (.aload_n 0, 1) := by decide +kernel
theorem dX7_load_95 : decode cX7_load 95 = .ok (.getfield 26, 3) := by decide +kernel
theorem dX7_load_98 : decode cX7_load 98 = .ok (.iload_n 1, 1) := by decide +kernel
theorem dX7_load_99 : decode cX7_load 99 = .ok (.iaload, 1) := by decide +kernel
theorem dX7_load_100 : decode cX7_load 100 = .ok (.ifCond .le 65, 3) := by decide +kernel
theorem dX7_load_103 : decode cX7_load 103 = .ok (.aload_n 0, 1) := by decide +kernel
theorem dX7_load_104 : decode cX7_load 104 = .ok (.getfield 29, 3) := by decide +kernel
theorem dX7_load_107 : decode cX7_load 107 = .ok (.iload_n 1, 1) := by decide +kernel
theorem dX7_load_108 : decode cX7_load 108 = .ok (.baload, 1) := by decide +kernel
theorem dX7_load_109 : decode cX7_load 109 = .ok (.ifCond .eq 56, 3) := by decide +kernel
theorem dX7_load_112 : decode cX7_load 112 = .ok (.iload_n 2, 1) := by decide +kernel
theorem dX7_load_113 : decode cX7_load 113 = .ok (.ifCond .le 18, 3) := by decide +kernel
theorem dX7_load_116 : decode cX7_load 116 = .ok (.aload_n 0, 1) := by decide +kernel
theorem dX7_load_117 : decode cX7_load 117 = .ok (.getfield 23, 3) := by decide +kernel
theorem dX7_load_120 : decode cX7_load 120 = .ok (.iconst 3, 1) := by decide +kernel
theorem dX7_load_121 : decode cX7_load 121 = .ok (.iload_n 1, 1) := by decide +kernel
theorem dX7_load_122 : decode cX7_load 122 = .ok (.imul, 1) := by decide +kernel
theorem dX7_load_123 : decode cX7_load 123 = .ok (.iload_n 2, 1) := by decide +kernel
theorem dX7_load_124 : decode cX7_load 124 = .ok (.iadd, 1) := by decide +kernel
theorem dX7_load_125 : decode cX7_load 125 = .ok (.iconst 1, 1) := by decide +kernel
theorem dX7_load_126 : decode cX7_load 126 = .ok (.isub, 1) := by decide +kernel
theorem dX7_load_127 : decode cX7_load 127 = .ok (.laload, 1) := by decide +kernel
theorem dX7_load_128 : decode cX7_load 128 = .ok (.goto 5, 3) := by decide +kernel
theorem dX7_load_131 : decode cX7_load 131 = .ok (.lload 6, 2) := by decide +kernel
theorem dX7_load_133 : decode cX7_load 133 = .ok (.lstore 6, 2) := by decide +kernel
theorem dX7_load_135 : decode cX7_load 135 = .ok (.iload_n 2, 1) := by decide +kernel
theorem dX7_load_136 : decode cX7_load 136 = .ok (.aload_n 0, 1) := by decide +kernel
theorem dX7_load_137 : decode cX7_load 137 = .ok (.getfield 26, 3) := by decide +kernel
theorem dX7_load_140 : decode cX7_load 140 = .ok (.iload_n 1, 1) := by decide +kernel
theorem dX7_load_141 : decode cX7_load 141 = .ok (.iaload, 1) := by decide +kernel
theorem dX7_load_142 : decode cX7_load 142 = .ok (.if_icmp .ge 16, 3) := by decide +kernel
theorem dX7_load_145 : decode cX7_load 145 = .ok (.aload_n 0, 1) := by decide +kernel
theorem dX7_load_146 : decode cX7_load 146 = .ok (.getfield 23, 3) := by decide +kernel
theorem dX7_load_149 : decode cX7_load 149 = .ok (.iconst 3, 1) := by decide +kernel
theorem dX7_load_150 : decode cX7_load 150 = .ok (.iload_n 1, 1) := by decide +kernel
theorem dX7_load_151 : decode cX7_load 151 = .ok (.imul, 1) := by decide +kernel
theorem dX7_load_152 : decode cX7_load 152 = .ok (.iload_n 2, 1) := by decide +kernel
theorem dX7_load_153 : decode cX7_load 153 = .ok (.iadd, 1) := by decide +kernel
theorem dX7_load_154 : decode cX7_load 154 = .ok (.laload, 1) := by decide +kernel
theorem dX7_load_155 : decode cX7_load 155 = .ok (.goto 5, 3) := by decide +kernel
theorem dX7_load_158 : decode cX7_load 158 = .ok (.lload 8, 2) := by decide +kernel
theorem dX7_load_160 : decode cX7_load 160 = .ok (.lstore 8, 2) := by decide +kernel
theorem dX7_load_162 : decode cX7_load 162 = .ok (.goto 62, 3) := by decide +kernel
theorem dX7_load_165 : decode cX7_load 165 = .ok (.aload_n 0, 1) := by decide +kernel
theorem dX7_load_166 : decode cX7_load 166 = .ok (.getfield 26, 3) := by decide +kernel
theorem dX7_load_169 : decode cX7_load 169 = .ok (.iload_n 1, 1) := by decide +kernel
theorem dX7_load_170 : decode cX7_load 170 = .ok (.iaload, 1) := by decide +kernel
theorem dX7_load_171 : decode cX7_load 171 = .ok (.ifCond .le 53, 3) := by decide +kernel
theorem dX7_load_174 : decode cX7_load 174 = .ok (.iload_n 2, 1) := by decide +kernel
theorem dX7_load_175 : decode cX7_load 175 = .ok (.ifCond .le 18, 3) := by decide +kernel
theorem dX7_load_178 : decode cX7_load 178 = .ok (.aload_n 0, 1) := by decide +kernel
theorem dX7_load_179 : decode cX7_load 179 = .ok (.getfield 23, 3) := by decide +kernel
theorem dX7_load_182 : decode cX7_load 182 = .ok (.iconst 3, 1) := by decide +kernel
theorem dX7_load_183 : decode cX7_load 183 = .ok (.iload_n 1, 1) := by decide +kernel
theorem dX7_load_184 : decode cX7_load 184 = .ok (.imul, 1) := by decide +kernel
theorem dX7_load_185 : decode cX7_load 185 = .ok (.iload_n 2, 1) := by decide +kernel
theorem dX7_load_186 : decode cX7_load 186 = .ok (.iadd, 1) := by decide +kernel
theorem dX7_load_187 : decode cX7_load 187 = .ok (.iconst 1, 1) := by decide +kernel
theorem dX7_load_188 : decode cX7_load 188 = .ok (.isub, 1) := by decide +kernel
theorem dX7_load_189 : decode cX7_load 189 = .ok (.laload, 1) := by decide +kernel
theorem dX7_load_190 : decode cX7_load 190 = .ok (.goto 5, 3) := by decide +kernel
theorem dX7_load_193 : decode cX7_load 193 = .ok (.lload 10, 2) := by decide +kernel
theorem dX7_load_195 : decode cX7_load 195 = .ok (.lstore 10, 2) := by decide +kernel
theorem dX7_load_197 : decode cX7_load 197 = .ok (.iload_n 2, 1) := by decide +kernel
theorem dX7_load_198 : decode cX7_load 198 = .ok (.aload_n 0, 1) := by decide +kernel
theorem dX7_load_199 : decode cX7_load 199 = .ok (.getfield 26, 3) := by decide +kernel
theorem dX7_load_202 : decode cX7_load 202 = .ok (.iload_n 1, 1) := by decide +kernel
theorem dX7_load_203 : decode cX7_load 203 = .ok (.iaload, 1) := by decide +kernel
theorem dX7_load_204 : decode cX7_load 204 = .ok (.if_icmp .ge 16, 3) := by decide +kernel
theorem dX7_load_207 : decode cX7_load 207 = .ok (.aload_n 0, 1) := by decide +kernel
theorem dX7_load_208 : decode cX7_load 208 = .ok (.getfield 23, 3) := by decide +kernel
theorem dX7_load_211 : decode cX7_load 211 = .ok (.iconst 3, 1) := by decide +kernel
theorem dX7_load_212 : decode cX7_load 212 = .ok (.iload_n 1, 1) := by decide +kernel
theorem dX7_load_213 : decode cX7_load 213 = .ok (.imul, 1) := by decide +kernel
theorem dX7_load_214 : decode cX7_load 214 = .ok (.iload_n 2, 1) := by decide +kernel
theorem dX7_load_215 : decode cX7_load 215 = .ok (.iadd, 1) := by decide +kernel
theorem dX7_load_216 : decode cX7_load 216 = .ok (.laload, 1) := by decide +kernel
theorem dX7_load_217 : decode cX7_load 217 = .ok (.goto 5, 3) := by decide +kernel
theorem dX7_load_220 : decode cX7_load 220 = .ok (.lload 12, 2) := by decide +kernel
theorem dX7_load_222 : decode cX7_load 222 = .ok (.lstore 12, 2) := by decide +kernel
theorem dX7_load_224 : decode cX7_load 224 = .ok (.iload 4, 2) := by decide +kernel
theorem dX7_load_226 : decode cX7_load 226 = .ok (.ifCond .eq 38, 3) := by decide +kernel
theorem dX7_load_229 : decode cX7_load 229 = .ok (.aload_n 0, 1) := by decide +kernel
theorem dX7_load_230 : decode cX7_load 230 = .ok (.getfield 42, 3) := by decide +kernel
theorem dX7_load_233 : decode cX7_load 233 = .ok (.iconst 0, 1) := by decide +kernel
theorem dX7_load_234 : decode cX7_load 234 = .ok (.lload 6, 2) := by decide +kernel
theorem dX7_load_236 : decode cX7_load 236 = .ok (.lastore, 1) := by decide +kernel
theorem dX7_load_237 : decode cX7_load 237 = .ok (.aload_n 0, 1) := by decide +kernel
theorem dX7_load_238 : decode cX7_load 238 = .ok (.getfield 42, 3) := by decide +kernel
theorem dX7_load_241 : decode cX7_load 241 = .ok (.iconst 1, 1) := by decide +kernel
theorem dX7_load_242 : decode cX7_load 242 = .ok (.lload 10, 2) := by decide +kernel
theorem dX7_load_244 : decode cX7_load 244 = .ok (.lastore, 1) := by decide +kernel
theorem dX7_load_245 : decode cX7_load 245 = .ok (.aload_n 0, 1) := by decide +kernel
theorem dX7_load_246 : decode cX7_load 246 = .ok (.getfield 42, 3) := by decide +kernel
theorem dX7_load_249 : decode cX7_load 249 = .ok (.iconst 2, 1) := by decide +kernel
theorem dX7_load_250 : decode cX7_load 250 = .ok (.lload 8, 2) := by decide +kernel
theorem dX7_load_252 : decode cX7_load 252 = .ok (.lastore, 1) := by decide +kernel
theorem dX7_load_253 : decode cX7_load 253 = .ok (.aload_n 0, 1) := by decide +kernel
theorem dX7_load_254 : decode cX7_load 254 = .ok (.getfield 42, 3) := by decide +kernel
theorem dX7_load_257 : decode cX7_load 257 = .ok (.iconst 3, 1) := by decide +kernel
theorem dX7_load_258 : decode cX7_load 258 = .ok (.lload 12, 2) := by decide +kernel
theorem dX7_load_260 : decode cX7_load 260 = .ok (.lastore, 1) := by decide +kernel
theorem dX7_load_261 : decode cX7_load 261 = .ok (.goto 35, 3) := by decide +kernel
theorem dX7_load_264 : decode cX7_load 264 = .ok (.aload_n 0, 1) := by decide +kernel
theorem dX7_load_265 : decode cX7_load 265 = .ok (.getfield 45, 3) := by decide +kernel
theorem dX7_load_268 : decode cX7_load 268 = .ok (.iconst 0, 1) := by decide +kernel
theorem dX7_load_269 : decode cX7_load 269 = .ok (.lload 6, 2) := by decide +kernel
theorem dX7_load_271 : decode cX7_load 271 = .ok (.lastore, 1) := by decide +kernel
theorem dX7_load_272 : decode cX7_load 272 = .ok (.aload_n 0, 1) := by decide +kernel
theorem dX7_load_273 : decode cX7_load 273 = .ok (.getfield 45, 3) := by decide +kernel
theorem dX7_load_276 : decode cX7_load 276 = .ok (.iconst 1, 1) := by decide +kernel
theorem dX7_load_277 : decode cX7_load 277 = .ok (.lload 10, 2) := by decide +kernel
theorem dX7_load_279 : decode cX7_load 279 = .ok (.lastore, 1) := by decide +kernel
theorem dX7_load_280 : decode cX7_load 280 = .ok (.aload_n 0, 1) := by decide +kernel
theorem dX7_load_281 : decode cX7_load 281 = .ok (.getfield 45, 3) := by decide +kernel
theorem dX7_load_284 : decode cX7_load 284 = .ok (.iconst 2, 1) := by decide +kernel
theorem dX7_load_285 : decode cX7_load 285 = .ok (.lload 8, 2) := by decide +kernel
theorem dX7_load_287 : decode cX7_load 287 = .ok (.lastore, 1) := by decide +kernel
theorem dX7_load_288 : decode cX7_load 288 = .ok (.aload_n 0, 1) := by decide +kernel
theorem dX7_load_289 : decode cX7_load 289 = .ok (.getfield 45, 3) := by decide +kernel
theorem dX7_load_292 : decode cX7_load 292 = .ok (.iconst 3, 1) := by decide +kernel
theorem dX7_load_293 : decode cX7_load 293 = .ok (.lload 12, 2) := by decide +kernel
theorem dX7_load_295 : decode cX7_load 295 = .ok (.lastore, 1) := by decide +kernel
theorem dX7_load_296 : decode cX7_load 296 = .ok (.return_, 1) := by decide +kernel
theorem dX7_isNearBox_0 : decode cX7_isNearBox 0 = .ok (.lconst 0, 1) := by decide +kernel
theorem dX7_isNearBox_1 : decode cX7_isNearBox 1 = .ok (.aload_n 0, 1) := by decide +kernel
theorem dX7_isNearBox_2 : decode cX7_isNearBox 2 = .ok (.getfield 42, 3) := by decide +kernel
theorem dX7_isNearBox_5 : decode cX7_isNearBox 5 = .ok (.iconst 0, 1) := by decide +kernel
theorem dX7_isNearBox_6 : decode cX7_isNearBox 6 = .ok (.laload, 1) := by decide +kernel
theorem dX7_isNearBox_7 : decode cX7_isNearBox 7 = .ok (.aload_n 0, 1) := by decide +kernel
theorem dX7_isNearBox_8 : decode cX7_isNearBox 8 = .ok (.getfield 45, 3) := by decide +kernel
theorem dX7_isNearBox_11 : decode cX7_isNearBox 11 = .ok (.iconst 0, 1) := by decide +kernel
theorem dX7_isNearBox_12 : decode cX7_isNearBox 12 = .ok (.laload, 1) := by decide +kernel
theorem dX7_isNearBox_13 : decode cX7_isNearBox 13 = .ok (.invokestatic 105, 3) := by decide +kernel
theorem dX7_isNearBox_16 : decode cX7_isNearBox 16 = .ok (.aload_n 0, 1) := by decide +kernel
theorem dX7_isNearBox_17 : decode cX7_isNearBox 17 = .ok (.getfield 42, 3) := by decide +kernel
theorem dX7_isNearBox_20 : decode cX7_isNearBox 20 = .ok (.iconst 2, 1) := by decide +kernel
theorem dX7_isNearBox_21 : decode cX7_isNearBox 21 = .ok (.laload, 1) := by decide +kernel
theorem dX7_isNearBox_22 : decode cX7_isNearBox 22 = .ok (.aload_n 0, 1) := by decide +kernel
theorem dX7_isNearBox_23 : decode cX7_isNearBox 23 = .ok (.getfield 45, 3) := by decide +kernel
theorem dX7_isNearBox_26 : decode cX7_isNearBox 26 = .ok (.iconst 2, 1) := by decide +kernel
theorem dX7_isNearBox_27 : decode cX7_isNearBox 27 = .ok (.laload, 1) := by decide +kernel
theorem dX7_isNearBox_28 : decode cX7_isNearBox 28 = .ok (.invokestatic 101, 3) := by decide +kernel
theorem dX7_isNearBox_31 : decode cX7_isNearBox 31 = .ok (.lsub, 1) := by decide +kernel
theorem dX7_isNearBox_32 : decode cX7_isNearBox 32 = .ok (.invokestatic 105, 3) := by decide +kernel
theorem dX7_isNearBox_35 : decode cX7_isNearBox 35 = .ok (.lstore_n 1, 1) := by decide +kernel
theorem dX7_isNearBox_36 : decode cX7_isNearBox 36 = .ok (.lconst 0, 1) := by decide +kernel
theorem dX7_isNearBox_37 : decode cX7_isNearBox 37 = .ok (.aload_n 0, 1) := by decide +kernel
theorem dX7_isNearBox_38 : decode cX7_isNearBox 38 = .ok (.getfield 42, 3) := by decide +kernel
theorem dX7_isNearBox_41 : decode cX7_isNearBox 41 = .ok (.iconst 1, 1) := by decide +kernel
theorem dX7_isNearBox_42 : decode cX7_isNearBox 42 = .ok (.laload, 1) := by decide +kernel
theorem dX7_isNearBox_43 : decode cX7_isNearBox 43 = .ok (.aload_n 0, 1) := by decide +kernel
theorem dX7_isNearBox_44 : decode cX7_isNearBox 44 = .ok (.getfield 45, 3) := by decide +kernel
theorem dX7_isNearBox_47 : decode cX7_isNearBox 47 = .ok (.iconst 1, 1) := by decide +kernel
theorem dX7_isNearBox_48 : decode cX7_isNearBox 48 = .ok (.laload, 1) := by decide +kernel
theorem dX7_isNearBox_49 : decode cX7_isNearBox 49 = .ok (.invokestatic 105, 3) := by decide +kernel
theorem dX7_isNearBox_52 : decode cX7_isNearBox 52 = .ok (.aload_n 0, 1) := by decide +kernel
theorem dX7_isNearBox_53 : decode cX7_isNearBox 53 = .ok (.getfield 42, 3) := by decide +kernel
theorem dX7_isNearBox_56 : decode cX7_isNearBox 56 = .ok (.iconst 3, 1) := by decide +kernel
theorem dX7_isNearBox_57 : decode cX7_isNearBox 57 = .ok (.laload, 1) := by decide +kernel
theorem dX7_isNearBox_58 : decode cX7_isNearBox 58 = .ok (.aload_n 0, 1) := by decide +kernel
theorem dX7_isNearBox_59 : decode cX7_isNearBox 59 = .ok (.getfield 45, 3) := by decide +kernel
theorem dX7_isNearBox_62 : decode cX7_isNearBox 62 = .ok (.iconst 3, 1) := by decide +kernel
theorem dX7_isNearBox_63 : decode cX7_isNearBox 63 = .ok (.laload, 1) := by decide +kernel
theorem dX7_isNearBox_64 : decode cX7_isNearBox 64 = .ok (.invokestatic 101, 3) := by decide +kernel
theorem dX7_isNearBox_67 : decode cX7_isNearBox 67 = .ok (.lsub, 1) := by decide +kernel
theorem dX7_isNearBox_68 : decode cX7_isNearBox 68 = .ok (.invokestatic 105, 3) := by decide +kernel
theorem dX7_isNearBox_71 : decode cX7_isNearBox 71 = .ok (.lstore_n 3, 1) := by decide +kernel
theorem dX7_isNearBox_72 : decode cX7_isNearBox 72 = .ok (.lload_n 1, 1) := by decide +kernel
theorem dX7_isNearBox_73 : decode cX7_isNearBox 73 = .ok (.lload_n 1, 1) := by decide +kernel
theorem dX7_isNearBox_74 : decode cX7_isNearBox 74 = .ok (.lmul, 1) := by decide +kernel
theorem dX7_isNearBox_75 : decode cX7_isNearBox 75 = .ok (.lload_n 3, 1) := by decide +kernel
theorem dX7_isNearBox_76 : decode cX7_isNearBox 76 = .ok (.lload_n 3, 1) := by decide +kernel
theorem dX7_isNearBox_77 : decode cX7_isNearBox 77 = .ok (.lmul, 1) := by decide +kernel
theorem dX7_isNearBox_78 : decode cX7_isNearBox 78 = .ok (.ladd, 1) := by decide +kernel
theorem dX7_isNearBox_79 : decode cX7_isNearBox 79 = .ok (.aload_n 0, 1) := by decide +kernel
theorem dX7_isNearBox_80 : decode cX7_isNearBox 80 = .ok (.getfield 68, 3) := by decide +kernel
theorem dX7_isNearBox_83 : decode cX7_isNearBox 83 = .ok (.aload_n 0, 1) := by decide +kernel
theorem dX7_isNearBox_84 : decode cX7_isNearBox 84 = .ok (.getfield 68, 3) := by decide +kernel
theorem dX7_isNearBox_87 : decode cX7_isNearBox 87 = .ok (.lmul, 1) := by decide +kernel
theorem dX7_isNearBox_88 : decode cX7_isNearBox 88 = .ok (.lcmp, 1) := by decide +kernel
theorem dX7_isNearBox_89 : decode cX7_isNearBox 89 = .ok (.ifCond .ge 7, 3) := by decide +kernel
theorem dX7_isNearBox_92 : decode cX7_isNearBox 92 = .ok (.iconst 1, 1) := by decide +kernel
theorem dX7_isNearBox_93 : decode cX7_isNearBox 93 = .ok (.goto 4, 3) := by decide +kernel
theorem dX7_isNearBox_96 : decode cX7_isNearBox 96 = .ok (.iconst 0, 1) := by decide +kernel
theorem dX7_isNearBox_97 : decode cX7_isNearBox 97 = .ok (.ireturn, 1) := by decide +kernel
theorem dX7_isNearPiece_0 : decode cX7_isNearPiece 0 = .ok (.iconst 0, 1) := by decide +kernel
theorem dX7_isNearPiece_1 : decode cX7_isNearPiece 1 = .ok (.istore 5, 2) := by decide +kernel
theorem dX7_isNearPiece_3 : decode cX7_isNearPiece 3 = .ok (.iconst 0, 1) := by decide +kernel
theorem dX7_isNearPiece_4 : decode cX7_isNearPiece 4 = .ok (.istore 6, 2) := by decide +kernel
theorem dX7_isNearPiece_6 : decode cX7_isNearPiece 6 = .ok (.iload 6, 2) := by decide +kernel
theorem dX7_isNearPiece_8 : decode cX7_isNearPiece 8 = .ok (.aload_n 0, 1) := by decide +kernel
theorem dX7_isNearPiece_9 : decode cX7_isNearPiece 9 = .ok (.iload_n 1, 1) := by decide +kernel
theorem dX7_isNearPiece_10 : decode cX7_isNearPiece 10 = .ok (.invokevirtual 108, 3) := by decide +kernel
theorem dX7_isNearPiece_13 : decode cX7_isNearPiece 13 = .ok (.if_icmp .ge 66, 3) := by decide +kernel
theorem dX7_isNearPiece_16 : decode cX7_isNearPiece 16 = .ok (.iconst 0, 1) := by decide +kernel
theorem dX7_isNearPiece_17 : decode cX7_isNearPiece 17 = .ok (.istore 7, 2) := by decide +kernel
theorem dX7_isNearPiece_19 : decode cX7_isNearPiece 19 = .ok (.iload 7, 2) := by decide +kernel
theorem dX7_isNearPiece_21 : decode cX7_isNearPiece 21 = .ok (.aload_n 0, 1) := by decide +kernel
theorem dX7_isNearPiece_22 : decode cX7_isNearPiece 22 = .ok (.iload_n 3, 1) := by decide +kernel
theorem dX7_isNearPiece_23 : decode cX7_isNearPiece 23 = .ok (.invokevirtual 108, 3) := by decide +kernel
theorem dX7_isNearPiece_26 : decode cX7_isNearPiece 26 = .ok (.if_icmp .ge 47, 3) := by decide +kernel
theorem dX7_isNearPiece_29 : decode cX7_isNearPiece 29 = .ok (.aload_n 0, 1) := by decide +kernel
theorem dX7_isNearPiece_30 : decode cX7_isNearPiece 30 = .ok (.iload_n 1, 1) := by decide +kernel
theorem dX7_isNearPiece_31 : decode cX7_isNearPiece 31 = .ok (.iload_n 2, 1) := by decide +kernel
theorem dX7_isNearPiece_32 : decode cX7_isNearPiece 32 = .ok (.iload 6, 2) := by decide +kernel
theorem dX7_isNearPiece_34 : decode cX7_isNearPiece 34 = .ok (.iconst 1, 1) := by decide +kernel
theorem dX7_isNearPiece_35 : decode cX7_isNearPiece 35 = .ok (.invokevirtual 112, 3) := by decide +kernel
theorem dX7_isNearPiece_38 : decode cX7_isNearPiece 38 = .ok (.aload_n 0, 1) := by decide +kernel
theorem dX7_isNearPiece_39 : decode cX7_isNearPiece 39 = .ok (.iload_n 3, 1) := by decide +kernel
theorem dX7_isNearPiece_40 : decode cX7_isNearPiece 40 = .ok (.iload 4, 2) := by decide +kernel
theorem dX7_isNearPiece_42 : decode cX7_isNearPiece 42 = .ok (.iload 7, 2) := by decide +kernel
theorem dX7_isNearPiece_44 : decode cX7_isNearPiece 44 = .ok (.iconst 0, 1) := by decide +kernel
theorem dX7_isNearPiece_45 : decode cX7_isNearPiece 45 = .ok (.invokevirtual 112, 3) := by decide +kernel
theorem dX7_isNearPiece_48 : decode cX7_isNearPiece 48 = .ok (.iload 5, 2) := by decide +kernel
theorem dX7_isNearPiece_50 : decode cX7_isNearPiece 50 = .ok (.ifCond .ne 10, 3) := by decide +kernel
theorem dX7_isNearPiece_53 : decode cX7_isNearPiece 53 = .ok (.aload_n 0, 1) := by decide +kernel
theorem dX7_isNearPiece_54 : decode cX7_isNearPiece 54 = .ok (.invokevirtual 116, 3) := by decide +kernel
theorem dX7_isNearPiece_57 : decode cX7_isNearPiece 57 = .ok (.ifCond .eq 7, 3) := by decide +kernel
theorem dX7_isNearPiece_60 : decode cX7_isNearPiece 60 = .ok (.iconst 1, 1) := by decide +kernel
theorem dX7_isNearPiece_61 : decode cX7_isNearPiece 61 = .ok (.goto 4, 3) := by decide +kernel
theorem dX7_isNearPiece_64 : decode cX7_isNearPiece 64 = .ok (.iconst 0, 1) := by decide +kernel
theorem dX7_isNearPiece_65 : decode cX7_isNearPiece 65 = .ok (.istore 5, 2) := by decide +kernel
theorem dX7_isNearPiece_67 : decode cX7_isNearPiece 67 = .ok (.iinc 7 1, 3) := by decide +kernel
theorem dX7_isNearPiece_70 : decode cX7_isNearPiece 70 = .ok (.goto (-51), 3) := by decide +kernel
theorem dX7_isNearPiece_73 : decode cX7_isNearPiece 73 = .ok (.iinc 6 1, 3) := by decide +kernel
theorem dX7_isNearPiece_76 : decode cX7_isNearPiece 76 = .ok (.goto (-70), 3) := by decide +kernel
theorem dX7_isNearPiece_79 : decode cX7_isNearPiece 79 = .ok (.iload 5, 2) := by decide +kernel
theorem dX7_isNearPiece_81 : decode cX7_isNearPiece 81 = .ok (.ireturn, 1) := by decide +kernel
theorem dX7_isNear_0 : decode cX7_isNear 0 = .ok (.iconst 0, 1) := by decide +kernel
theorem dX7_isNear_1 : decode cX7_isNear 1 = .ok (.istore_n 3, 1) := by decide +kernel
theorem dX7_isNear_2 : decode cX7_isNear 2 = .ok (.iconst 0, 1) := by decide +kernel
theorem dX7_isNear_3 : decode cX7_isNear 3 = .ok (.istore 4, 2) := by decide +kernel
theorem dX7_isNear_5 : decode cX7_isNear 5 = .ok (.iload 4, 2) := by decide +kernel
theorem dX7_isNear_7 : decode cX7_isNear 7 = .ok (.aload_n 0, 1) := by decide +kernel
theorem dX7_isNear_8 : decode cX7_isNear 8 = .ok (.getfield 26, 3) := by decide +kernel
theorem dX7_isNear_11 : decode cX7_isNear 11 = .ok (.iload_n 1, 1) := by decide +kernel
theorem dX7_isNear_12 : decode cX7_isNear 12 = .ok (.iaload, 1) := by decide +kernel
theorem dX7_isNear_13 : decode cX7_isNear 13 = .ok (.if_icmp .gt 52, 3) := by decide +kernel
theorem dX7_isNear_16 : decode cX7_isNear 16 = .ok (.iconst 0, 1) := by decide +kernel
theorem dX7_isNear_17 : decode cX7_isNear 17 = .ok (.istore 5, 2) := by decide +kernel
theorem dX7_isNear_19 : decode cX7_isNear 19 = .ok (.iload 5, 2) := by decide +kernel
theorem dX7_isNear_21 : decode cX7_isNear 21 = .ok (.aload_n 0, 1) := by decide +kernel
theorem dX7_isNear_22 : decode cX7_isNear 22 = .ok (.getfield 26, 3) := by decide +kernel
theorem dX7_isNear_25 : decode cX7_isNear 25 = .ok (.iload_n 2, 1) := by decide +kernel
theorem dX7_isNear_26 : decode cX7_isNear 26 = .ok (.iaload, 1) := by decide +kernel
theorem dX7_isNear_27 : decode cX7_isNear 27 = .ok (.if_icmp .gt 32, 3) := by decide +kernel
theorem dX7_isNear_30 : decode cX7_isNear 30 = .ok (.iload_n 3, 1) := by decide +kernel
theorem dX7_isNear_31 : decode cX7_isNear 31 = .ok (.ifCond .ne 16, 3) := by decide +kernel
theorem dX7_isNear_34 : decode cX7_isNear 34 = .ok (.aload_n 0, 1) := by decide +kernel
theorem dX7_isNear_35 : decode cX7_isNear 35 = .ok (.iload_n 1, 1) := by decide +kernel
theorem dX7_isNear_36 : decode cX7_isNear 36 = .ok (.iload 4, 2) := by decide +kernel
theorem dX7_isNear_38 : decode cX7_isNear 38 = .ok (.iload_n 2, 1) := by decide +kernel
theorem dX7_isNear_39 : decode cX7_isNear 39 = .ok (.iload 5, 2) := by decide +kernel
theorem dX7_isNear_41 : decode cX7_isNear 41 = .ok (.invokevirtual 120, 3) := by decide +kernel
theorem dX7_isNear_44 : decode cX7_isNear 44 = .ok (.ifCond .eq 7, 3) := by decide +kernel
theorem dX7_isNear_47 : decode cX7_isNear 47 = .ok (.iconst 1, 1) := by decide +kernel
theorem dX7_isNear_48 : decode cX7_isNear 48 = .ok (.goto 4, 3) := by decide +kernel
theorem dX7_isNear_51 : decode cX7_isNear 51 = .ok (.iconst 0, 1) := by decide +kernel
theorem dX7_isNear_52 : decode cX7_isNear 52 = .ok (.istore_n 3, 1) := by decide +kernel
theorem dX7_isNear_53 : decode cX7_isNear 53 = .ok (.iinc 5 1, 3) := by decide +kernel
theorem dX7_isNear_56 : decode cX7_isNear 56 = .ok (.goto (-37), 3) := by decide +kernel
theorem dX7_isNear_59 : decode cX7_isNear 59 = .ok (.iinc 4 1, 3) := by decide +kernel
theorem dX7_isNear_62 : decode cX7_isNear 62 = .ok (.goto (-57), 3) := by decide +kernel
theorem dX7_isNear_65 : decode cX7_isNear 65 = .ok (.iload_n 3, 1) := by decide +kernel
theorem dX7_isNear_66 : decode cX7_isNear 66 = .ok (.ireturn, 1) := by decide +kernel
theorem dX7_near_0 : decode cX7_near 0 = .ok (.aload_n 0, 1) := by decide +kernel
theorem dX7_near_1 : decode cX7_near 1 = .ok (.aload_n 0, 1) := by decide +kernel
theorem dX7_near_2 : decode cX7_near 2 = .ok (.invokevirtual 124, 3) := by decide +kernel
theorem dX7_near_5 : decode cX7_near 5 = .ok (.ifCond .eq 7, 3) := by decide +kernel
theorem dX7_near_8 : decode cX7_near 8 = .ok (.iconst 1, 1) := by decide +kernel
theorem dX7_near_9 : decode cX7_near 9 = .ok (.goto 4, 3) := by decide +kernel
theorem dX7_near_12 : decode cX7_near 12 = .ok (.iconst 0, 1) := by decide +kernel
theorem dX7_near_13 : decode cX7_near 13 = .ok (.putfield 72, 3) := by decide +kernel
theorem dX7_near_16 : decode cX7_near 16 = .ok (.iconst 0, 1) := by decide +kernel
theorem dX7_near_17 : decode cX7_near 17 = .ok (.istore_n 1, 1) := by decide +kernel
theorem dX7_near_18 : decode cX7_near 18 = .ok (.iconst 0, 1) := by decide +kernel
theorem dX7_near_19 : decode cX7_near 19 = .ok (.istore_n 2, 1) := by decide +kernel
theorem dX7_near_20 : decode cX7_near 20 = .ok (.iload_n 2, 1) := by decide +kernel
theorem dX7_near_21 : decode cX7_near 21 = .ok (.aload_n 0, 1) := by decide +kernel
theorem dX7_near_22 : decode cX7_near 22 = .ok (.getfield 76, 3) := by decide +kernel
theorem dX7_near_25 : decode cX7_near 25 = .ok (.if_icmp .ge 51, 3) := by decide +kernel
theorem dX7_near_28 : decode cX7_near 28 = .ok (.aload_n 0, 1) := by decide +kernel
theorem dX7_near_29 : decode cX7_near 29 = .ok (.getfield 72, 3) := by decide +kernel
theorem dX7_near_32 : decode cX7_near 32 = .ok (.ifCond .ne 44, 3) := by decide +kernel
theorem dX7_near_35 : decode cX7_near 35 = .ok (.iload_n 2, 1) := by decide +kernel
theorem dX7_near_36 : decode cX7_near 36 = .ok (.iconst 1, 1) := by decide +kernel
theorem dX7_near_37 : decode cX7_near 37 = .ok (.iadd, 1) := by decide +kernel
theorem dX7_near_38 : decode cX7_near 38 = .ok (.istore_n 3, 1) := by decide +kernel
theorem dX7_near_39 : decode cX7_near 39 = .ok (.iload_n 3, 1) := by decide +kernel
theorem dX7_near_40 : decode cX7_near 40 = .ok (.aload_n 0, 1) := by decide +kernel
theorem dX7_near_41 : decode cX7_near 41 = .ok (.getfield 76, 3) := by decide +kernel
theorem dX7_near_44 : decode cX7_near 44 = .ok (.if_icmp .ge 26, 3) := by decide +kernel
theorem dX7_near_47 : decode cX7_near 47 = .ok (.iload_n 1, 1) := by decide +kernel
theorem dX7_near_48 : decode cX7_near 48 = .ok (.aload_n 0, 1) := by decide +kernel
theorem dX7_near_49 : decode cX7_near 49 = .ok (.iload_n 2, 1) := by decide +kernel
theorem dX7_near_50 : decode cX7_near 50 = .ok (.iload_n 3, 1) := by decide +kernel
theorem dX7_near_51 : decode cX7_near 51 = .ok (.invokevirtual 127, 3) := by decide +kernel
theorem dX7_near_54 : decode cX7_near 54 = .ok (.ifCond .eq 7, 3) := by decide +kernel
theorem dX7_near_57 : decode cX7_near 57 = .ok (.iconst 1, 1) := by decide +kernel
theorem dX7_near_58 : decode cX7_near 58 = .ok (.goto 4, 3) := by decide +kernel
theorem dX7_near_61 : decode cX7_near 61 = .ok (.iconst 0, 1) := by decide +kernel
theorem dX7_near_62 : decode cX7_near 62 = .ok (.iadd, 1) := by decide +kernel
theorem dX7_near_63 : decode cX7_near 63 = .ok (.istore_n 1, 1) := by decide +kernel
theorem dX7_near_64 : decode cX7_near 64 = .ok (.iinc 3 1, 3) := by decide +kernel
theorem dX7_near_67 : decode cX7_near 67 = .ok (.goto (-28), 3) := by decide +kernel
theorem dX7_near_70 : decode cX7_near 70 = .ok (.iinc 2 1, 3) := by decide +kernel
theorem dX7_near_73 : decode cX7_near 73 = .ok (.goto (-53), 3) := by decide +kernel
theorem dX7_near_76 : decode cX7_near 76 = .ok (.iload_n 1, 1) := by decide +kernel
theorem dX7_near_77 : decode cX7_near 77 = .ok (.ireturn, 1) := by decide +kernel
theorem dX7_pair_0 : decode cX7_pair 0 = .ok (.aload_n 0, 1) := by decide +kernel
theorem dX7_pair_1 : decode cX7_pair 1 = .ok (.iload_n 1, 1) := by decide +kernel
theorem dX7_pair_2 : decode cX7_pair 2 = .ok (.ifCond .lt 12, 3) := by decide +kernel
theorem dX7_pair_5 : decode cX7_pair 5 = .ok (.iload_n 2, 1) := by decide +kernel
theorem dX7_pair_6 : decode cX7_pair 6 = .ok (.ifCond .lt 8, 3) := by decide +kernel
theorem dX7_pair_9 : decode cX7_pair 9 = .ok (.iload_n 2, 1) := by decide +kernel
theorem dX7_pair_10 : decode cX7_pair 10 = .ok (.iconst 1, 1) := by decide +kernel
theorem dX7_pair_11 : decode cX7_pair 11 = .ok (.if_icmp .le 7, 3) := by decide +kernel
theorem dX7_pair_14 : decode cX7_pair 14 = .ok (.iconst 1, 1) := by decide +kernel
theorem dX7_pair_15 : decode cX7_pair 15 = .ok (.goto 15, 3) := by decide +kernel
theorem dX7_pair_18 : decode cX7_pair 18 = .ok (.aload_n 0, 1) := by decide +kernel
theorem dX7_pair_19 : decode cX7_pair 19 = .ok (.invokevirtual 124, 3) := by decide +kernel
theorem dX7_pair_22 : decode cX7_pair 22 = .ok (.ifCond .eq 7, 3) := by decide +kernel
theorem dX7_pair_25 : decode cX7_pair 25 = .ok (.iconst 2, 1) := by decide +kernel
theorem dX7_pair_26 : decode cX7_pair 26 = .ok (.goto 4, 3) := by decide +kernel
theorem dX7_pair_29 : decode cX7_pair 29 = .ok (.iconst 0, 1) := by decide +kernel
theorem dX7_pair_30 : decode cX7_pair 30 = .ok (.putfield 72, 3) := by decide +kernel
theorem dX7_pair_33 : decode cX7_pair 33 = .ok (.iload_n 1, 1) := by decide +kernel
theorem dX7_pair_34 : decode cX7_pair 34 = .ok (.istore_n 3, 1) := by decide +kernel
theorem dX7_pair_35 : decode cX7_pair 35 = .ok (.iconst 0, 1) := by decide +kernel
theorem dX7_pair_36 : decode cX7_pair 36 = .ok (.istore 4, 2) := by decide +kernel
theorem dX7_pair_38 : decode cX7_pair 38 = .ok (.iload 4, 2) := by decide +kernel
theorem dX7_pair_40 : decode cX7_pair 40 = .ok (.aload_n 0, 1) := by decide +kernel
theorem dX7_pair_41 : decode cX7_pair 41 = .ok (.getfield 76, 3) := by decide +kernel
theorem dX7_pair_44 : decode cX7_pair 44 = .ok (.if_icmp .ge 67, 3) := by decide +kernel
theorem dX7_pair_47 : decode cX7_pair 47 = .ok (.aload_n 0, 1) := by decide +kernel
theorem dX7_pair_48 : decode cX7_pair 48 = .ok (.getfield 72, 3) := by decide +kernel
theorem dX7_pair_51 : decode cX7_pair 51 = .ok (.ifCond .ne 60, 3) := by decide +kernel
theorem dX7_pair_54 : decode cX7_pair 54 = .ok (.iload 4, 2) := by decide +kernel
theorem dX7_pair_56 : decode cX7_pair 56 = .ok (.iconst 1, 1) := by decide +kernel
theorem dX7_pair_57 : decode cX7_pair 57 = .ok (.iadd, 1) := by decide +kernel
theorem dX7_pair_58 : decode cX7_pair 58 = .ok (.istore 5, 2) := by decide +kernel
theorem dX7_pair_60 : decode cX7_pair 60 = .ok (.iload 5, 2) := by decide +kernel
theorem dX7_pair_62 : decode cX7_pair 62 = .ok (.aload_n 0, 1) := by decide +kernel
theorem dX7_pair_63 : decode cX7_pair 63 = .ok (.getfield 76, 3) := by decide +kernel
theorem dX7_pair_66 : decode cX7_pair 66 = .ok (.if_icmp .ge 39, 3) := by decide +kernel
theorem dX7_pair_69 : decode cX7_pair 69 = .ok (.aload_n 0, 1) := by decide +kernel
theorem dX7_pair_70 : decode cX7_pair 70 = .ok (.iload 4, 2) := by decide +kernel
theorem dX7_pair_72 : decode cX7_pair 72 = .ok (.iload 5, 2) := by decide +kernel
theorem dX7_pair_74 : decode cX7_pair 74 = .ok (.invokevirtual 127, 3) := by decide +kernel
theorem dX7_pair_77 : decode cX7_pair 77 = .ok (.ifCond .eq 22, 3) := by decide +kernel
theorem dX7_pair_80 : decode cX7_pair 80 = .ok (.iload_n 3, 1) := by decide +kernel
theorem dX7_pair_81 : decode cX7_pair 81 = .ok (.ifCond .ne 15, 3) := by decide +kernel
theorem dX7_pair_84 : decode cX7_pair 84 = .ok (.iload_n 2, 1) := by decide +kernel
theorem dX7_pair_85 : decode cX7_pair 85 = .ok (.ifCond .ne 8, 3) := by decide +kernel
theorem dX7_pair_88 : decode cX7_pair 88 = .ok (.iload 4, 2) := by decide +kernel
theorem dX7_pair_90 : decode cX7_pair 90 = .ok (.goto 5, 3) := by decide +kernel
theorem dX7_pair_93 : decode cX7_pair 93 = .ok (.iload 5, 2) := by decide +kernel
theorem dX7_pair_95 : decode cX7_pair 95 = .ok (.ireturn, 1) := by decide +kernel
theorem dX7_pair_96 : decode cX7_pair 96 = .ok (.iinc 3 (-1), 3) := by decide +kernel
theorem dX7_pair_99 : decode cX7_pair 99 = .ok (.iinc 5 1, 3) := by decide +kernel
theorem dX7_pair_102 : decode cX7_pair 102 = .ok (.goto (-42), 3) := by decide +kernel
theorem dX7_pair_105 : decode cX7_pair 105 = .ok (.iinc 4 1, 3) := by decide +kernel
theorem dX7_pair_108 : decode cX7_pair 108 = .ok (.goto (-70), 3) := by decide +kernel
theorem dX7_pair_111 : decode cX7_pair 111 = .ok (.aload_n 0, 1) := by decide +kernel
theorem dX7_pair_112 : decode cX7_pair 112 = .ok (.getfield 72, 3) := by decide +kernel
theorem dX7_pair_115 : decode cX7_pair 115 = .ok (.ifCond .le 7, 3) := by decide +kernel
theorem dX7_pair_118 : decode cX7_pair 118 = .ok (.iconst 0, 1) := by decide +kernel
theorem dX7_pair_119 : decode cX7_pair 119 = .ok (.goto 4, 3) := by decide +kernel
theorem dX7_pair_122 : decode cX7_pair 122 = .ok (.iconst (-1), 1) := by decide +kernel
theorem dX7_pair_123 : decode cX7_pair 123 = .ok (.ireturn, 1) := by decide +kernel
theorem dX7_pre_0 : decode cX7_pre 0 = .ok (.aload_n 0, 1) := by decide +kernel
theorem dX7_pre_1 : decode cX7_pre 1 = .ok (.aload_n 0, 1) := by decide +kernel
theorem dX7_pre_2 : decode cX7_pre 2 = .ok (.iload_n 1, 1) := by decide +kernel
theorem dX7_pre_3 : decode cX7_pre 3 = .ok (.invokevirtual 83, 3) := by decide +kernel
theorem dX7_pre_6 : decode cX7_pre 6 = .ok (.ifCond .ne 7, 3) := by decide +kernel
theorem dX7_pre_9 : decode cX7_pre 9 = .ok (.iconst 1, 1) := by decide +kernel
theorem dX7_pre_10 : decode cX7_pre 10 = .ok (.goto 29, 3) := by decide +kernel
theorem dX7_pre_13 : decode cX7_pre 13 = .ok (.aload_n 0, 1) := by decide +kernel
theorem dX7_pre_14 : decode cX7_pre 14 = .ok (.invokevirtual 124, 3) := by decide +kernel
theorem dX7_pre_17 : decode cX7_pre 17 = .ok (.ifCond .eq 7, 3) := by decide +kernel
theorem dX7_pre_20 : decode cX7_pre 20 = .ok (.iconst 2, 1) := by decide +kernel
theorem dX7_pre_21 : decode cX7_pre 21 = .ok (.goto 18, 3) := by decide +kernel
theorem dX7_pre_24 : decode cX7_pre 24 = .ok (.iload_n 2, 1) := by decide +kernel
theorem dX7_pre_25 : decode cX7_pre 25 = .ok (.iconst (-1), 1) := by decide +kernel
theorem dX7_pre_26 : decode cX7_pre 26 = .ok (.if_icmp .lt 8, 3) := by decide +kernel
theorem dX7_pre_29 : decode cX7_pre 29 = .ok (.iload_n 2, 1) := by decide +kernel
end
section
theorem dX7_pre_30 : decode cX7_pre 30 = .ok (.iconst 3, 1) := by decide +kernel
theorem dX7_pre_31 : decode cX7_pre 31 = .ok (.if_icmp .le 7, 3) := by decide +kernel
theorem dX7_pre_34 : decode cX7_pre 34 = .ok (.iconst 3, 1) := by decide +kernel
theorem dX7_pre_35 : decode cX7_pre 35 = .ok (.goto 4, 3) := by decide +kernel
theorem dX7_pre_38 : decode cX7_pre 38 = .ok (.iconst 0, 1) := by decide +kernel
theorem dX7_pre_39 : decode cX7_pre 39 = .ok (.putfield 72, 3) := by decide +kernel
theorem dX7_pre_42 : decode cX7_pre 42 = .ok (.aload_n 0, 1) := by decide +kernel
theorem dX7_pre_43 : decode cX7_pre 43 = .ok (.getfield 72, 3) := by decide +kernel
theorem dX7_pre_46 : decode cX7_pre 46 = .ok (.ifCond .gt 13, 3) := by decide +kernel
theorem dX7_pre_49 : decode cX7_pre 49 = .ok (.aload_n 0, 1) := by decide +kernel
theorem dX7_pre_50 : decode cX7_pre 50 = .ok (.getfield 20, 3) := by decide +kernel
theorem dX7_pre_53 : decode cX7_pre 53 = .ok (.iload_n 1, 1) := by decide +kernel
theorem dX7_pre_54 : decode cX7_pre 54 = .ok (.iaload, 1) := by decide +kernel
theorem dX7_pre_55 : decode cX7_pre 55 = .ok (.iload_n 2, 1) := by decide +kernel
theorem dX7_pre_56 : decode cX7_pre 56 = .ok (.if_icmp .ne 5, 3) := by decide +kernel
theorem dX7_pre_59 : decode cX7_pre 59 = .ok (.iconst 0, 1) := by decide +kernel
theorem dX7_pre_60 : decode cX7_pre 60 = .ok (.ireturn, 1) := by decide +kernel
theorem dX7_pre_61 : decode cX7_pre 61 = .ok (.aload_n 0, 1) := by decide +kernel
theorem dX7_pre_62 : decode cX7_pre 62 = .ok (.getfield 20, 3) := by decide +kernel
theorem dX7_pre_65 : decode cX7_pre 65 = .ok (.iload_n 1, 1) := by decide +kernel
theorem dX7_pre_66 : decode cX7_pre 66 = .ok (.iload_n 2, 1) := by decide +kernel
theorem dX7_pre_67 : decode cX7_pre 67 = .ok (.iastore, 1) := by decide +kernel
theorem dX7_pre_68 : decode cX7_pre 68 = .ok (.iconst 1, 1) := by decide +kernel
theorem dX7_pre_69 : decode cX7_pre 69 = .ok (.ireturn, 1) := by decide +kernel
theorem dX7_hasCut_0 : decode cX7_hasCut 0 = .ok (.iconst 0, 1) := by decide +kernel
theorem dX7_hasCut_1 : decode cX7_hasCut 1 = .ok (.istore 5, 2) := by decide +kernel
theorem dX7_hasCut_3 : decode cX7_hasCut 3 = .ok (.iconst 0, 1) := by decide +kernel
theorem dX7_hasCut_4 : decode cX7_hasCut 4 = .ok (.istore 6, 2) := by decide +kernel
theorem dX7_hasCut_6 : decode cX7_hasCut 6 = .ok (.iload 6, 2) := by decide +kernel
theorem dX7_hasCut_8 : decode cX7_hasCut 8 = .ok (.aload_n 0, 1) := by decide +kernel
theorem dX7_hasCut_9 : decode cX7_hasCut 9 = .ok (.getfield 26, 3) := by decide +kernel
theorem dX7_hasCut_12 : decode cX7_hasCut 12 = .ok (.iload_n 1, 1) := by decide +kernel
theorem dX7_hasCut_13 : decode cX7_hasCut 13 = .ok (.iaload, 1) := by decide +kernel
theorem dX7_hasCut_14 : decode cX7_hasCut 14 = .ok (.if_icmp .ge 48, 3) := by decide +kernel
theorem dX7_hasCut_17 : decode cX7_hasCut 17 = .ok (.iload 5, 2) := by decide +kernel
theorem dX7_hasCut_19 : decode cX7_hasCut 19 = .ok (.ifCond .ne 30, 3) := by decide +kernel
theorem dX7_hasCut_22 : decode cX7_hasCut 22 = .ok (.aload_n 0, 1) := by decide +kernel
theorem dX7_hasCut_23 : decode cX7_hasCut 23 = .ok (.getfield 29, 3) := by decide +kernel
theorem dX7_hasCut_26 : decode cX7_hasCut 26 = .ok (.iload_n 1, 1) := by decide +kernel
theorem dX7_hasCut_27 : decode cX7_hasCut 27 = .ok (.baload, 1) := by decide +kernel
theorem dX7_hasCut_28 : decode cX7_hasCut 28 = .ok (.iload 4, 2) := by decide +kernel
theorem dX7_hasCut_30 : decode cX7_hasCut 30 = .ok (.if_icmp .ne 23, 3) := by decide +kernel
theorem dX7_hasCut_33 : decode cX7_hasCut 33 = .ok (.aload_n 0, 1) := by decide +kernel
theorem dX7_hasCut_34 : decode cX7_hasCut 34 = .ok (.getfield 23, 3) := by decide +kernel
theorem dX7_hasCut_37 : decode cX7_hasCut 37 = .ok (.iconst 3, 1) := by decide +kernel
theorem dX7_hasCut_38 : decode cX7_hasCut 38 = .ok (.iload_n 1, 1) := by decide +kernel
theorem dX7_hasCut_39 : decode cX7_hasCut 39 = .ok (.imul, 1) := by decide +kernel
theorem dX7_hasCut_40 : decode cX7_hasCut 40 = .ok (.iload 6, 2) := by decide +kernel
theorem dX7_hasCut_42 : decode cX7_hasCut 42 = .ok (.iadd, 1) := by decide +kernel
theorem dX7_hasCut_43 : decode cX7_hasCut 43 = .ok (.laload, 1) := by decide +kernel
theorem dX7_hasCut_44 : decode cX7_hasCut 44 = .ok (.lload_n 2, 1) := by decide +kernel
theorem dX7_hasCut_45 : decode cX7_hasCut 45 = .ok (.lcmp, 1) := by decide +kernel
theorem dX7_hasCut_46 : decode cX7_hasCut 46 = .ok (.ifCond .ne 7, 3) := by decide +kernel
theorem dX7_hasCut_49 : decode cX7_hasCut 49 = .ok (.iconst 1, 1) := by decide +kernel
theorem dX7_hasCut_50 : decode cX7_hasCut 50 = .ok (.goto 4, 3) := by decide +kernel
theorem dX7_hasCut_53 : decode cX7_hasCut 53 = .ok (.iconst 0, 1) := by decide +kernel
theorem dX7_hasCut_54 : decode cX7_hasCut 54 = .ok (.istore 5, 2) := by decide +kernel
theorem dX7_hasCut_56 : decode cX7_hasCut 56 = .ok (.iinc 6 1, 3) := by decide +kernel
theorem dX7_hasCut_59 : decode cX7_hasCut 59 = .ok (.goto (-53), 3) := by decide +kernel
theorem dX7_hasCut_62 : decode cX7_hasCut 62 = .ok (.iload 5, 2) := by decide +kernel
theorem dX7_hasCut_64 : decode cX7_hasCut 64 = .ok (.ireturn, 1) := by decide +kernel
theorem dX7_isWithin_0 : decode cX7_isWithin 0 = .ok (.iload 4, 2) := by decide +kernel
theorem dX7_isWithin_2 : decode cX7_isWithin 2 = .ok (.ifCond .eq 15, 3) := by decide +kernel
theorem dX7_isWithin_5 : decode cX7_isWithin 5 = .ok (.aload_n 0, 1) := by decide +kernel
theorem dX7_isWithin_6 : decode cX7_isWithin 6 = .ok (.getfield 7, 3) := by decide +kernel
theorem dX7_isWithin_9 : decode cX7_isWithin 9 = .ok (.bipush 8, 2) := by decide +kernel
theorem dX7_isWithin_11 : decode cX7_isWithin 11 = .ok (.iload_n 1, 1) := by decide +kernel
theorem dX7_isWithin_12 : decode cX7_isWithin 12 = .ok (.imul, 1) := by decide +kernel
theorem dX7_isWithin_13 : decode cX7_isWithin 13 = .ok (.laload, 1) := by decide +kernel
theorem dX7_isWithin_14 : decode cX7_isWithin 14 = .ok (.goto 12, 3) := by decide +kernel
theorem dX7_isWithin_17 : decode cX7_isWithin 17 = .ok (.aload_n 0, 1) := by decide +kernel
theorem dX7_isWithin_18 : decode cX7_isWithin 18 = .ok (.getfield 13, 3) := by decide +kernel
theorem dX7_isWithin_21 : decode cX7_isWithin 21 = .ok (.bipush 8, 2) := by decide +kernel
theorem dX7_isWithin_23 : decode cX7_isWithin 23 = .ok (.iload_n 1, 1) := by decide +kernel
theorem dX7_isWithin_24 : decode cX7_isWithin 24 = .ok (.imul, 1) := by decide +kernel
theorem dX7_isWithin_25 : decode cX7_isWithin 25 = .ok (.laload, 1) := by decide +kernel
theorem dX7_isWithin_26 : decode cX7_isWithin 26 = .ok (.lstore 5, 2) := by decide +kernel
theorem dX7_isWithin_28 : decode cX7_isWithin 28 = .ok (.iload 4, 2) := by decide +kernel
theorem dX7_isWithin_30 : decode cX7_isWithin 30 = .ok (.ifCond .eq 17, 3) := by decide +kernel
theorem dX7_isWithin_33 : decode cX7_isWithin 33 = .ok (.aload_n 0, 1) := by decide +kernel
theorem dX7_isWithin_34 : decode cX7_isWithin 34 = .ok (.getfield 7, 3) := by decide +kernel
theorem dX7_isWithin_37 : decode cX7_isWithin 37 = .ok (.bipush 8, 2) := by decide +kernel
theorem dX7_isWithin_39 : decode cX7_isWithin 39 = .ok (.iload_n 1, 1) := by decide +kernel
theorem dX7_isWithin_40 : decode cX7_isWithin 40 = .ok (.imul, 1) := by decide +kernel
theorem dX7_isWithin_41 : decode cX7_isWithin 41 = .ok (.iconst 1, 1) := by decide +kernel
theorem dX7_isWithin_42 : decode cX7_isWithin 42 = .ok (.iadd, 1) := by decide +kernel
theorem dX7_isWithin_43 : decode cX7_isWithin 43 = .ok (.laload, 1) := by decide +kernel
theorem dX7_isWithin_44 : decode cX7_isWithin 44 = .ok (.goto 14, 3) := by decide +kernel
theorem dX7_isWithin_47 : decode cX7_isWithin 47 = .ok (.aload_n 0, 1) := by decide +kernel
theorem dX7_isWithin_48 : decode cX7_isWithin 48 = .ok (.getfield 13, 3) := by decide +kernel
theorem dX7_isWithin_51 : decode cX7_isWithin 51 = .ok (.bipush 8, 2) := by decide +kernel
theorem dX7_isWithin_53 : decode cX7_isWithin 53 = .ok (.iload_n 1, 1) := by decide +kernel
theorem dX7_isWithin_54 : decode cX7_isWithin 54 = .ok (.imul, 1) := by decide +kernel
theorem dX7_isWithin_55 : decode cX7_isWithin 55 = .ok (.iconst 1, 1) := by decide +kernel
theorem dX7_isWithin_56 : decode cX7_isWithin 56 = .ok (.iadd, 1) := by decide +kernel
theorem dX7_isWithin_57 : decode cX7_isWithin 57 = .ok (.laload, 1) := by decide +kernel
theorem dX7_isWithin_58 : decode cX7_isWithin 58 = .ok (.lstore 7, 2) := by decide +kernel
theorem dX7_isWithin_60 : decode cX7_isWithin 60 = .ok (.lload_n 2, 1) := by decide +kernel
theorem dX7_isWithin_61 : decode cX7_isWithin 61 = .ok (.lload 5, 2) := by decide +kernel
theorem dX7_isWithin_63 : decode cX7_isWithin 63 = .ok (.lload 7, 2) := by decide +kernel
theorem dX7_isWithin_65 : decode cX7_isWithin 65 = .ok (.invokestatic 101, 3) := by decide +kernel
theorem dX7_isWithin_68 : decode cX7_isWithin 68 = .ok (.lcmp, 1) := by decide +kernel
theorem dX7_isWithin_69 : decode cX7_isWithin 69 = .ok (.ifCond .le 19, 3) := by decide +kernel
theorem dX7_isWithin_72 : decode cX7_isWithin 72 = .ok (.lload_n 2, 1) := by decide +kernel
theorem dX7_isWithin_73 : decode cX7_isWithin 73 = .ok (.lload 5, 2) := by decide +kernel
theorem dX7_isWithin_75 : decode cX7_isWithin 75 = .ok (.lload 7, 2) := by decide +kernel
theorem dX7_isWithin_77 : decode cX7_isWithin 77 = .ok (.invokestatic 105, 3) := by decide +kernel
theorem dX7_isWithin_80 : decode cX7_isWithin 80 = .ok (.lcmp, 1) := by decide +kernel
theorem dX7_isWithin_81 : decode cX7_isWithin 81 = .ok (.ifCond .ge 7, 3) := by decide +kernel
theorem dX7_isWithin_84 : decode cX7_isWithin 84 = .ok (.iconst 1, 1) := by decide +kernel
theorem dX7_isWithin_85 : decode cX7_isWithin 85 = .ok (.goto 4, 3) := by decide +kernel
theorem dX7_isWithin_88 : decode cX7_isWithin 88 = .ok (.iconst 0, 1) := by decide +kernel
theorem dX7_isWithin_89 : decode cX7_isWithin 89 = .ok (.ireturn, 1) := by decide +kernel
theorem dX7_stitch_0 : decode cX7_stitch 0 = .ok (.aload_n 0, 1) := by decide +kernel
theorem dX7_stitch_1 : decode cX7_stitch 1 = .ok (.aload_n 0, 1) := by decide +kernel
theorem dX7_stitch_2 : decode cX7_stitch 2 = .ok (.iload_n 1, 1) := by decide +kernel
theorem dX7_stitch_3 : decode cX7_stitch 3 = .ok (.invokevirtual 83, 3) := by decide +kernel
theorem dX7_stitch_6 : decode cX7_stitch 6 = .ok (.ifCond .ne 7, 3) := by decide +kernel
theorem dX7_stitch_9 : decode cX7_stitch 9 = .ok (.iconst 1, 1) := by decide +kernel
theorem dX7_stitch_10 : decode cX7_stitch 10 = .ok (.goto 15, 3) := by decide +kernel
theorem dX7_stitch_13 : decode cX7_stitch 13 = .ok (.aload_n 0, 1) := by decide +kernel
theorem dX7_stitch_14 : decode cX7_stitch 14 = .ok (.invokevirtual 124, 3) := by decide +kernel
theorem dX7_stitch_17 : decode cX7_stitch 17 = .ok (.ifCond .eq 7, 3) := by decide +kernel
theorem dX7_stitch_20 : decode cX7_stitch 20 = .ok (.iconst 2, 1) := by decide +kernel
theorem dX7_stitch_21 : decode cX7_stitch 21 = .ok (.goto 4, 3) := by decide +kernel
theorem dX7_stitch_24 : decode cX7_stitch 24 = .ok (.iconst 0, 1) := by decide +kernel
theorem dX7_stitch_25 : decode cX7_stitch 25 = .ok (.putfield 72, 3) := by decide +kernel
theorem dX7_stitch_28 : decode cX7_stitch 28 = .ok (.aload_n 0, 1) := by decide +kernel
theorem dX7_stitch_29 : decode cX7_stitch 29 = .ok (.getfield 72, 3) := by decide +kernel
theorem dX7_stitch_32 : decode cX7_stitch 32 = .ok (.ifCond .le 5, 3) := by decide +kernel
theorem dX7_stitch_35 : decode cX7_stitch 35 = .ok (.iconst 0, 1) := by decide +kernel
theorem dX7_stitch_36 : decode cX7_stitch 36 = .ok (.ireturn, 1) := by decide +kernel
theorem dX7_stitch_37 : decode cX7_stitch 37 = .ok (.aload_n 0, 1) := by decide +kernel
theorem dX7_stitch_38 : decode cX7_stitch 38 = .ok (.iload_n 1, 1) := by decide +kernel
theorem dX7_stitch_39 : decode cX7_stitch 39 = .ok (.lload_n 2, 1) := by decide +kernel
theorem dX7_stitch_40 : decode cX7_stitch 40 = .ok (.iload 4, 2) := by decide +kernel
theorem dX7_stitch_42 : decode cX7_stitch 42 = .ok (.invokevirtual 131, 3) := by decide +kernel
theorem dX7_stitch_45 : decode cX7_stitch 45 = .ok (.istore 5, 2) := by decide +kernel
theorem dX7_stitch_47 : decode cX7_stitch 47 = .ok (.aload_n 0, 1) := by decide +kernel
theorem dX7_stitch_48 : decode cX7_stitch 48 = .ok (.aload_n 0, 1) := by decide +kernel
theorem dX7_stitch_49 : decode cX7_stitch 49 = .ok (.getfield 16, 3) := by decide +kernel
theorem dX7_stitch_52 : decode cX7_stitch 52 = .ok (.iload_n 1, 1) := by decide +kernel
theorem dX7_stitch_53 : decode cX7_stitch 53 = .ok (.iaload, 1) := by decide +kernel
theorem dX7_stitch_54 : decode cX7_stitch 54 = .ok (.iconst 2, 1) := by decide +kernel
theorem dX7_stitch_55 : decode cX7_stitch 55 = .ok (.if_icmp .ne 27, 3) := by decide +kernel
theorem dX7_stitch_58 : decode cX7_stitch 58 = .ok (.iload 5, 2) := by decide +kernel
theorem dX7_stitch_60 : decode cX7_stitch 60 = .ok (.ifCond .ne 26, 3) := by decide +kernel
theorem dX7_stitch_63 : decode cX7_stitch 63 = .ok (.aload_n 0, 1) := by decide +kernel
theorem dX7_stitch_64 : decode cX7_stitch 64 = .ok (.getfield 26, 3) := by decide +kernel
theorem dX7_stitch_67 : decode cX7_stitch 67 = .ok (.iload_n 1, 1) := by decide +kernel
theorem dX7_stitch_68 : decode cX7_stitch 68 = .ok (.iaload, 1) := by decide +kernel
theorem dX7_stitch_69 : decode cX7_stitch 69 = .ok (.iconst 3, 1) := by decide +kernel
theorem dX7_stitch_70 : decode cX7_stitch 70 = .ok (.if_icmp .eq 12, 3) := by decide +kernel
theorem dX7_stitch_73 : decode cX7_stitch 73 = .ok (.aload_n 0, 1) := by decide +kernel
theorem dX7_stitch_74 : decode cX7_stitch 74 = .ok (.invokevirtual 79, 3) := by decide +kernel
theorem dX7_stitch_77 : decode cX7_stitch 77 = .ok (.bipush 12, 2) := by decide +kernel
theorem dX7_stitch_79 : decode cX7_stitch 79 = .ok (.if_icmp .ne 7, 3) := by decide +kernel
theorem dX7_stitch_82 : decode cX7_stitch 82 = .ok (.iconst 2, 1) := by decide +kernel
theorem dX7_stitch_83 : decode cX7_stitch 83 = .ok (.goto 39, 3) := by decide +kernel
theorem dX7_stitch_86 : decode cX7_stitch 86 = .ok (.aload_n 0, 1) := by decide +kernel
theorem dX7_stitch_87 : decode cX7_stitch 87 = .ok (.iload_n 1, 1) := by decide +kernel
theorem dX7_stitch_88 : decode cX7_stitch 88 = .ok (.lload_n 2, 1) := by decide +kernel
theorem dX7_stitch_89 : decode cX7_stitch 89 = .ok (.iload 4, 2) := by decide +kernel
theorem dX7_stitch_91 : decode cX7_stitch 91 = .ok (.invokevirtual 135, 3) := by decide +kernel
theorem dX7_stitch_94 : decode cX7_stitch 94 = .ok (.ifCond .eq 23, 3) := by decide +kernel
theorem dX7_stitch_97 : decode cX7_stitch 97 = .ok (.aload_n 0, 1) := by decide +kernel
theorem dX7_stitch_98 : decode cX7_stitch 98 = .ok (.getfield 26, 3) := by decide +kernel
theorem dX7_stitch_101 : decode cX7_stitch 101 = .ok (.iload_n 1, 1) := by decide +kernel
theorem dX7_stitch_102 : decode cX7_stitch 102 = .ok (.iaload, 1) := by decide +kernel
theorem dX7_stitch_103 : decode cX7_stitch 103 = .ok (.ifCond .le 18, 3) := by decide +kernel
theorem dX7_stitch_106 : decode cX7_stitch 106 = .ok (.aload_n 0, 1) := by decide +kernel
theorem dX7_stitch_107 : decode cX7_stitch 107 = .ok (.getfield 29, 3) := by decide +kernel
theorem dX7_stitch_110 : decode cX7_stitch 110 = .ok (.iload_n 1, 1) := by decide +kernel
theorem dX7_stitch_111 : decode cX7_stitch 111 = .ok (.baload, 1) := by decide +kernel
theorem dX7_stitch_112 : decode cX7_stitch 112 = .ok (.iload 4, 2) := by decide +kernel
theorem dX7_stitch_114 : decode cX7_stitch 114 = .ok (.if_icmp .eq 7, 3) := by decide +kernel
theorem dX7_stitch_117 : decode cX7_stitch 117 = .ok (.iconst 3, 1) := by decide +kernel
theorem dX7_stitch_118 : decode cX7_stitch 118 = .ok (.goto 4, 3) := by decide +kernel
theorem dX7_stitch_121 : decode cX7_stitch 121 = .ok (.iconst 0, 1) := by decide +kernel
theorem dX7_stitch_122 : decode cX7_stitch 122 = .ok (.putfield 72, 3) := by decide +kernel
theorem dX7_stitch_125 : decode cX7_stitch 125 = .ok (.aload_n 0, 1) := by decide +kernel
theorem dX7_stitch_126 : decode cX7_stitch 126 = .ok (.getfield 72, 3) := by decide +kernel
theorem dX7_stitch_129 : decode cX7_stitch 129 = .ok (.ifCond .gt 8, 3) := by decide +kernel
theorem dX7_stitch_132 : decode cX7_stitch 132 = .ok (.iload 5, 2) := by decide +kernel
theorem dX7_stitch_134 : decode cX7_stitch 134 = .ok (.ifCond .eq 5, 3) := by decide +kernel
theorem dX7_stitch_137 : decode cX7_stitch 137 = .ok (.iconst 0, 1) := by decide +kernel
theorem dX7_stitch_138 : decode cX7_stitch 138 = .ok (.ireturn, 1) := by decide +kernel
theorem dX7_stitch_139 : decode cX7_stitch 139 = .ok (.aload_n 0, 1) := by decide +kernel
theorem dX7_stitch_140 : decode cX7_stitch 140 = .ok (.getfield 26, 3) := by decide +kernel
theorem dX7_stitch_143 : decode cX7_stitch 143 = .ok (.iload_n 1, 1) := by decide +kernel
theorem dX7_stitch_144 : decode cX7_stitch 144 = .ok (.iaload, 1) := by decide +kernel
theorem dX7_stitch_145 : decode cX7_stitch 145 = .ok (.istore 6, 2) := by decide +kernel
theorem dX7_stitch_147 : decode cX7_stitch 147 = .ok (.iload 6, 2) := by decide +kernel
theorem dX7_stitch_149 : decode cX7_stitch 149 = .ok (.ifCond .le 51, 3) := by decide +kernel
theorem dX7_stitch_152 : decode cX7_stitch 152 = .ok (.aload_n 0, 1) := by decide +kernel
theorem dX7_stitch_153 : decode cX7_stitch 153 = .ok (.getfield 23, 3) := by decide +kernel
theorem dX7_stitch_156 : decode cX7_stitch 156 = .ok (.iconst 3, 1) := by decide +kernel
theorem dX7_stitch_157 : decode cX7_stitch 157 = .ok (.iload_n 1, 1) := by decide +kernel
theorem dX7_stitch_158 : decode cX7_stitch 158 = .ok (.imul, 1) := by decide +kernel
theorem dX7_stitch_159 : decode cX7_stitch 159 = .ok (.iload 6, 2) := by decide +kernel
theorem dX7_stitch_161 : decode cX7_stitch 161 = .ok (.iadd, 1) := by decide +kernel
theorem dX7_stitch_162 : decode cX7_stitch 162 = .ok (.iconst 1, 1) := by decide +kernel
theorem dX7_stitch_163 : decode cX7_stitch 163 = .ok (.isub, 1) := by decide +kernel
theorem dX7_stitch_164 : decode cX7_stitch 164 = .ok (.laload, 1) := by decide +kernel
theorem dX7_stitch_165 : decode cX7_stitch 165 = .ok (.lload_n 2, 1) := by decide +kernel
theorem dX7_stitch_166 : decode cX7_stitch 166 = .ok (.lcmp, 1) := by decide +kernel
theorem dX7_stitch_167 : decode cX7_stitch 167 = .ok (.ifCond .le 33, 3) := by decide +kernel
theorem dX7_stitch_170 : decode cX7_stitch 170 = .ok (.aload_n 0, 1) := by decide +kernel
theorem dX7_stitch_171 : decode cX7_stitch 171 = .ok (.getfield 23, 3) := by decide +kernel
theorem dX7_stitch_174 : decode cX7_stitch 174 = .ok (.iconst 3, 1) := by decide +kernel
theorem dX7_stitch_175 : decode cX7_stitch 175 = .ok (.iload_n 1, 1) := by decide +kernel
theorem dX7_stitch_176 : decode cX7_stitch 176 = .ok (.imul, 1) := by decide +kernel
theorem dX7_stitch_177 : decode cX7_stitch 177 = .ok (.iload 6, 2) := by decide +kernel
theorem dX7_stitch_179 : decode cX7_stitch 179 = .ok (.iadd, 1) := by decide +kernel
theorem dX7_stitch_180 : decode cX7_stitch 180 = .ok (.aload_n 0, 1) := by decide +kernel
theorem dX7_stitch_181 : decode cX7_stitch 181 = .ok (.getfield 23, 3) := by decide +kernel
theorem dX7_stitch_184 : decode cX7_stitch 184 = .ok (.iconst 3, 1) := by decide +kernel
theorem dX7_stitch_185 : decode cX7_stitch 185 = .ok (.iload_n 1, 1) := by decide +kernel
theorem dX7_stitch_186 : decode cX7_stitch 186 = .ok (.imul, 1) := by decide +kernel
theorem dX7_stitch_187 : decode cX7_stitch 187 = .ok (.iload 6, 2) := by decide +kernel
theorem dX7_stitch_189 : decode cX7_stitch 189 = .ok (.iadd, 1) := by decide +kernel
theorem dX7_stitch_190 : decode cX7_stitch 190 = .ok (.iconst 1, 1) := by decide +kernel
theorem dX7_stitch_191 : decode cX7_stitch 191 = .ok (.isub, 1) := by decide +kernel
theorem dX7_stitch_192 : decode cX7_stitch 192 = .ok (.laload, 1) := by decide +kernel
theorem dX7_stitch_193 : decode cX7_stitch 193 = .ok (.lastore, 1) := by decide +kernel
theorem dX7_stitch_194 : decode cX7_stitch 194 = .ok (.iinc 6 (-1), 3) := by decide +kernel
theorem dX7_stitch_197 : decode cX7_stitch 197 = .ok (.goto (-50), 3) := by decide +kernel
theorem dX7_stitch_200 : decode cX7_stitch 200 = .ok (.aload_n 0, 1) := by decide +kernel
theorem dX7_stitch_201 : decode cX7_stitch 201 = .ok (.getfield 23, 3) := by decide +kernel
theorem dX7_stitch_204 : decode cX7_stitch 204 = .ok (.iconst 3, 1) := by decide +kernel
theorem dX7_stitch_205 : decode cX7_stitch 205 = .ok (.iload_n 1, 1) := by decide +kernel
theorem dX7_stitch_206 : decode cX7_stitch 206 = .ok (.imul, 1) := by decide +kernel
theorem dX7_stitch_207 : decode cX7_stitch 207 = .ok (.iload 6, 2) := by decide +kernel
theorem dX7_stitch_209 : decode cX7_stitch 209 = .ok (.iadd, 1) := by decide +kernel
theorem dX7_stitch_210 : decode cX7_stitch 210 = .ok (.lload_n 2, 1) := by decide +kernel
theorem dX7_stitch_211 : decode cX7_stitch 211 = .ok (.lastore, 1) := by decide +kernel
theorem dX7_stitch_212 : decode cX7_stitch 212 = .ok (.aload_n 0, 1) := by decide +kernel
theorem dX7_stitch_213 : decode cX7_stitch 213 = .ok (.getfield 26, 3) := by decide +kernel
theorem dX7_stitch_216 : decode cX7_stitch 216 = .ok (.iload_n 1, 1) := by decide +kernel
theorem dX7_stitch_217 : decode cX7_stitch 217 = .ok (.dup2, 1) := by decide +kernel
theorem dX7_stitch_218 : decode cX7_stitch 218 = .ok (.iaload, 1) := by decide +kernel
theorem dX7_stitch_219 : decode cX7_stitch 219 = .ok (.iconst 1, 1) := by decide +kernel
theorem dX7_stitch_220 : decode cX7_stitch 220 = .ok (.iadd, 1) := by decide +kernel
theorem dX7_stitch_221 : decode cX7_stitch 221 = .ok (.iastore, 1) := by decide +kernel
theorem dX7_stitch_222 : decode cX7_stitch 222 = .ok (.aload_n 0, 1) := by decide +kernel
theorem dX7_stitch_223 : decode cX7_stitch 223 = .ok (.getfield 29, 3) := by decide +kernel
theorem dX7_stitch_226 : decode cX7_stitch 226 = .ok (.iload_n 1, 1) := by decide +kernel
theorem dX7_stitch_227 : decode cX7_stitch 227 = .ok (.iload 4, 2) := by decide +kernel
theorem dX7_stitch_229 : decode cX7_stitch 229 = .ok (.bastore, 1) := by decide +kernel
theorem dX7_stitch_230 : decode cX7_stitch 230 = .ok (.iconst 1, 1) := by decide +kernel
theorem dX7_stitch_231 : decode cX7_stitch 231 = .ok (.ireturn, 1) := by decide +kernel
theorem dX7_part_0 : decode cX7_part 0 = .ok (.aload_n 0, 1) := by decide +kernel
theorem dX7_part_1 : decode cX7_part 1 = .ok (.iconst 0, 1) := by decide +kernel
theorem dX7_part_2 : decode cX7_part 2 = .ok (.putfield 138, 3) := by decide +kernel
theorem dX7_part_5 : decode cX7_part 5 = .ok (.iconst 0, 1) := by decide +kernel
theorem dX7_part_6 : decode cX7_part 6 = .ok (.istore_n 1, 1) := by decide +kernel
theorem dX7_part_7 : decode cX7_part 7 = .ok (.iload_n 1, 1) := by decide +kernel
theorem dX7_part_8 : decode cX7_part 8 = .ok (.aload_n 0, 1) := by decide +kernel
theorem dX7_part_9 : decode cX7_part 9 = .ok (.getfield 76, 3) := by decide +kernel
theorem dX7_part_12 : decode cX7_part 12 = .ok (.if_icmp .ge 57, 3) := by decide +kernel
theorem dX7_part_15 : decode cX7_part 15 = .ok (.iconst 0, 1) := by decide +kernel
theorem dX7_part_16 : decode cX7_part 16 = .ok (.istore_n 2, 1) := by decide +kernel
theorem dX7_part_17 : decode cX7_part 17 = .ok (.iload_n 2, 1) := by decide +kernel
theorem dX7_part_18 : decode cX7_part 18 = .ok (.aload_n 0, 1) := by decide +kernel
theorem dX7_part_19 : decode cX7_part 19 = .ok (.getfield 26, 3) := by decide +kernel
theorem dX7_part_22 : decode cX7_part 22 = .ok (.iload_n 1, 1) := by decide +kernel
theorem dX7_part_23 : decode cX7_part 23 = .ok (.iaload, 1) := by decide +kernel
theorem dX7_part_24 : decode cX7_part 24 = .ok (.if_icmp .gt 39, 3) := by decide +kernel
theorem dX7_part_27 : decode cX7_part 27 = .ok (.aload_n 0, 1) := by decide +kernel
theorem dX7_part_28 : decode cX7_part 28 = .ok (.getfield 33, 3) := by decide +kernel
theorem dX7_part_31 : decode cX7_part 31 = .ok (.aload_n 0, 1) := by decide +kernel
theorem dX7_part_32 : decode cX7_part 32 = .ok (.getfield 138, 3) := by decide +kernel
theorem dX7_part_35 : decode cX7_part 35 = .ok (.iload_n 1, 1) := by decide +kernel
theorem dX7_part_36 : decode cX7_part 36 = .ok (.iastore, 1) := by decide +kernel
theorem dX7_part_37 : decode cX7_part 37 = .ok (.aload_n 0, 1) := by decide +kernel
theorem dX7_part_38 : decode cX7_part 38 = .ok (.getfield 36, 3) := by decide +kernel
theorem dX7_part_41 : decode cX7_part 41 = .ok (.aload_n 0, 1) := by decide +kernel
theorem dX7_part_42 : decode cX7_part 42 = .ok (.getfield 138, 3) := by decide +kernel
theorem dX7_part_45 : decode cX7_part 45 = .ok (.iload_n 2, 1) := by decide +kernel
theorem dX7_part_46 : decode cX7_part 46 = .ok (.iastore, 1) := by decide +kernel
theorem dX7_part_47 : decode cX7_part 47 = .ok (.aload_n 0, 1) := by decide +kernel
theorem dX7_part_48 : decode cX7_part 48 = .ok (.dup, 1) := by decide +kernel
theorem dX7_part_49 : decode cX7_part 49 = .ok (.getfield 138, 3) := by decide +kernel
theorem dX7_part_52 : decode cX7_part 52 = .ok (.iconst 1, 1) := by decide +kernel
theorem dX7_part_53 : decode cX7_part 53 = .ok (.iadd, 1) := by decide +kernel
theorem dX7_part_54 : decode cX7_part 54 = .ok (.putfield 138, 3) := by decide +kernel
theorem dX7_part_57 : decode cX7_part 57 = .ok (.iinc 2 1, 3) := by decide +kernel
theorem dX7_part_60 : decode cX7_part 60 = .ok (.goto (-43), 3) := by decide +kernel
theorem dX7_part_63 : decode cX7_part 63 = .ok (.iinc 1 1, 3) := by decide +kernel
theorem dX7_part_66 : decode cX7_part 66 = .ok (.goto (-59), 3) := by decide +kernel
theorem dX7_part_69 : decode cX7_part 69 = .ok (.iconst 0, 1) := by decide +kernel
theorem dX7_part_70 : decode cX7_part 70 = .ok (.istore_n 1, 1) := by decide +kernel
theorem dX7_part_71 : decode cX7_part 71 = .ok (.iload_n 1, 1) := by decide +kernel
theorem dX7_part_72 : decode cX7_part 72 = .ok (.aload_n 0, 1) := by decide +kernel
theorem dX7_part_73 : decode cX7_part 73 = .ok (.getfield 138, 3) := by decide +kernel
theorem dX7_part_76 : decode cX7_part 76 = .ok (.if_icmp .ge 87, 3) := by decide +kernel
theorem dX7_part_79 : decode cX7_part 79 = .ok (.iconst 0, 1) := by decide +kernel
theorem dX7_part_80 : decode cX7_part 80 = .ok (.istore_n 2, 1) := by decide +kernel
theorem dX7_part_81 : decode cX7_part 81 = .ok (.iload_n 2, 1) := by decide +kernel
theorem dX7_part_82 : decode cX7_part 82 = .ok (.aload_n 0, 1) := by decide +kernel
theorem dX7_part_83 : decode cX7_part 83 = .ok (.getfield 138, 3) := by decide +kernel
theorem dX7_part_86 : decode cX7_part 86 = .ok (.if_icmp .ge 71, 3) := by decide +kernel
theorem dX7_part_89 : decode cX7_part 89 = .ok (.aload_n 0, 1) := by decide +kernel
theorem dX7_part_90 : decode cX7_part 90 = .ok (.getfield 39, 3) := by decide +kernel
theorem dX7_part_93 : decode cX7_part 93 = .ok (.bipush 12, 2) := by decide +kernel
theorem dX7_part_95 : decode cX7_part 95 = .ok (.iload_n 1, 1) := by decide +kernel
theorem dX7_part_96 : decode cX7_part 96 = .ok (.imul, 1) := by decide +kernel
theorem dX7_part_97 : decode cX7_part 97 = .ok (.iload_n 2, 1) := by decide +kernel
theorem dX7_part_98 : decode cX7_part 98 = .ok (.iadd, 1) := by decide +kernel
theorem dX7_part_99 : decode cX7_part 99 = .ok (.aload_n 0, 1) := by decide +kernel
theorem dX7_part_100 : decode cX7_part 100 = .ok (.getfield 33, 3) := by decide +kernel
theorem dX7_part_103 : decode cX7_part 103 = .ok (.iload_n 1, 1) := by decide +kernel
theorem dX7_part_104 : decode cX7_part 104 = .ok (.iaload, 1) := by decide +kernel
theorem dX7_part_105 : decode cX7_part 105 = .ok (.aload_n 0, 1) := by decide +kernel
theorem dX7_part_106 : decode cX7_part 106 = .ok (.getfield 33, 3) := by decide +kernel
theorem dX7_part_109 : decode cX7_part 109 = .ok (.iload_n 2, 1) := by decide +kernel
theorem dX7_part_110 : decode cX7_part 110 = .ok (.iaload, 1) := by decide +kernel
theorem dX7_part_111 : decode cX7_part 111 = .ok (.if_icmp .eq 38, 3) := by decide +kernel
theorem dX7_part_114 : decode cX7_part 114 = .ok (.aload_n 0, 1) := by decide +kernel
theorem dX7_part_115 : decode cX7_part 115 = .ok (.aload_n 0, 1) := by decide +kernel
theorem dX7_part_116 : decode cX7_part 116 = .ok (.getfield 33, 3) := by decide +kernel
theorem dX7_part_119 : decode cX7_part 119 = .ok (.iload_n 1, 1) := by decide +kernel
theorem dX7_part_120 : decode cX7_part 120 = .ok (.iaload, 1) := by decide +kernel
theorem dX7_part_121 : decode cX7_part 121 = .ok (.aload_n 0, 1) := by decide +kernel
theorem dX7_part_122 : decode cX7_part 122 = .ok (.getfield 36, 3) := by decide +kernel
theorem dX7_part_125 : decode cX7_part 125 = .ok (.iload_n 1, 1) := by decide +kernel
theorem dX7_part_126 : decode cX7_part 126 = .ok (.iaload, 1) := by decide +kernel
theorem dX7_part_127 : decode cX7_part 127 = .ok (.aload_n 0, 1) := by decide +kernel
theorem dX7_part_128 : decode cX7_part 128 = .ok (.getfield 33, 3) := by decide +kernel
theorem dX7_part_131 : decode cX7_part 131 = .ok (.iload_n 2, 1) := by decide +kernel
theorem dX7_part_132 : decode cX7_part 132 = .ok (.iaload, 1) := by decide +kernel
theorem dX7_part_133 : decode cX7_part 133 = .ok (.aload_n 0, 1) := by decide +kernel
theorem dX7_part_134 : decode cX7_part 134 = .ok (.getfield 36, 3) := by decide +kernel
theorem dX7_part_137 : decode cX7_part 137 = .ok (.iload_n 2, 1) := by decide +kernel
theorem dX7_part_138 : decode cX7_part 138 = .ok (.iaload, 1) := by decide +kernel
theorem dX7_part_139 : decode cX7_part 139 = .ok (.invokevirtual 120, 3) := by decide +kernel
theorem dX7_part_142 : decode cX7_part 142 = .ok (.ifCond .eq 7, 3) := by decide +kernel
theorem dX7_part_145 : decode cX7_part 145 = .ok (.iconst 1, 1) := by decide +kernel
theorem dX7_part_146 : decode cX7_part 146 = .ok (.goto 4, 3) := by decide +kernel
theorem dX7_part_149 : decode cX7_part 149 = .ok (.iconst 0, 1) := by decide +kernel
theorem dX7_part_150 : decode cX7_part 150 = .ok (.bastore, 1) := by decide +kernel
theorem dX7_part_151 : decode cX7_part 151 = .ok (.iinc 2 1, 3) := by decide +kernel
theorem dX7_part_154 : decode cX7_part 154 = .ok (.goto (-73), 3) := by decide +kernel
theorem dX7_part_157 : decode cX7_part 157 = .ok (.iinc 1 1, 3) := by decide +kernel
theorem dX7_part_160 : decode cX7_part 160 = .ok (.goto (-89), 3) := by decide +kernel
theorem dX7_part_163 : decode cX7_part 163 = .ok (.return_, 1) := by decide +kernel
theorem dX7_usedUpTo_0 : decode cX7_usedUpTo 0 = .ok (.iconst 0, 1) := by decide +kernel
theorem dX7_usedUpTo_1 : decode cX7_usedUpTo 1 = .ok (.istore_n 2, 1) := by decide +kernel
theorem dX7_usedUpTo_2 : decode cX7_usedUpTo 2 = .ok (.iconst 1, 1) := by decide +kernel
theorem dX7_usedUpTo_3 : decode cX7_usedUpTo 3 = .ok (.istore_n 3, 1) := by decide +kernel
theorem dX7_usedUpTo_4 : decode cX7_usedUpTo 4 = .ok (.iload_n 3, 1) := by decide +kernel
theorem dX7_usedUpTo_5 : decode cX7_usedUpTo 5 = .ok (.iload_n 1, 1) := by decide +kernel
theorem dX7_usedUpTo_6 : decode cX7_usedUpTo 6 = .ok (.if_icmp .ge 51, 3) := by decide +kernel
theorem dX7_usedUpTo_9 : decode cX7_usedUpTo 9 = .ok (.iload_n 2, 1) := by decide +kernel
theorem dX7_usedUpTo_10 : decode cX7_usedUpTo 10 = .ok (.aload_n 0, 1) := by decide +kernel
theorem dX7_usedUpTo_11 : decode cX7_usedUpTo 11 = .ok (.getfield 33, 3) := by decide +kernel
theorem dX7_usedUpTo_14 : decode cX7_usedUpTo 14 = .ok (.iload_n 3, 1) := by decide +kernel
theorem dX7_usedUpTo_15 : decode cX7_usedUpTo 15 = .ok (.iaload, 1) := by decide +kernel
theorem dX7_usedUpTo_16 : decode cX7_usedUpTo 16 = .ok (.aload_n 0, 1) := by decide +kernel
theorem dX7_usedUpTo_17 : decode cX7_usedUpTo 17 = .ok (.getfield 33, 3) := by decide +kernel
theorem dX7_usedUpTo_20 : decode cX7_usedUpTo 20 = .ok (.iload_n 3, 1) := by decide +kernel
theorem dX7_usedUpTo_21 : decode cX7_usedUpTo 21 = .ok (.iconst 1, 1) := by decide +kernel
theorem dX7_usedUpTo_22 : decode cX7_usedUpTo 22 = .ok (.isub, 1) := by decide +kernel
theorem dX7_usedUpTo_23 : decode cX7_usedUpTo 23 = .ok (.iaload, 1) := by decide +kernel
theorem dX7_usedUpTo_24 : decode cX7_usedUpTo 24 = .ok (.if_icmp .ne 24, 3) := by decide +kernel
theorem dX7_usedUpTo_27 : decode cX7_usedUpTo 27 = .ok (.aload_n 0, 1) := by decide +kernel
theorem dX7_usedUpTo_28 : decode cX7_usedUpTo 28 = .ok (.getfield 48, 3) := by decide +kernel
theorem dX7_usedUpTo_31 : decode cX7_usedUpTo 31 = .ok (.iload_n 3, 1) := by decide +kernel
theorem dX7_usedUpTo_32 : decode cX7_usedUpTo 32 = .ok (.iaload, 1) := by decide +kernel
theorem dX7_usedUpTo_33 : decode cX7_usedUpTo 33 = .ok (.aload_n 0, 1) := by decide +kernel
theorem dX7_usedUpTo_34 : decode cX7_usedUpTo 34 = .ok (.getfield 48, 3) := by decide +kernel
theorem dX7_usedUpTo_37 : decode cX7_usedUpTo 37 = .ok (.iload_n 3, 1) := by decide +kernel
theorem dX7_usedUpTo_38 : decode cX7_usedUpTo 38 = .ok (.iconst 1, 1) := by decide +kernel
theorem dX7_usedUpTo_39 : decode cX7_usedUpTo 39 = .ok (.isub, 1) := by decide +kernel
theorem dX7_usedUpTo_40 : decode cX7_usedUpTo 40 = .ok (.iaload, 1) := by decide +kernel
theorem dX7_usedUpTo_41 : decode cX7_usedUpTo 41 = .ok (.if_icmp .eq 7, 3) := by decide +kernel
theorem dX7_usedUpTo_44 : decode cX7_usedUpTo 44 = .ok (.iconst 1, 1) := by decide +kernel
theorem dX7_usedUpTo_45 : decode cX7_usedUpTo 45 = .ok (.goto 4, 3) := by decide +kernel
theorem dX7_usedUpTo_48 : decode cX7_usedUpTo 48 = .ok (.iconst 0, 1) := by decide +kernel
theorem dX7_usedUpTo_49 : decode cX7_usedUpTo 49 = .ok (.iadd, 1) := by decide +kernel
theorem dX7_usedUpTo_50 : decode cX7_usedUpTo 50 = .ok (.istore_n 2, 1) := by decide +kernel
theorem dX7_usedUpTo_51 : decode cX7_usedUpTo 51 = .ok (.iinc 3 1, 3) := by decide +kernel
theorem dX7_usedUpTo_54 : decode cX7_usedUpTo 54 = .ok (.goto (-50), 3) := by decide +kernel
theorem dX7_usedUpTo_57 : decode cX7_usedUpTo 57 = .ok (.iload_n 2, 1) := by decide +kernel
theorem dX7_usedUpTo_58 : decode cX7_usedUpTo 58 = .ok (.ireturn, 1) := by decide +kernel
theorem dX7_fits_0 : decode cX7_fits 0 = .ok (.aload_n 0, 1) := by decide +kernel
theorem dX7_fits_1 : decode cX7_fits 1 = .ok (.getfield 20, 3) := by decide +kernel
theorem dX7_fits_4 : decode cX7_fits 4 = .ok (.aload_n 0, 1) := by decide +kernel
theorem dX7_fits_5 : decode cX7_fits 5 = .ok (.getfield 33, 3) := by decide +kernel
theorem dX7_fits_8 : decode cX7_fits 8 = .ok (.iload_n 1, 1) := by decide +kernel
theorem dX7_fits_9 : decode cX7_fits 9 = .ok (.iaload, 1) := by decide +kernel
theorem dX7_fits_10 : decode cX7_fits 10 = .ok (.iaload, 1) := by decide +kernel
theorem dX7_fits_11 : decode cX7_fits 11 = .ok (.istore_n 3, 1) := by decide +kernel
theorem dX7_fits_12 : decode cX7_fits 12 = .ok (.iload_n 3, 1) := by decide +kernel
theorem dX7_fits_13 : decode cX7_fits 13 = .ok (.iconst (-1), 1) := by decide +kernel
theorem dX7_fits_14 : decode cX7_fits 14 = .ok (.if_icmp .eq 13, 3) := by decide +kernel
theorem dX7_fits_17 : decode cX7_fits 17 = .ok (.aload_n 0, 1) := by decide +kernel
theorem dX7_fits_18 : decode cX7_fits 18 = .ok (.getfield 48, 3) := by decide +kernel
theorem dX7_fits_21 : decode cX7_fits 21 = .ok (.iload_n 1, 1) := by decide +kernel
theorem dX7_fits_22 : decode cX7_fits 22 = .ok (.iaload, 1) := by decide +kernel
theorem dX7_fits_23 : decode cX7_fits 23 = .ok (.iload_n 3, 1) := by decide +kernel
theorem dX7_fits_24 : decode cX7_fits 24 = .ok (.if_icmp .ne 7, 3) := by decide +kernel
theorem dX7_fits_27 : decode cX7_fits 27 = .ok (.iconst 1, 1) := by decide +kernel
theorem dX7_fits_28 : decode cX7_fits 28 = .ok (.goto 4, 3) := by decide +kernel
theorem dX7_fits_31 : decode cX7_fits 31 = .ok (.iconst 0, 1) := by decide +kernel
theorem dX7_fits_32 : decode cX7_fits 32 = .ok (.istore 4, 2) := by decide +kernel
theorem dX7_fits_34 : decode cX7_fits 34 = .ok (.iconst 0, 1) := by decide +kernel
theorem dX7_fits_35 : decode cX7_fits 35 = .ok (.istore 5, 2) := by decide +kernel
theorem dX7_fits_37 : decode cX7_fits 37 = .ok (.iload 5, 2) := by decide +kernel
theorem dX7_fits_39 : decode cX7_fits 39 = .ok (.iload_n 1, 1) := by decide +kernel
theorem dX7_fits_40 : decode cX7_fits 40 = .ok (.if_icmp .ge 52, 3) := by decide +kernel
theorem dX7_fits_43 : decode cX7_fits 43 = .ok (.iload 4, 2) := by decide +kernel
theorem dX7_fits_45 : decode cX7_fits 45 = .ok (.ifCond .eq 47, 3) := by decide +kernel
theorem dX7_fits_48 : decode cX7_fits 48 = .ok (.aload_n 0, 1) := by decide +kernel
theorem dX7_fits_49 : decode cX7_fits 49 = .ok (.getfield 39, 3) := by decide +kernel
theorem dX7_fits_52 : decode cX7_fits 52 = .ok (.bipush 12, 2) := by decide +kernel
theorem dX7_fits_54 : decode cX7_fits 54 = .ok (.iload 5, 2) := by decide +kernel
theorem dX7_fits_56 : decode cX7_fits 56 = .ok (.imul, 1) := by decide +kernel
theorem dX7_fits_57 : decode cX7_fits 57 = .ok (.iload_n 1, 1) := by decide +kernel
theorem dX7_fits_58 : decode cX7_fits 58 = .ok (.iadd, 1) := by decide +kernel
theorem dX7_fits_59 : decode cX7_fits 59 = .ok (.baload, 1) := by decide +kernel
theorem dX7_fits_60 : decode cX7_fits 60 = .ok (.ifCond .eq 19, 3) := by decide +kernel
theorem dX7_fits_63 : decode cX7_fits 63 = .ok (.aload_n 0, 1) := by decide +kernel
theorem dX7_fits_64 : decode cX7_fits 64 = .ok (.getfield 48, 3) := by decide +kernel
theorem dX7_fits_67 : decode cX7_fits 67 = .ok (.iload 5, 2) := by decide +kernel
theorem dX7_fits_69 : decode cX7_fits 69 = .ok (.iaload, 1) := by decide +kernel
theorem dX7_fits_70 : decode cX7_fits 70 = .ok (.aload_n 0, 1) := by decide +kernel
theorem dX7_fits_71 : decode cX7_fits 71 = .ok (.getfield 48, 3) := by decide +kernel
theorem dX7_fits_74 : decode cX7_fits 74 = .ok (.iload_n 1, 1) := by decide +kernel
theorem dX7_fits_75 : decode cX7_fits 75 = .ok (.iaload, 1) := by decide +kernel
theorem dX7_fits_76 : decode cX7_fits 76 = .ok (.if_icmp .eq 7, 3) := by decide +kernel
theorem dX7_fits_79 : decode cX7_fits 79 = .ok (.iconst 1, 1) := by decide +kernel
theorem dX7_fits_80 : decode cX7_fits 80 = .ok (.goto 4, 3) := by decide +kernel
theorem dX7_fits_83 : decode cX7_fits 83 = .ok (.iconst 0, 1) := by decide +kernel
theorem dX7_fits_84 : decode cX7_fits 84 = .ok (.istore 4, 2) := by decide +kernel
theorem dX7_fits_86 : decode cX7_fits 86 = .ok (.iinc 5 1, 3) := by decide +kernel
theorem dX7_fits_89 : decode cX7_fits 89 = .ok (.goto (-52), 3) := by decide +kernel
theorem dX7_fits_92 : decode cX7_fits 92 = .ok (.iload 4, 2) := by decide +kernel
theorem dX7_fits_94 : decode cX7_fits 94 = .ok (.ifCond .eq 18, 3) := by decide +kernel
theorem dX7_fits_97 : decode cX7_fits 97 = .ok (.aload_n 0, 1) := by decide +kernel
theorem dX7_fits_98 : decode cX7_fits 98 = .ok (.iload_n 1, 1) := by decide +kernel
theorem dX7_fits_99 : decode cX7_fits 99 = .ok (.iconst 1, 1) := by decide +kernel
theorem dX7_fits_100 : decode cX7_fits 100 = .ok (.iadd, 1) := by decide +kernel
theorem dX7_fits_101 : decode cX7_fits 101 = .ok (.invokevirtual 141, 3) := by decide +kernel
theorem dX7_fits_104 : decode cX7_fits 104 = .ok (.iload_n 2, 1) := by decide +kernel
theorem dX7_fits_105 : decode cX7_fits 105 = .ok (.if_icmp .gt 7, 3) := by decide +kernel
theorem dX7_fits_108 : decode cX7_fits 108 = .ok (.iconst 1, 1) := by decide +kernel
theorem dX7_fits_109 : decode cX7_fits 109 = .ok (.goto 4, 3) := by decide +kernel
theorem dX7_fits_112 : decode cX7_fits 112 = .ok (.iconst 0, 1) := by decide +kernel
theorem dX7_fits_113 : decode cX7_fits 113 = .ok (.ireturn, 1) := by decide +kernel
theorem dX7_isFound_0 : decode cX7_isFound 0 = .ok (.iconst 0, 1) := by decide +kernel
theorem dX7_isFound_1 : decode cX7_isFound 1 = .ok (.istore_n 3, 1) := by decide +kernel
theorem dX7_isFound_2 : decode cX7_isFound 2 = .ok (.aload_n 0, 1) := by decide +kernel
theorem dX7_isFound_3 : decode cX7_isFound 3 = .ok (.getfield 48, 3) := by decide +kernel
theorem dX7_isFound_6 : decode cX7_isFound 6 = .ok (.iconst 0, 1) := by decide +kernel
theorem dX7_isFound_7 : decode cX7_isFound 7 = .ok (.iconst (-1), 1) := by decide +kernel
theorem dX7_isFound_8 : decode cX7_isFound 8 = .ok (.iastore, 1) := by decide +kernel
theorem dX7_isFound_9 : decode cX7_isFound 9 = .ok (.iload_n 3, 1) := by decide +kernel
theorem dX7_isFound_10 : decode cX7_isFound 10 = .ok (.ifCond .lt 82, 3) := by decide +kernel
theorem dX7_isFound_13 : decode cX7_isFound 13 = .ok (.iload_n 3, 1) := by decide +kernel
theorem dX7_isFound_14 : decode cX7_isFound 14 = .ok (.aload_n 0, 1) := by decide +kernel
theorem dX7_isFound_15 : decode cX7_isFound 15 = .ok (.getfield 138, 3) := by decide +kernel
theorem dX7_isFound_18 : decode cX7_isFound 18 = .ok (.if_icmp .ge 74, 3) := by decide +kernel
theorem dX7_isFound_21 : decode cX7_isFound 21 = .ok (.aload_n 0, 1) := by decide +kernel
theorem dX7_isFound_22 : decode cX7_isFound 22 = .ok (.getfield 48, 3) := by decide +kernel
theorem dX7_isFound_25 : decode cX7_isFound 25 = .ok (.iload_n 3, 1) := by decide +kernel
theorem dX7_isFound_26 : decode cX7_isFound 26 = .ok (.dup2, 1) := by decide +kernel
theorem dX7_isFound_27 : decode cX7_isFound 27 = .ok (.iaload, 1) := by decide +kernel
theorem dX7_isFound_28 : decode cX7_isFound 28 = .ok (.iconst 1, 1) := by decide +kernel
theorem dX7_isFound_29 : decode cX7_isFound 29 = .ok (.iadd, 1) := by decide +kernel
theorem dX7_isFound_30 : decode cX7_isFound 30 = .ok (.iastore, 1) := by decide +kernel
theorem dX7_isFound_31 : decode cX7_isFound 31 = .ok (.aload_n 0, 1) := by decide +kernel
theorem dX7_isFound_32 : decode cX7_isFound 32 = .ok (.getfield 48, 3) := by decide +kernel
theorem dX7_isFound_35 : decode cX7_isFound 35 = .ok (.iload_n 3, 1) := by decide +kernel
theorem dX7_isFound_36 : decode cX7_isFound 36 = .ok (.iaload, 1) := by decide +kernel
theorem dX7_isFound_37 : decode cX7_isFound 37 = .ok (.iload_n 1, 1) := by decide +kernel
theorem dX7_isFound_38 : decode cX7_isFound 38 = .ok (.if_icmp .ge 25, 3) := by decide +kernel
theorem dX7_isFound_41 : decode cX7_isFound 41 = .ok (.aload_n 0, 1) := by decide +kernel
theorem dX7_isFound_42 : decode cX7_isFound 42 = .ok (.iload_n 3, 1) := by decide +kernel
theorem dX7_isFound_43 : decode cX7_isFound 43 = .ok (.iload_n 2, 1) := by decide +kernel
theorem dX7_isFound_44 : decode cX7_isFound 44 = .ok (.invokevirtual 144, 3) := by decide +kernel
theorem dX7_isFound_47 : decode cX7_isFound 47 = .ok (.ifCond .ne 16, 3) := by decide +kernel
theorem dX7_isFound_50 : decode cX7_isFound 50 = .ok (.aload_n 0, 1) := by decide +kernel
theorem dX7_isFound_51 : decode cX7_isFound 51 = .ok (.getfield 48, 3) := by decide +kernel
theorem dX7_isFound_54 : decode cX7_isFound 54 = .ok (.iload_n 3, 1) := by decide +kernel
theorem dX7_isFound_55 : decode cX7_isFound 55 = .ok (.dup2, 1) := by decide +kernel
theorem dX7_isFound_56 : decode cX7_isFound 56 = .ok (.iaload, 1) := by decide +kernel
theorem dX7_isFound_57 : decode cX7_isFound 57 = .ok (.iconst 1, 1) := by decide +kernel
theorem dX7_isFound_58 : decode cX7_isFound 58 = .ok (.iadd, 1) := by decide +kernel
theorem dX7_isFound_59 : decode cX7_isFound 59 = .ok (.iastore, 1) := by decide +kernel
theorem dX7_isFound_60 : decode cX7_isFound 60 = .ok (.goto (-29), 3) := by decide +kernel
theorem dX7_isFound_63 : decode cX7_isFound 63 = .ok (.aload_n 0, 1) := by decide +kernel
theorem dX7_isFound_64 : decode cX7_isFound 64 = .ok (.getfield 48, 3) := by decide +kernel
theorem dX7_isFound_67 : decode cX7_isFound 67 = .ok (.iload_n 3, 1) := by decide +kernel
theorem dX7_isFound_68 : decode cX7_isFound 68 = .ok (.iaload, 1) := by decide +kernel
theorem dX7_isFound_69 : decode cX7_isFound 69 = .ok (.iload_n 1, 1) := by decide +kernel
theorem dX7_isFound_70 : decode cX7_isFound 70 = .ok (.if_icmp .ne 9, 3) := by decide +kernel
theorem dX7_isFound_73 : decode cX7_isFound 73 = .ok (.iinc 3 (-1), 3) := by decide +kernel
theorem dX7_isFound_76 : decode cX7_isFound 76 = .ok (.goto (-67), 3) := by decide +kernel
theorem dX7_isFound_79 : decode cX7_isFound 79 = .ok (.iinc 3 1, 3) := by decide +kernel
theorem dX7_isFound_82 : decode cX7_isFound 82 = .ok (.aload_n 0, 1) := by decide +kernel
theorem dX7_isFound_83 : decode cX7_isFound 83 = .ok (.getfield 48, 3) := by decide +kernel
theorem dX7_isFound_86 : decode cX7_isFound 86 = .ok (.iload_n 3, 1) := by decide +kernel
theorem dX7_isFound_87 : decode cX7_isFound 87 = .ok (.iconst (-1), 1) := by decide +kernel
theorem dX7_isFound_88 : decode cX7_isFound 88 = .ok (.iastore, 1) := by decide +kernel
theorem dX7_isFound_89 : decode cX7_isFound 89 = .ok (.goto (-80), 3) := by decide +kernel
theorem dX7_isFound_92 : decode cX7_isFound 92 = .ok (.iload_n 3, 1) := by decide +kernel
theorem dX7_isFound_93 : decode cX7_isFound 93 = .ok (.aload_n 0, 1) := by decide +kernel
theorem dX7_isFound_94 : decode cX7_isFound 94 = .ok (.getfield 138, 3) := by decide +kernel
theorem dX7_isFound_97 : decode cX7_isFound 97 = .ok (.if_icmp .ne 7, 3) := by decide +kernel
theorem dX7_isFound_100 : decode cX7_isFound 100 = .ok (.iconst 1, 1) := by decide +kernel
theorem dX7_isFound_101 : decode cX7_isFound 101 = .ok (.goto 4, 3) := by decide +kernel
theorem dX7_isFound_104 : decode cX7_isFound 104 = .ok (.iconst 0, 1) := by decide +kernel
theorem dX7_isFound_105 : decode cX7_isFound 105 = .ok (.ireturn, 1) := by decide +kernel
theorem dX7_areaOf_0 : decode cX7_areaOf 0 = .ok (.lconst 0, 1) := by decide +kernel
theorem dX7_areaOf_1 : decode cX7_areaOf 1 = .ok (.lstore_n 2, 1) := by decide +kernel
theorem dX7_areaOf_2 : decode cX7_areaOf 2 = .ok (.iconst 0, 1) := by decide +kernel
theorem dX7_areaOf_3 : decode cX7_areaOf 3 = .ok (.istore 4, 2) := by decide +kernel
theorem dX7_areaOf_5 : decode cX7_areaOf 5 = .ok (.iload 4, 2) := by decide +kernel
theorem dX7_areaOf_7 : decode cX7_areaOf 7 = .ok (.aload_n 0, 1) := by decide +kernel
theorem dX7_areaOf_8 : decode cX7_areaOf 8 = .ok (.aload_n 0, 1) := by decide +kernel
theorem dX7_areaOf_9 : decode cX7_areaOf 9 = .ok (.getfield 33, 3) := by decide +kernel
theorem dX7_areaOf_12 : decode cX7_areaOf 12 = .ok (.iload_n 1, 1) := by decide +kernel
theorem dX7_areaOf_13 : decode cX7_areaOf 13 = .ok (.iaload, 1) := by decide +kernel
theorem dX7_areaOf_14 : decode cX7_areaOf 14 = .ok (.invokevirtual 108, 3) := by decide +kernel
theorem dX7_areaOf_17 : decode cX7_areaOf 17 = .ok (.if_icmp .ge 58, 3) := by decide +kernel
theorem dX7_areaOf_20 : decode cX7_areaOf 20 = .ok (.aload_n 0, 1) := by decide +kernel
theorem dX7_areaOf_21 : decode cX7_areaOf 21 = .ok (.aload_n 0, 1) := by decide +kernel
theorem dX7_areaOf_22 : decode cX7_areaOf 22 = .ok (.getfield 33, 3) := by decide +kernel
theorem dX7_areaOf_25 : decode cX7_areaOf 25 = .ok (.iload_n 1, 1) := by decide +kernel
theorem dX7_areaOf_26 : decode cX7_areaOf 26 = .ok (.iaload, 1) := by decide +kernel
theorem dX7_areaOf_27 : decode cX7_areaOf 27 = .ok (.aload_n 0, 1) := by decide +kernel
theorem dX7_areaOf_28 : decode cX7_areaOf 28 = .ok (.getfield 36, 3) := by decide +kernel
theorem dX7_areaOf_31 : decode cX7_areaOf 31 = .ok (.iload_n 1, 1) := by decide +kernel
theorem dX7_areaOf_32 : decode cX7_areaOf 32 = .ok (.iaload, 1) := by decide +kernel
theorem dX7_areaOf_33 : decode cX7_areaOf 33 = .ok (.iload 4, 2) := by decide +kernel
theorem dX7_areaOf_35 : decode cX7_areaOf 35 = .ok (.iconst 1, 1) := by decide +kernel
theorem dX7_areaOf_36 : decode cX7_areaOf 36 = .ok (.invokevirtual 112, 3) := by decide +kernel
theorem dX7_areaOf_39 : decode cX7_areaOf 39 = .ok (.lload_n 2, 1) := by decide +kernel
theorem dX7_areaOf_40 : decode cX7_areaOf 40 = .ok (.aload_n 0, 1) := by decide +kernel
theorem dX7_areaOf_41 : decode cX7_areaOf 41 = .ok (.getfield 42, 3) := by decide +kernel
theorem dX7_areaOf_44 : decode cX7_areaOf 44 = .ok (.iconst 2, 1) := by decide +kernel
theorem dX7_areaOf_45 : decode cX7_areaOf 45 = .ok (.laload, 1) := by decide +kernel
theorem dX7_areaOf_46 : decode cX7_areaOf 46 = .ok (.aload_n 0, 1) := by decide +kernel
theorem dX7_areaOf_47 : decode cX7_areaOf 47 = .ok (.getfield 42, 3) := by decide +kernel
theorem dX7_areaOf_50 : decode cX7_areaOf 50 = .ok (.iconst 0, 1) := by decide +kernel
theorem dX7_areaOf_51 : decode cX7_areaOf 51 = .ok (.laload, 1) := by decide +kernel
theorem dX7_areaOf_52 : decode cX7_areaOf 52 = .ok (.lsub, 1) := by decide +kernel
theorem dX7_areaOf_53 : decode cX7_areaOf 53 = .ok (.aload_n 0, 1) := by decide +kernel
theorem dX7_areaOf_54 : decode cX7_areaOf 54 = .ok (.getfield 42, 3) := by decide +kernel
theorem dX7_areaOf_57 : decode cX7_areaOf 57 = .ok (.iconst 3, 1) := by decide +kernel
theorem dX7_areaOf_58 : decode cX7_areaOf 58 = .ok (.laload, 1) := by decide +kernel
theorem dX7_areaOf_59 : decode cX7_areaOf 59 = .ok (.aload_n 0, 1) := by decide +kernel
theorem dX7_areaOf_60 : decode cX7_areaOf 60 = .ok (.getfield 42, 3) := by decide +kernel
theorem dX7_areaOf_63 : decode cX7_areaOf 63 = .ok (.iconst 1, 1) := by decide +kernel
theorem dX7_areaOf_64 : decode cX7_areaOf 64 = .ok (.laload, 1) := by decide +kernel
theorem dX7_areaOf_65 : decode cX7_areaOf 65 = .ok (.lsub, 1) := by decide +kernel
theorem dX7_areaOf_66 : decode cX7_areaOf 66 = .ok (.lmul, 1) := by decide +kernel
theorem dX7_areaOf_67 : decode cX7_areaOf 67 = .ok (.ladd, 1) := by decide +kernel
theorem dX7_areaOf_68 : decode cX7_areaOf 68 = .ok (.lstore_n 2, 1) := by decide +kernel
theorem dX7_areaOf_69 : decode cX7_areaOf 69 = .ok (.iinc 4 1, 3) := by decide +kernel
theorem dX7_areaOf_72 : decode cX7_areaOf 72 = .ok (.goto (-67), 3) := by decide +kernel
theorem dX7_areaOf_75 : decode cX7_areaOf 75 = .ok (.lload_n 2, 1) := by decide +kernel
theorem dX7_areaOf_76 : decode cX7_areaOf 76 = .ok (.lreturn, 1) := by decide +kernel
theorem dX7_keep_0 : decode cX7_keep 0 = .ok (.aload_n 0, 1) := by decide +kernel
theorem dX7_keep_1 : decode cX7_keep 1 = .ok (.iconst 1, 1) := by decide +kernel
theorem dX7_keep_2 : decode cX7_keep 2 = .ok (.putfield 91, 3) := by decide +kernel
theorem dX7_keep_5 : decode cX7_keep 5 = .ok (.aload_n 0, 1) := by decide +kernel
theorem dX7_keep_6 : decode cX7_keep 6 = .ok (.aload_n 0, 1) := by decide +kernel
theorem dX7_keep_7 : decode cX7_keep 7 = .ok (.getfield 138, 3) := by decide +kernel
theorem dX7_keep_10 : decode cX7_keep 10 = .ok (.putfield 147, 3) := by decide +kernel
theorem dX7_keep_13 : decode cX7_keep 13 = .ok (.aload_n 0, 1) := by decide +kernel
theorem dX7_keep_14 : decode cX7_keep 14 = .ok (.aload_n 0, 1) := by decide +kernel
theorem dX7_keep_15 : decode cX7_keep 15 = .ok (.aload_n 0, 1) := by decide +kernel
theorem dX7_keep_16 : decode cX7_keep 16 = .ok (.getfield 138, 3) := by decide +kernel
theorem dX7_keep_19 : decode cX7_keep 19 = .ok (.invokevirtual 141, 3) := by decide +kernel
theorem dX7_keep_22 : decode cX7_keep 22 = .ok (.putfield 150, 3) := by decide +kernel
theorem dX7_keep_25 : decode cX7_keep 25 = .ok (.iconst 0, 1) := by decide +kernel
theorem dX7_keep_26 : decode cX7_keep 26 = .ok (.istore_n 1, 1) := by decide +kernel
theorem dX7_keep_27 : decode cX7_keep 27 = .ok (.iload_n 1, 1) := by decide +kernel
theorem dX7_keep_28 : decode cX7_keep 28 = .ok (.aload_n 0, 1) := by decide +kernel
theorem dX7_keep_29 : decode cX7_keep 29 = .ok (.getfield 138, 3) := by decide +kernel
theorem dX7_keep_32 : decode cX7_keep 32 = .ok (.if_icmp .ge 44, 3) := by decide +kernel
theorem dX7_keep_35 : decode cX7_keep 35 = .ok (.aload_n 0, 1) := by decide +kernel
theorem dX7_keep_36 : decode cX7_keep 36 = .ok (.getfield 51, 3) := by decide +kernel
theorem dX7_keep_39 : decode cX7_keep 39 = .ok (.iload_n 1, 1) := by decide +kernel
theorem dX7_keep_40 : decode cX7_keep 40 = .ok (.aload_n 0, 1) := by decide +kernel
theorem dX7_keep_41 : decode cX7_keep 41 = .ok (.getfield 33, 3) := by decide +kernel
theorem dX7_keep_44 : decode cX7_keep 44 = .ok (.iload_n 1, 1) := by decide +kernel
theorem dX7_keep_45 : decode cX7_keep 45 = .ok (.iaload, 1) := by decide +kernel
theorem dX7_keep_46 : decode cX7_keep 46 = .ok (.iastore, 1) := by decide +kernel
theorem dX7_keep_47 : decode cX7_keep 47 = .ok (.aload_n 0, 1) := by decide +kernel
theorem dX7_keep_48 : decode cX7_keep 48 = .ok (.getfield 54, 3) := by decide +kernel
theorem dX7_keep_51 : decode cX7_keep 51 = .ok (.iload_n 1, 1) := by decide +kernel
theorem dX7_keep_52 : decode cX7_keep 52 = .ok (.aload_n 0, 1) := by decide +kernel
theorem dX7_keep_53 : decode cX7_keep 53 = .ok (.getfield 48, 3) := by decide +kernel
theorem dX7_keep_56 : decode cX7_keep 56 = .ok (.iload_n 1, 1) := by decide +kernel
theorem dX7_keep_57 : decode cX7_keep 57 = .ok (.iaload, 1) := by decide +kernel
theorem dX7_keep_58 : decode cX7_keep 58 = .ok (.iastore, 1) := by decide +kernel
theorem dX7_keep_59 : decode cX7_keep 59 = .ok (.aload_n 0, 1) := by decide +kernel
theorem dX7_keep_60 : decode cX7_keep 60 = .ok (.getfield 57, 3) := by decide +kernel
theorem dX7_keep_63 : decode cX7_keep 63 = .ok (.iload_n 1, 1) := by decide +kernel
theorem dX7_keep_64 : decode cX7_keep 64 = .ok (.aload_n 0, 1) := by decide +kernel
theorem dX7_keep_65 : decode cX7_keep 65 = .ok (.iload_n 1, 1) := by decide +kernel
theorem dX7_keep_66 : decode cX7_keep 66 = .ok (.invokevirtual 153, 3) := by decide +kernel
theorem dX7_keep_69 : decode cX7_keep 69 = .ok (.lastore, 1) := by decide +kernel
theorem dX7_keep_70 : decode cX7_keep 70 = .ok (.iinc 1 1, 3) := by decide +kernel
theorem dX7_keep_73 : decode cX7_keep 73 = .ok (.goto (-46), 3) := by decide +kernel
theorem dX7_keep_76 : decode cX7_keep 76 = .ok (.return_, 1) := by decide +kernel
theorem dX7_isStep_0 : decode cX7_isStep 0 = .ok (.aload_n 0, 1) := by decide +kernel
theorem dX7_isStep_1 : decode cX7_isStep 1 = .ok (.getfield 60, 3) := by decide +kernel
theorem dX7_isStep_4 : decode cX7_isStep 4 = .ok (.iload_n 1, 1) := by decide +kernel
theorem dX7_isStep_5 : decode cX7_isStep 5 = .ok (.iaload, 1) := by decide +kernel
theorem dX7_isStep_6 : decode cX7_isStep 6 = .ok (.istore_n 3, 1) := by decide +kernel
theorem dX7_isStep_7 : decode cX7_isStep 7 = .ok (.iload_n 1, 1) := by decide +kernel
theorem dX7_isStep_8 : decode cX7_isStep 8 = .ok (.ifCond .eq 24, 3) := by decide +kernel
theorem dX7_isStep_11 : decode cX7_isStep 11 = .ok (.aload_n 0, 1) := by decide +kernel
theorem dX7_isStep_12 : decode cX7_isStep 12 = .ok (.getfield 39, 3) := by decide +kernel
theorem dX7_isStep_15 : decode cX7_isStep 15 = .ok (.bipush 12, 2) := by decide +kernel
theorem dX7_isStep_17 : decode cX7_isStep 17 = .ok (.aload_n 0, 1) := by decide +kernel
theorem dX7_isStep_18 : decode cX7_isStep 18 = .ok (.getfield 60, 3) := by decide +kernel
theorem dX7_isStep_21 : decode cX7_isStep 21 = .ok (.iload_n 1, 1) := by decide +kernel
theorem dX7_isStep_22 : decode cX7_isStep 22 = .ok (.iconst 1, 1) := by decide +kernel
theorem dX7_isStep_23 : decode cX7_isStep 23 = .ok (.isub, 1) := by decide +kernel
theorem dX7_isStep_24 : decode cX7_isStep 24 = .ok (.iaload, 1) := by decide +kernel
theorem dX7_isStep_25 : decode cX7_isStep 25 = .ok (.imul, 1) := by decide +kernel
theorem dX7_isStep_26 : decode cX7_isStep 26 = .ok (.iload_n 3, 1) := by decide +kernel
theorem dX7_isStep_27 : decode cX7_isStep 27 = .ok (.iadd, 1) := by decide +kernel
theorem dX7_isStep_28 : decode cX7_isStep 28 = .ok (.baload, 1) := by decide +kernel
theorem dX7_isStep_29 : decode cX7_isStep 29 = .ok (.ifCond .eq 7, 3) := by decide +kernel
theorem dX7_isStep_32 : decode cX7_isStep 32 = .ok (.iconst 1, 1) := by decide +kernel
theorem dX7_isStep_33 : decode cX7_isStep 33 = .ok (.goto 4, 3) := by decide +kernel
theorem dX7_isStep_36 : decode cX7_isStep 36 = .ok (.iconst 0, 1) := by decide +kernel
theorem dX7_isStep_37 : decode cX7_isStep 37 = .ok (.istore 4, 2) := by decide +kernel
theorem dX7_isStep_39 : decode cX7_isStep 39 = .ok (.iconst 0, 1) := by decide +kernel
theorem dX7_isStep_40 : decode cX7_isStep 40 = .ok (.istore 5, 2) := by decide +kernel
theorem dX7_isStep_42 : decode cX7_isStep 42 = .ok (.iload 5, 2) := by decide +kernel
theorem dX7_isStep_44 : decode cX7_isStep 44 = .ok (.iload_n 1, 1) := by decide +kernel
theorem dX7_isStep_45 : decode cX7_isStep 45 = .ok (.if_icmp .ge 32, 3) := by decide +kernel
theorem dX7_isStep_48 : decode cX7_isStep 48 = .ok (.iload 4, 2) := by decide +kernel
theorem dX7_isStep_50 : decode cX7_isStep 50 = .ok (.ifCond .eq 18, 3) := by decide +kernel
theorem dX7_isStep_53 : decode cX7_isStep 53 = .ok (.aload_n 0, 1) := by decide +kernel
theorem dX7_isStep_54 : decode cX7_isStep 54 = .ok (.getfield 60, 3) := by decide +kernel
theorem dX7_isStep_57 : decode cX7_isStep 57 = .ok (.iload 5, 2) := by decide +kernel
theorem dX7_isStep_59 : decode cX7_isStep 59 = .ok (.iaload, 1) := by decide +kernel
theorem dX7_isStep_60 : decode cX7_isStep 60 = .ok (.iload_n 3, 1) := by decide +kernel
theorem dX7_isStep_61 : decode cX7_isStep 61 = .ok (.if_icmp .eq 7, 3) := by decide +kernel
theorem dX7_isStep_64 : decode cX7_isStep 64 = .ok (.iconst 1, 1) := by decide +kernel
theorem dX7_isStep_65 : decode cX7_isStep 65 = .ok (.goto 4, 3) := by decide +kernel
theorem dX7_isStep_68 : decode cX7_isStep 68 = .ok (.iconst 0, 1) := by decide +kernel
theorem dX7_isStep_69 : decode cX7_isStep 69 = .ok (.istore 4, 2) := by decide +kernel
theorem dX7_isStep_71 : decode cX7_isStep 71 = .ok (.iinc 5 1, 3) := by decide +kernel
theorem dX7_isStep_74 : decode cX7_isStep 74 = .ok (.goto (-32), 3) := by decide +kernel
theorem dX7_isStep_77 : decode cX7_isStep 77 = .ok (.iload 4, 2) := by decide +kernel
theorem dX7_isStep_79 : decode cX7_isStep 79 = .ok (.ifCond .eq 33, 3) := by decide +kernel
theorem dX7_isStep_82 : decode cX7_isStep 82 = .ok (.iload_n 1, 1) := by decide +kernel
theorem dX7_isStep_83 : decode cX7_isStep 83 = .ok (.iload_n 2, 1) := by decide +kernel
theorem dX7_isStep_84 : decode cX7_isStep 84 = .ok (.iconst 1, 1) := by decide +kernel
theorem dX7_isStep_85 : decode cX7_isStep 85 = .ok (.isub, 1) := by decide +kernel
theorem dX7_isStep_86 : decode cX7_isStep 86 = .ok (.if_icmp .lt 22, 3) := by decide +kernel
theorem dX7_isStep_89 : decode cX7_isStep 89 = .ok (.aload_n 0, 1) := by decide +kernel
theorem dX7_isStep_90 : decode cX7_isStep 90 = .ok (.getfield 39, 3) := by decide +kernel
theorem dX7_isStep_93 : decode cX7_isStep 93 = .ok (.bipush 12, 2) := by decide +kernel
theorem dX7_isStep_95 : decode cX7_isStep 95 = .ok (.iload_n 3, 1) := by decide +kernel
theorem dX7_isStep_96 : decode cX7_isStep 96 = .ok (.imul, 1) := by decide +kernel
theorem dX7_isStep_97 : decode cX7_isStep 97 = .ok (.aload_n 0, 1) := by decide +kernel
theorem dX7_isStep_98 : decode cX7_isStep 98 = .ok (.getfield 60, 3) := by decide +kernel
theorem dX7_isStep_101 : decode cX7_isStep 101 = .ok (.iconst 0, 1) := by decide +kernel
theorem dX7_isStep_102 : decode cX7_isStep 102 = .ok (.iaload, 1) := by decide +kernel
theorem dX7_isStep_103 : decode cX7_isStep 103 = .ok (.iadd, 1) := by decide +kernel
theorem dX7_isStep_104 : decode cX7_isStep 104 = .ok (.baload, 1) := by decide +kernel
theorem dX7_isStep_105 : decode cX7_isStep 105 = .ok (.ifCond .eq 7, 3) := by decide +kernel
theorem dX7_isStep_108 : decode cX7_isStep 108 = .ok (.iconst 1, 1) := by decide +kernel
theorem dX7_isStep_109 : decode cX7_isStep 109 = .ok (.goto 4, 3) := by decide +kernel
theorem dX7_isStep_112 : decode cX7_isStep 112 = .ok (.iconst 0, 1) := by decide +kernel
theorem dX7_isStep_113 : decode cX7_isStep 113 = .ok (.ireturn, 1) := by decide +kernel
theorem dX7_isRing_0 : decode cX7_isRing 0 = .ok (.iconst 0, 1) := by decide +kernel
theorem dX7_isRing_1 : decode cX7_isRing 1 = .ok (.istore_n 2, 1) := by decide +kernel
theorem dX7_isRing_2 : decode cX7_isRing 2 = .ok (.aload_n 0, 1) := by decide +kernel
theorem dX7_isRing_3 : decode cX7_isRing 3 = .ok (.getfield 60, 3) := by decide +kernel
theorem dX7_isRing_6 : decode cX7_isRing 6 = .ok (.iconst 0, 1) := by decide +kernel
theorem dX7_isRing_7 : decode cX7_isRing 7 = .ok (.iconst (-1), 1) := by decide +kernel
theorem dX7_isRing_8 : decode cX7_isRing 8 = .ok (.iastore, 1) := by decide +kernel
theorem dX7_isRing_9 : decode cX7_isRing 9 = .ok (.iload_n 2, 1) := by decide +kernel
theorem dX7_isRing_10 : decode cX7_isRing 10 = .ok (.ifCond .lt 85, 3) := by decide +kernel
theorem dX7_isRing_13 : decode cX7_isRing 13 = .ok (.iload_n 2, 1) := by decide +kernel
theorem dX7_isRing_14 : decode cX7_isRing 14 = .ok (.iload_n 1, 1) := by decide +kernel
theorem dX7_isRing_15 : decode cX7_isRing 15 = .ok (.if_icmp .ge 80, 3) := by decide +kernel
theorem dX7_isRing_18 : decode cX7_isRing 18 = .ok (.aload_n 0, 1) := by decide +kernel
theorem dX7_isRing_19 : decode cX7_isRing 19 = .ok (.getfield 60, 3) := by decide +kernel
theorem dX7_isRing_22 : decode cX7_isRing 22 = .ok (.iload_n 2, 1) := by decide +kernel
theorem dX7_isRing_23 : decode cX7_isRing 23 = .ok (.dup2, 1) := by decide +kernel
theorem dX7_isRing_24 : decode cX7_isRing 24 = .ok (.iaload, 1) := by decide +kernel
theorem dX7_isRing_25 : decode cX7_isRing 25 = .ok (.iconst 1, 1) := by decide +kernel
theorem dX7_isRing_26 : decode cX7_isRing 26 = .ok (.iadd, 1) := by decide +kernel
theorem dX7_isRing_27 : decode cX7_isRing 27 = .ok (.iastore, 1) := by decide +kernel
theorem dX7_isRing_28 : decode cX7_isRing 28 = .ok (.aload_n 0, 1) := by decide +kernel
theorem dX7_isRing_29 : decode cX7_isRing 29 = .ok (.getfield 60, 3) := by decide +kernel
theorem dX7_isRing_32 : decode cX7_isRing 32 = .ok (.iload_n 2, 1) := by decide +kernel
theorem dX7_isRing_33 : decode cX7_isRing 33 = .ok (.iaload, 1) := by decide +kernel
theorem dX7_isRing_34 : decode cX7_isRing 34 = .ok (.aload_n 0, 1) := by decide +kernel
theorem dX7_isRing_35 : decode cX7_isRing 35 = .ok (.getfield 138, 3) := by decide +kernel
theorem dX7_isRing_38 : decode cX7_isRing 38 = .ok (.if_icmp .ge 25, 3) := by decide +kernel
theorem dX7_isRing_41 : decode cX7_isRing 41 = .ok (.aload_n 0, 1) := by decide +kernel
theorem dX7_isRing_42 : decode cX7_isRing 42 = .ok (.iload_n 2, 1) := by decide +kernel
theorem dX7_isRing_43 : decode cX7_isRing 43 = .ok (.iload_n 1, 1) := by decide +kernel
theorem dX7_isRing_44 : decode cX7_isRing 44 = .ok (.invokevirtual 157, 3) := by decide +kernel
theorem dX7_isRing_47 : decode cX7_isRing 47 = .ok (.ifCond .ne 16, 3) := by decide +kernel
theorem dX7_isRing_50 : decode cX7_isRing 50 = .ok (.aload_n 0, 1) := by decide +kernel
theorem dX7_isRing_51 : decode cX7_isRing 51 = .ok (.getfield 60, 3) := by decide +kernel
theorem dX7_isRing_54 : decode cX7_isRing 54 = .ok (.iload_n 2, 1) := by decide +kernel
theorem dX7_isRing_55 : decode cX7_isRing 55 = .ok (.dup2, 1) := by decide +kernel
theorem dX7_isRing_56 : decode cX7_isRing 56 = .ok (.iaload, 1) := by decide +kernel
theorem dX7_isRing_57 : decode cX7_isRing 57 = .ok (.iconst 1, 1) := by decide +kernel
theorem dX7_isRing_58 : decode cX7_isRing 58 = .ok (.iadd, 1) := by decide +kernel
theorem dX7_isRing_59 : decode cX7_isRing 59 = .ok (.iastore, 1) := by decide +kernel
theorem dX7_isRing_60 : decode cX7_isRing 60 = .ok (.goto (-32), 3) := by decide +kernel
theorem dX7_isRing_63 : decode cX7_isRing 63 = .ok (.aload_n 0, 1) := by decide +kernel
theorem dX7_isRing_64 : decode cX7_isRing 64 = .ok (.getfield 60, 3) := by decide +kernel
theorem dX7_isRing_67 : decode cX7_isRing 67 = .ok (.iload_n 2, 1) := by decide +kernel
theorem dX7_isRing_68 : decode cX7_isRing 68 = .ok (.iaload, 1) := by decide +kernel
theorem dX7_isRing_69 : decode cX7_isRing 69 = .ok (.aload_n 0, 1) := by decide +kernel
theorem dX7_isRing_70 : decode cX7_isRing 70 = .ok (.getfield 138, 3) := by decide +kernel
theorem dX7_isRing_73 : decode cX7_isRing 73 = .ok (.if_icmp .ne 9, 3) := by decide +kernel
theorem dX7_isRing_76 : decode cX7_isRing 76 = .ok (.iinc 2 (-1), 3) := by decide +kernel
theorem dX7_isRing_79 : decode cX7_isRing 79 = .ok (.goto (-70), 3) := by decide +kernel
theorem dX7_isRing_82 : decode cX7_isRing 82 = .ok (.iinc 2 1, 3) := by decide +kernel
theorem dX7_isRing_85 : decode cX7_isRing 85 = .ok (.aload_n 0, 1) := by decide +kernel
theorem dX7_isRing_86 : decode cX7_isRing 86 = .ok (.getfield 60, 3) := by decide +kernel
theorem dX7_isRing_89 : decode cX7_isRing 89 = .ok (.iload_n 2, 1) := by decide +kernel
theorem dX7_isRing_90 : decode cX7_isRing 90 = .ok (.iconst (-1), 1) := by decide +kernel
theorem dX7_isRing_91 : decode cX7_isRing 91 = .ok (.iastore, 1) := by decide +kernel
theorem dX7_isRing_92 : decode cX7_isRing 92 = .ok (.goto (-83), 3) := by decide +kernel
theorem dX7_isRing_95 : decode cX7_isRing 95 = .ok (.iload_n 2, 1) := by decide +kernel
theorem dX7_isRing_96 : decode cX7_isRing 96 = .ok (.iload_n 1, 1) := by decide +kernel
theorem dX7_isRing_97 : decode cX7_isRing 97 = .ok (.if_icmp .ne 7, 3) := by decide +kernel
theorem dX7_isRing_100 : decode cX7_isRing 100 = .ok (.iconst 1, 1) := by decide +kernel
theorem dX7_isRing_101 : decode cX7_isRing 101 = .ok (.goto 4, 3) := by decide +kernel
theorem dX7_isRing_104 : decode cX7_isRing 104 = .ok (.iconst 0, 1) := by decide +kernel
theorem dX7_isRing_105 : decode cX7_isRing 105 = .ok (.ireturn, 1) := by decide +kernel
theorem dX7_findRing_0 : decode cX7_findRing 0 = .ok (.iconst 3, 1) := by decide +kernel
theorem dX7_findRing_1 : decode cX7_findRing 1 = .ok (.istore_n 1, 1) := by decide +kernel
theorem dX7_findRing_2 : decode cX7_findRing 2 = .ok (.iload_n 1, 1) := by decide +kernel
theorem dX7_findRing_3 : decode cX7_findRing 3 = .ok (.aload_n 0, 1) := by decide +kernel
theorem dX7_findRing_4 : decode cX7_findRing 4 = .ok (.getfield 138, 3) := by decide +kernel
theorem dX7_findRing_7 : decode cX7_findRing 7 = .ok (.if_icmp .gt 59, 3) := by decide +kernel
theorem dX7_findRing_10 : decode cX7_findRing 10 = .ok (.aload_n 0, 1) := by decide +kernel
theorem dX7_findRing_11 : decode cX7_findRing 11 = .ok (.getfield 95, 3) := by decide +kernel
theorem dX7_findRing_14 : decode cX7_findRing 14 = .ok (.ifCond .ne 52, 3) := by decide +kernel
theorem dX7_findRing_17 : decode cX7_findRing 17 = .ok (.aload_n 0, 1) := by decide +kernel
theorem dX7_findRing_18 : decode cX7_findRing 18 = .ok (.iload_n 1, 1) := by decide +kernel
theorem dX7_findRing_19 : decode cX7_findRing 19 = .ok (.invokevirtual 160, 3) := by decide +kernel
theorem dX7_findRing_22 : decode cX7_findRing 22 = .ok (.ifCond .eq 38, 3) := by decide +kernel
theorem dX7_findRing_25 : decode cX7_findRing 25 = .ok (.aload_n 0, 1) := by decide +kernel
theorem dX7_findRing_26 : decode cX7_findRing 26 = .ok (.iload_n 1, 1) := by decide +kernel
theorem dX7_findRing_27 : decode cX7_findRing 27 = .ok (.putfield 95, 3) := by decide +kernel
theorem dX7_findRing_30 : decode cX7_findRing 30 = .ok (.iconst 0, 1) := by decide +kernel
theorem dX7_findRing_31 : decode cX7_findRing 31 = .ok (.istore_n 2, 1) := by decide +kernel
theorem dX7_findRing_32 : decode cX7_findRing 32 = .ok (.iload_n 2, 1) := by decide +kernel
theorem dX7_findRing_33 : decode cX7_findRing 33 = .ok (.iload_n 1, 1) := by decide +kernel
theorem dX7_findRing_34 : decode cX7_findRing 34 = .ok (.if_icmp .ge 26, 3) := by decide +kernel
theorem dX7_findRing_37 : decode cX7_findRing 37 = .ok (.aload_n 0, 1) := by decide +kernel
theorem dX7_findRing_38 : decode cX7_findRing 38 = .ok (.getfield 63, 3) := by decide +kernel
theorem dX7_findRing_41 : decode cX7_findRing 41 = .ok (.iload_n 2, 1) := by decide +kernel
theorem dX7_findRing_42 : decode cX7_findRing 42 = .ok (.aload_n 0, 1) := by decide +kernel
theorem dX7_findRing_43 : decode cX7_findRing 43 = .ok (.getfield 33, 3) := by decide +kernel
theorem dX7_findRing_46 : decode cX7_findRing 46 = .ok (.aload_n 0, 1) := by decide +kernel
theorem dX7_findRing_47 : decode cX7_findRing 47 = .ok (.getfield 60, 3) := by decide +kernel
theorem dX7_findRing_50 : decode cX7_findRing 50 = .ok (.iload_n 2, 1) := by decide +kernel
theorem dX7_findRing_51 : decode cX7_findRing 51 = .ok (.iaload, 1) := by decide +kernel
theorem dX7_findRing_52 : decode cX7_findRing 52 = .ok (.iaload, 1) := by decide +kernel
theorem dX7_findRing_53 : decode cX7_findRing 53 = .ok (.iastore, 1) := by decide +kernel
theorem dX7_findRing_54 : decode cX7_findRing 54 = .ok (.iinc 2 1, 3) := by decide +kernel
theorem dX7_findRing_57 : decode cX7_findRing 57 = .ok (.goto (-25), 3) := by decide +kernel
theorem dX7_findRing_60 : decode cX7_findRing 60 = .ok (.iinc 1 2, 3) := by decide +kernel
theorem dX7_findRing_63 : decode cX7_findRing 63 = .ok (.goto (-61), 3) := by decide +kernel
theorem dX7_findRing_66 : decode cX7_findRing 66 = .ok (.return_, 1) := by decide +kernel
theorem dX7_run_0 : decode cX7_run 0 = .ok (.aload_n 0, 1) := by decide +kernel
theorem dX7_run_1 : decode cX7_run 1 = .ok (.aload_n 0, 1) := by decide +kernel
theorem dX7_run_2 : decode cX7_run 2 = .ok (.invokevirtual 124, 3) := by decide +kernel
theorem dX7_run_5 : decode cX7_run 5 = .ok (.ifCond .eq 7, 3) := by decide +kernel
theorem dX7_run_8 : decode cX7_run 8 = .ok (.iconst 1, 1) := by decide +kernel
theorem dX7_run_9 : decode cX7_run 9 = .ok (.goto 24, 3) := by decide +kernel
theorem dX7_run_12 : decode cX7_run 12 = .ok (.iload_n 1, 1) := by decide +kernel
theorem dX7_run_13 : decode cX7_run 13 = .ok (.iconst 2, 1) := by decide +kernel
theorem dX7_run_14 : decode cX7_run 14 = .ok (.if_icmp .lt 14, 3) := by decide +kernel
theorem dX7_run_17 : decode cX7_run 17 = .ok (.iload_n 1, 1) := by decide +kernel
theorem dX7_run_18 : decode cX7_run 18 = .ok (.iconst 4, 1) := by decide +kernel
theorem dX7_run_19 : decode cX7_run 19 = .ok (.if_icmp .gt 9, 3) := by decide +kernel
theorem dX7_run_22 : decode cX7_run 22 = .ok (.lload_n 2, 1) := by decide +kernel
theorem dX7_run_23 : decode cX7_run 23 = .ok (.lconst 0, 1) := by decide +kernel
theorem dX7_run_24 : decode cX7_run 24 = .ok (.lcmp, 1) := by decide +kernel
theorem dX7_run_25 : decode cX7_run 25 = .ok (.ifCond .ge 7, 3) := by decide +kernel
theorem dX7_run_28 : decode cX7_run 28 = .ok (.iconst 2, 1) := by decide +kernel
theorem dX7_run_29 : decode cX7_run 29 = .ok (.goto 4, 3) := by decide +kernel
theorem dX7_run_32 : decode cX7_run 32 = .ok (.iconst 0, 1) := by decide +kernel
theorem dX7_run_33 : decode cX7_run 33 = .ok (.putfield 72, 3) := by decide +kernel
theorem dX7_run_36 : decode cX7_run 36 = .ok (.aload_n 0, 1) := by decide +kernel
theorem dX7_run_37 : decode cX7_run 37 = .ok (.getfield 72, 3) := by decide +kernel
theorem dX7_run_40 : decode cX7_run 40 = .ok (.ifCond .le 5, 3) := by decide +kernel
theorem dX7_run_43 : decode cX7_run 43 = .ok (.iconst 0, 1) := by decide +kernel
theorem dX7_run_44 : decode cX7_run 44 = .ok (.ireturn, 1) := by decide +kernel
theorem dX7_run_45 : decode cX7_run 45 = .ok (.aload_n 0, 1) := by decide +kernel
theorem dX7_run_46 : decode cX7_run 46 = .ok (.aload_n 0, 1) := by decide +kernel
theorem dX7_run_47 : decode cX7_run 47 = .ok (.invokevirtual 79, 3) := by decide +kernel
theorem dX7_run_50 : decode cX7_run 50 = .ok (.i2l, 1) := by decide +kernel
theorem dX7_run_51 : decode cX7_run 51 = .ok (.lload_n 2, 1) := by decide +kernel
theorem dX7_run_52 : decode cX7_run 52 = .ok (.lcmp, 1) := by decide +kernel
theorem dX7_run_53 : decode cX7_run 53 = .ok (.ifCond .gt 7, 3) := by decide +kernel
theorem dX7_run_56 : decode cX7_run 56 = .ok (.iconst 1, 1) := by decide +kernel
theorem dX7_run_57 : decode cX7_run 57 = .ok (.goto 4, 3) := by decide +kernel
theorem dX7_run_60 : decode cX7_run 60 = .ok (.iconst 0, 1) := by decide +kernel
theorem dX7_run_61 : decode cX7_run 61 = .ok (.putfield 98, 3) := by decide +kernel
theorem dX7_run_64 : decode cX7_run 64 = .ok (.aload_n 0, 1) := by decide +kernel
theorem dX7_run_65 : decode cX7_run 65 = .ok (.getfield 98, 3) := by decide +kernel
theorem dX7_run_68 : decode cX7_run 68 = .ok (.ifCond .ne 5, 3) := by decide +kernel
theorem dX7_run_71 : decode cX7_run 71 = .ok (.iconst 2, 1) := by decide +kernel
theorem dX7_run_72 : decode cX7_run 72 = .ok (.ireturn, 1) := by decide +kernel
theorem dX7_run_73 : decode cX7_run 73 = .ok (.aload_n 0, 1) := by decide +kernel
theorem dX7_run_74 : decode cX7_run 74 = .ok (.invokevirtual 163, 3) := by decide +kernel
theorem dX7_run_77 : decode cX7_run 77 = .ok (.aload_n 0, 1) := by decide +kernel
theorem dX7_run_78 : decode cX7_run 78 = .ok (.iconst 0, 1) := by decide +kernel
theorem dX7_run_79 : decode cX7_run 79 = .ok (.putfield 91, 3) := by decide +kernel
theorem dX7_run_82 : decode cX7_run 82 = .ok (.aload_n 0, 1) := by decide +kernel
theorem dX7_run_83 : decode cX7_run 83 = .ok (.iconst 0, 1) := by decide +kernel
theorem dX7_run_84 : decode cX7_run 84 = .ok (.putfield 95, 3) := by decide +kernel
theorem dX7_run_87 : decode cX7_run 87 = .ok (.iconst 0, 1) := by decide +kernel
theorem dX7_run_88 : decode cX7_run 88 = .ok (.istore 4, 2) := by decide +kernel
theorem dX7_run_90 : decode cX7_run 90 = .ok (.iload 4, 2) := by decide +kernel
theorem dX7_run_92 : decode cX7_run 92 = .ok (.bipush 12, 2) := by decide +kernel
theorem dX7_run_94 : decode cX7_run 94 = .ok (.if_icmp .ge 30, 3) := by decide +kernel
theorem dX7_run_97 : decode cX7_run 97 = .ok (.aload_n 0, 1) := by decide +kernel
theorem dX7_run_98 : decode cX7_run 98 = .ok (.getfield 91, 3) := by decide +kernel
theorem dX7_run_101 : decode cX7_run 101 = .ok (.ifCond .ne 23, 3) := by decide +kernel
theorem dX7_run_104 : decode cX7_run 104 = .ok (.aload_n 0, 1) := by decide +kernel
theorem dX7_run_105 : decode cX7_run 105 = .ok (.iload_n 1, 1) := by decide +kernel
theorem dX7_run_106 : decode cX7_run 106 = .ok (.iload 4, 2) := by decide +kernel
theorem dX7_run_108 : decode cX7_run 108 = .ok (.invokevirtual 166, 3) := by decide +kernel
theorem dX7_run_111 : decode cX7_run 111 = .ok (.ifCond .eq 7, 3) := by decide +kernel
theorem dX7_run_114 : decode cX7_run 114 = .ok (.aload_n 0, 1) := by decide +kernel
theorem dX7_run_115 : decode cX7_run 115 = .ok (.invokevirtual 169, 3) := by decide +kernel
theorem dX7_run_118 : decode cX7_run 118 = .ok (.iinc 4 1, 3) := by decide +kernel
theorem dX7_run_121 : decode cX7_run 121 = .ok (.goto (-31), 3) := by decide +kernel
theorem dX7_run_124 : decode cX7_run 124 = .ok (.aload_n 0, 1) := by decide +kernel
theorem dX7_run_125 : decode cX7_run 125 = .ok (.getfield 91, 3) := by decide +kernel
theorem dX7_run_128 : decode cX7_run 128 = .ok (.ifCond .ne 12, 3) := by decide +kernel
theorem dX7_run_131 : decode cX7_run 131 = .ok (.iload_n 1, 1) := by decide +kernel
theorem dX7_run_132 : decode cX7_run 132 = .ok (.iconst 2, 1) := by decide +kernel
theorem dX7_run_133 : decode cX7_run 133 = .ok (.if_icmp .ne 7, 3) := by decide +kernel
theorem dX7_run_136 : decode cX7_run 136 = .ok (.aload_n 0, 1) := by decide +kernel
theorem dX7_run_137 : decode cX7_run 137 = .ok (.invokevirtual 172, 3) := by decide +kernel
theorem dX7_run_140 : decode cX7_run 140 = .ok (.aload_n 0, 1) := by decide +kernel
theorem dX7_run_141 : decode cX7_run 141 = .ok (.getfield 91, 3) := by decide +kernel
theorem dX7_run_144 : decode cX7_run 144 = .ok (.ifCond .eq 7, 3) := by decide +kernel
theorem dX7_run_147 : decode cX7_run 147 = .ok (.iconst 0, 1) := by decide +kernel
theorem dX7_run_148 : decode cX7_run 148 = .ok (.goto 4, 3) := by decide +kernel
theorem dX7_run_151 : decode cX7_run 151 = .ok (.iconst 1, 1) := by decide +kernel
theorem dX7_run_152 : decode cX7_run 152 = .ok (.ireturn, 1) := by decide +kernel
theorem dX7_firstOf_0 : decode cX7_firstOf 0 = .ok (.iconst 0, 1) := by decide +kernel
theorem dX7_firstOf_1 : decode cX7_firstOf 1 = .ok (.istore_n 2, 1) := by decide +kernel
theorem dX7_firstOf_2 : decode cX7_firstOf 2 = .ok (.iload_n 2, 1) := by decide +kernel
theorem dX7_firstOf_3 : decode cX7_firstOf 3 = .ok (.aload_n 0, 1) := by decide +kernel
theorem dX7_firstOf_4 : decode cX7_firstOf 4 = .ok (.getfield 147, 3) := by decide +kernel
theorem dX7_firstOf_7 : decode cX7_firstOf 7 = .ok (.if_icmp .ge 28, 3) := by decide +kernel
theorem dX7_firstOf_10 : decode cX7_firstOf 10 = .ok (.aload_n 0, 1) := by decide +kernel
theorem dX7_firstOf_11 : decode cX7_firstOf 11 = .ok (.getfield 91, 3) := by decide +kernel
theorem dX7_firstOf_14 : decode cX7_firstOf 14 = .ok (.ifCond .eq 21, 3) := by decide +kernel
theorem dX7_firstOf_17 : decode cX7_firstOf 17 = .ok (.aload_n 0, 1) := by decide +kernel
theorem dX7_firstOf_18 : decode cX7_firstOf 18 = .ok (.getfield 51, 3) := by decide +kernel
theorem dX7_firstOf_21 : decode cX7_firstOf 21 = .ok (.iload_n 2, 1) := by decide +kernel
theorem dX7_firstOf_22 : decode cX7_firstOf 22 = .ok (.iaload, 1) := by decide +kernel
theorem dX7_firstOf_23 : decode cX7_firstOf 23 = .ok (.iload_n 1, 1) := by decide +kernel
theorem dX7_firstOf_24 : decode cX7_firstOf 24 = .ok (.if_icmp .ne 5, 3) := by decide +kernel
theorem dX7_firstOf_27 : decode cX7_firstOf 27 = .ok (.iload_n 2, 1) := by decide +kernel
theorem dX7_firstOf_28 : decode cX7_firstOf 28 = .ok (.ireturn, 1) := by decide +kernel
theorem dX7_firstOf_29 : decode cX7_firstOf 29 = .ok (.iinc 2 1, 3) := by decide +kernel
theorem dX7_firstOf_32 : decode cX7_firstOf 32 = .ok (.goto (-30), 3) := by decide +kernel
theorem dX7_firstOf_35 : decode cX7_firstOf 35 = .ok (.iconst (-1), 1) := by decide +kernel
theorem dX7_firstOf_36 : decode cX7_firstOf 36 = .ok (.ireturn, 1) := by decide +kernel
theorem dX7_colour_0 : decode cX7_colour 0 = .ok (.aload_n 0, 1) := by decide +kernel
theorem dX7_colour_1 : decode cX7_colour 1 = .ok (.aload_n 0, 1) := by decide +kernel
theorem dX7_colour_2 : decode cX7_colour 2 = .ok (.iload_n 1, 1) := by decide +kernel
theorem dX7_colour_3 : decode cX7_colour 3 = .ok (.invokevirtual 83, 3) := by decide +kernel
theorem dX7_colour_6 : decode cX7_colour 6 = .ok (.ifCond .eq 7, 3) := by decide +kernel
theorem dX7_colour_9 : decode cX7_colour 9 = .ok (.iconst 0, 1) := by decide +kernel
theorem dX7_colour_10 : decode cX7_colour 10 = .ok (.goto 4, 3) := by decide +kernel
theorem dX7_colour_13 : decode cX7_colour 13 = .ok (.iconst 1, 1) := by decide +kernel
theorem dX7_colour_14 : decode cX7_colour 14 = .ok (.putfield 72, 3) := by decide +kernel
theorem dX7_colour_17 : decode cX7_colour 17 = .ok (.aload_n 0, 1) := by decide +kernel
theorem dX7_colour_18 : decode cX7_colour 18 = .ok (.getfield 72, 3) := by decide +kernel
theorem dX7_colour_21 : decode cX7_colour 21 = .ok (.ifCond .le 7, 3) := by decide +kernel
theorem dX7_colour_24 : decode cX7_colour 24 = .ok (.iconst (-1), 1) := by decide +kernel
theorem dX7_colour_25 : decode cX7_colour 25 = .ok (.goto 8, 3) := by decide +kernel
theorem dX7_colour_28 : decode cX7_colour 28 = .ok (.aload_n 0, 1) := by decide +kernel
theorem dX7_colour_29 : decode cX7_colour 29 = .ok (.iload_n 1, 1) := by decide +kernel
theorem dX7_colour_30 : decode cX7_colour 30 = .ok (.invokevirtual 175, 3) := by decide +kernel
theorem dX7_colour_33 : decode cX7_colour 33 = .ok (.istore_n 2, 1) := by decide +kernel
theorem dX7_colour_34 : decode cX7_colour 34 = .ok (.aload_n 0, 1) := by decide +kernel
theorem dX7_colour_35 : decode cX7_colour 35 = .ok (.getfield 72, 3) := by decide +kernel
theorem dX7_colour_38 : decode cX7_colour 38 = .ok (.ifCond .le 7, 3) := by decide +kernel
end
section
theorem dX7_colour_41 : decode cX7_colour 41 = .ok (.iconst 0, 1) := by decide +kernel
theorem dX7_colour_42 : decode cX7_colour 42 = .ok (.goto 18, 3) := by decide +kernel
theorem dX7_colour_45 : decode cX7_colour 45 = .ok (.iload_n 2, 1) := by decide +kernel
theorem dX7_colour_46 : decode cX7_colour 46 = .ok (.iconst (-1), 1) := by decide +kernel
theorem dX7_colour_47 : decode cX7_colour 47 = .ok (.if_icmp .ne 7, 3) := by decide +kernel
theorem dX7_colour_50 : decode cX7_colour 50 = .ok (.iconst (-1), 1) := by decide +kernel
theorem dX7_colour_51 : decode cX7_colour 51 = .ok (.goto 9, 3) := by decide +kernel
theorem dX7_colour_54 : decode cX7_colour 54 = .ok (.aload_n 0, 1) := by decide +kernel
theorem dX7_colour_55 : decode cX7_colour 55 = .ok (.getfield 54, 3) := by decide +kernel
theorem dX7_colour_58 : decode cX7_colour 58 = .ok (.iload_n 2, 1) := by decide +kernel
theorem dX7_colour_59 : decode cX7_colour 59 = .ok (.iaload, 1) := by decide +kernel
theorem dX7_colour_60 : decode cX7_colour 60 = .ok (.ireturn, 1) := by decide +kernel
theorem dX7_ring_0 : decode cX7_ring 0 = .ok (.aload_n 0, 1) := by decide +kernel
theorem dX7_ring_1 : decode cX7_ring 1 = .ok (.iload_n 1, 1) := by decide +kernel
theorem dX7_ring_2 : decode cX7_ring 2 = .ok (.ifCond .lt 11, 3) := by decide +kernel
theorem dX7_ring_5 : decode cX7_ring 5 = .ok (.iload_n 1, 1) := by decide +kernel
theorem dX7_ring_6 : decode cX7_ring 6 = .ok (.aload_n 0, 1) := by decide +kernel
theorem dX7_ring_7 : decode cX7_ring 7 = .ok (.getfield 95, 3) := by decide +kernel
theorem dX7_ring_10 : decode cX7_ring 10 = .ok (.if_icmp .lt 7, 3) := by decide +kernel
theorem dX7_ring_13 : decode cX7_ring 13 = .ok (.iconst 1, 1) := by decide +kernel
theorem dX7_ring_14 : decode cX7_ring 14 = .ok (.goto 4, 3) := by decide +kernel
theorem dX7_ring_17 : decode cX7_ring 17 = .ok (.iconst 0, 1) := by decide +kernel
theorem dX7_ring_18 : decode cX7_ring 18 = .ok (.putfield 72, 3) := by decide +kernel
theorem dX7_ring_21 : decode cX7_ring 21 = .ok (.aload_n 0, 1) := by decide +kernel
theorem dX7_ring_22 : decode cX7_ring 22 = .ok (.getfield 72, 3) := by decide +kernel
theorem dX7_ring_25 : decode cX7_ring 25 = .ok (.ifCond .le 7, 3) := by decide +kernel
theorem dX7_ring_28 : decode cX7_ring 28 = .ok (.iconst 0, 1) := by decide +kernel
theorem dX7_ring_29 : decode cX7_ring 29 = .ok (.goto 9, 3) := by decide +kernel
theorem dX7_ring_32 : decode cX7_ring 32 = .ok (.aload_n 0, 1) := by decide +kernel
theorem dX7_ring_33 : decode cX7_ring 33 = .ok (.getfield 63, 3) := by decide +kernel
theorem dX7_ring_36 : decode cX7_ring 36 = .ok (.iload_n 1, 1) := by decide +kernel
theorem dX7_ring_37 : decode cX7_ring 37 = .ok (.iaload, 1) := by decide +kernel
theorem dX7_ring_38 : decode cX7_ring 38 = .ok (.ireturn, 1) := by decide +kernel
theorem dX7_length_0 : decode cX7_length 0 = .ok (.aload_n 0, 1) := by decide +kernel
theorem dX7_length_1 : decode cX7_length 1 = .ok (.iconst 0, 1) := by decide +kernel
theorem dX7_length_2 : decode cX7_length 2 = .ok (.putfield 72, 3) := by decide +kernel
theorem dX7_length_5 : decode cX7_length 5 = .ok (.aload_n 0, 1) := by decide +kernel
theorem dX7_length_6 : decode cX7_length 6 = .ok (.getfield 95, 3) := by decide +kernel
theorem dX7_length_9 : decode cX7_length 9 = .ok (.ireturn, 1) := by decide +kernel
theorem dX7_stitches_0 : decode cX7_stitches 0 = .ok (.aload_n 0, 1) := by decide +kernel
theorem dX7_stitches_1 : decode cX7_stitches 1 = .ok (.iconst 0, 1) := by decide +kernel
theorem dX7_stitches_2 : decode cX7_stitches 2 = .ok (.putfield 72, 3) := by decide +kernel
theorem dX7_stitches_5 : decode cX7_stitches 5 = .ok (.aload_n 0, 1) := by decide +kernel
theorem dX7_stitches_6 : decode cX7_stitches 6 = .ok (.getfield 91, 3) := by decide +kernel
theorem dX7_stitches_9 : decode cX7_stitches 9 = .ok (.ifCond .eq 10, 3) := by decide +kernel
theorem dX7_stitches_12 : decode cX7_stitches 12 = .ok (.aload_n 0, 1) := by decide +kernel
theorem dX7_stitches_13 : decode cX7_stitches 13 = .ok (.getfield 150, 3) := by decide +kernel
theorem dX7_stitches_16 : decode cX7_stitches 16 = .ok (.goto 4, 3) := by decide +kernel
theorem dX7_stitches_19 : decode cX7_stitches 19 = .ok (.iconst 0, 1) := by decide +kernel
theorem dX7_stitches_20 : decode cX7_stitches 20 = .ok (.ireturn, 1) := by decide +kernel
theorem dX7_used_0 : decode cX7_used 0 = .ok (.aload_n 0, 1) := by decide +kernel
theorem dX7_used_1 : decode cX7_used 1 = .ok (.iload_n 1, 1) := by decide +kernel
theorem dX7_used_2 : decode cX7_used 2 = .ok (.invokevirtual 83, 3) := by decide +kernel
theorem dX7_used_5 : decode cX7_used 5 = .ok (.ifCond .eq 11, 3) := by decide +kernel
theorem dX7_used_8 : decode cX7_used 8 = .ok (.aload_n 0, 1) := by decide +kernel
theorem dX7_used_9 : decode cX7_used 9 = .ok (.iload_n 1, 1) := by decide +kernel
theorem dX7_used_10 : decode cX7_used 10 = .ok (.invokevirtual 175, 3) := by decide +kernel
theorem dX7_used_13 : decode cX7_used 13 = .ok (.goto 4, 3) := by decide +kernel
theorem dX7_used_16 : decode cX7_used 16 = .ok (.iconst (-1), 1) := by decide +kernel
theorem dX7_used_17 : decode cX7_used 17 = .ok (.istore_n 3, 1) := by decide +kernel
theorem dX7_used_18 : decode cX7_used 18 = .ok (.iload_n 3, 1) := by decide +kernel
theorem dX7_used_19 : decode cX7_used 19 = .ok (.iconst (-1), 1) := by decide +kernel
theorem dX7_used_20 : decode cX7_used 20 = .ok (.if_icmp .eq 47, 3) := by decide +kernel
theorem dX7_used_23 : decode cX7_used 23 = .ok (.iload_n 2, 1) := by decide +kernel
theorem dX7_used_24 : decode cX7_used 24 = .ok (.ifCond .lt 43, 3) := by decide +kernel
theorem dX7_used_27 : decode cX7_used 27 = .ok (.iload_n 2, 1) := by decide +kernel
theorem dX7_used_28 : decode cX7_used 28 = .ok (.aload_n 0, 1) := by decide +kernel
theorem dX7_used_29 : decode cX7_used 29 = .ok (.getfield 26, 3) := by decide +kernel
theorem dX7_used_32 : decode cX7_used 32 = .ok (.iload_n 1, 1) := by decide +kernel
theorem dX7_used_33 : decode cX7_used 33 = .ok (.iaload, 1) := by decide +kernel
theorem dX7_used_34 : decode cX7_used 34 = .ok (.if_icmp .ge 33, 3) := by decide +kernel
theorem dX7_used_37 : decode cX7_used 37 = .ok (.iload_n 3, 1) := by decide +kernel
theorem dX7_used_38 : decode cX7_used 38 = .ok (.iload_n 2, 1) := by decide +kernel
theorem dX7_used_39 : decode cX7_used 39 = .ok (.iadd, 1) := by decide +kernel
theorem dX7_used_40 : decode cX7_used 40 = .ok (.iconst 1, 1) := by decide +kernel
theorem dX7_used_41 : decode cX7_used 41 = .ok (.iadd, 1) := by decide +kernel
theorem dX7_used_42 : decode cX7_used 42 = .ok (.aload_n 0, 1) := by decide +kernel
theorem dX7_used_43 : decode cX7_used 43 = .ok (.getfield 147, 3) := by decide +kernel
theorem dX7_used_46 : decode cX7_used 46 = .ok (.if_icmp .ge 21, 3) := by decide +kernel
theorem dX7_used_49 : decode cX7_used 49 = .ok (.aload_n 0, 1) := by decide +kernel
theorem dX7_used_50 : decode cX7_used 50 = .ok (.getfield 51, 3) := by decide +kernel
theorem dX7_used_53 : decode cX7_used 53 = .ok (.iload_n 3, 1) := by decide +kernel
theorem dX7_used_54 : decode cX7_used 54 = .ok (.iload_n 2, 1) := by decide +kernel
theorem dX7_used_55 : decode cX7_used 55 = .ok (.iadd, 1) := by decide +kernel
theorem dX7_used_56 : decode cX7_used 56 = .ok (.iconst 1, 1) := by decide +kernel
theorem dX7_used_57 : decode cX7_used 57 = .ok (.iadd, 1) := by decide +kernel
theorem dX7_used_58 : decode cX7_used 58 = .ok (.iaload, 1) := by decide +kernel
theorem dX7_used_59 : decode cX7_used 59 = .ok (.iload_n 1, 1) := by decide +kernel
theorem dX7_used_60 : decode cX7_used 60 = .ok (.if_icmp .ne 7, 3) := by decide +kernel
theorem dX7_used_63 : decode cX7_used 63 = .ok (.iconst 1, 1) := by decide +kernel
theorem dX7_used_64 : decode cX7_used 64 = .ok (.goto 4, 3) := by decide +kernel
theorem dX7_used_67 : decode cX7_used 67 = .ok (.iconst 0, 1) := by decide +kernel
theorem dX7_used_68 : decode cX7_used 68 = .ok (.istore 4, 2) := by decide +kernel
theorem dX7_used_70 : decode cX7_used 70 = .ok (.aload_n 0, 1) := by decide +kernel
theorem dX7_used_71 : decode cX7_used 71 = .ok (.iload 4, 2) := by decide +kernel
theorem dX7_used_73 : decode cX7_used 73 = .ok (.ifCond .eq 7, 3) := by decide +kernel
theorem dX7_used_76 : decode cX7_used 76 = .ok (.iconst 0, 1) := by decide +kernel
theorem dX7_used_77 : decode cX7_used 77 = .ok (.goto 4, 3) := by decide +kernel
theorem dX7_used_80 : decode cX7_used 80 = .ok (.iconst 1, 1) := by decide +kernel
theorem dX7_used_81 : decode cX7_used 81 = .ok (.putfield 72, 3) := by decide +kernel
theorem dX7_used_84 : decode cX7_used 84 = .ok (.iload 4, 2) := by decide +kernel
theorem dX7_used_86 : decode cX7_used 86 = .ok (.ifCond .eq 28, 3) := by decide +kernel
theorem dX7_used_89 : decode cX7_used 89 = .ok (.aload_n 0, 1) := by decide +kernel
theorem dX7_used_90 : decode cX7_used 90 = .ok (.getfield 54, 3) := by decide +kernel
theorem dX7_used_93 : decode cX7_used 93 = .ok (.iload_n 3, 1) := by decide +kernel
theorem dX7_used_94 : decode cX7_used 94 = .ok (.iload_n 2, 1) := by decide +kernel
theorem dX7_used_95 : decode cX7_used 95 = .ok (.iadd, 1) := by decide +kernel
theorem dX7_used_96 : decode cX7_used 96 = .ok (.iaload, 1) := by decide +kernel
theorem dX7_used_97 : decode cX7_used 97 = .ok (.aload_n 0, 1) := by decide +kernel
theorem dX7_used_98 : decode cX7_used 98 = .ok (.getfield 54, 3) := by decide +kernel
theorem dX7_used_101 : decode cX7_used 101 = .ok (.iload_n 3, 1) := by decide +kernel
theorem dX7_used_102 : decode cX7_used 102 = .ok (.iload_n 2, 1) := by decide +kernel
theorem dX7_used_103 : decode cX7_used 103 = .ok (.iadd, 1) := by decide +kernel
theorem dX7_used_104 : decode cX7_used 104 = .ok (.iconst 1, 1) := by decide +kernel
theorem dX7_used_105 : decode cX7_used 105 = .ok (.iadd, 1) := by decide +kernel
theorem dX7_used_106 : decode cX7_used 106 = .ok (.iaload, 1) := by decide +kernel
theorem dX7_used_107 : decode cX7_used 107 = .ok (.if_icmp .eq 7, 3) := by decide +kernel
theorem dX7_used_110 : decode cX7_used 110 = .ok (.iconst 1, 1) := by decide +kernel
theorem dX7_used_111 : decode cX7_used 111 = .ok (.goto 4, 3) := by decide +kernel
theorem dX7_used_114 : decode cX7_used 114 = .ok (.iconst 0, 1) := by decide +kernel
theorem dX7_used_115 : decode cX7_used 115 = .ok (.ireturn, 1) := by decide +kernel
theorem dX7_balance_0 : decode cX7_balance 0 = .ok (.aload_n 0, 1) := by decide +kernel
theorem dX7_balance_1 : decode cX7_balance 1 = .ok (.iload_n 2, 1) := by decide +kernel
theorem dX7_balance_2 : decode cX7_balance 2 = .ok (.ifCond .lt 8, 3) := by decide +kernel
theorem dX7_balance_5 : decode cX7_balance 5 = .ok (.iload_n 2, 1) := by decide +kernel
theorem dX7_balance_6 : decode cX7_balance 6 = .ok (.iconst 1, 1) := by decide +kernel
theorem dX7_balance_7 : decode cX7_balance 7 = .ok (.if_icmp .le 7, 3) := by decide +kernel
theorem dX7_balance_10 : decode cX7_balance 10 = .ok (.iconst 1, 1) := by decide +kernel
theorem dX7_balance_11 : decode cX7_balance 11 = .ok (.goto 17, 3) := by decide +kernel
theorem dX7_balance_14 : decode cX7_balance 14 = .ok (.iload_n 1, 1) := by decide +kernel
theorem dX7_balance_15 : decode cX7_balance 15 = .ok (.ifCond .lt 8, 3) := by decide +kernel
theorem dX7_balance_18 : decode cX7_balance 18 = .ok (.iload_n 1, 1) := by decide +kernel
theorem dX7_balance_19 : decode cX7_balance 19 = .ok (.iconst 3, 1) := by decide +kernel
theorem dX7_balance_20 : decode cX7_balance 20 = .ok (.if_icmp .le 7, 3) := by decide +kernel
theorem dX7_balance_23 : decode cX7_balance 23 = .ok (.iconst 2, 1) := by decide +kernel
theorem dX7_balance_24 : decode cX7_balance 24 = .ok (.goto 4, 3) := by decide +kernel
theorem dX7_balance_27 : decode cX7_balance 27 = .ok (.iconst 0, 1) := by decide +kernel
theorem dX7_balance_28 : decode cX7_balance 28 = .ok (.putfield 72, 3) := by decide +kernel
theorem dX7_balance_31 : decode cX7_balance 31 = .ok (.lconst 0, 1) := by decide +kernel
theorem dX7_balance_32 : decode cX7_balance 32 = .ok (.lstore_n 3, 1) := by decide +kernel
theorem dX7_balance_33 : decode cX7_balance 33 = .ok (.iconst 0, 1) := by decide +kernel
theorem dX7_balance_34 : decode cX7_balance 34 = .ok (.istore 5, 2) := by decide +kernel
theorem dX7_balance_36 : decode cX7_balance 36 = .ok (.iload 5, 2) := by decide +kernel
theorem dX7_balance_38 : decode cX7_balance 38 = .ok (.aload_n 0, 1) := by decide +kernel
theorem dX7_balance_39 : decode cX7_balance 39 = .ok (.getfield 147, 3) := by decide +kernel
theorem dX7_balance_42 : decode cX7_balance 42 = .ok (.if_icmp .ge 52, 3) := by decide +kernel
theorem dX7_balance_45 : decode cX7_balance 45 = .ok (.aload_n 0, 1) := by decide +kernel
theorem dX7_balance_46 : decode cX7_balance 46 = .ok (.getfield 91, 3) := by decide +kernel
theorem dX7_balance_49 : decode cX7_balance 49 = .ok (.ifCond .eq 45, 3) := by decide +kernel
theorem dX7_balance_52 : decode cX7_balance 52 = .ok (.aload_n 0, 1) := by decide +kernel
theorem dX7_balance_53 : decode cX7_balance 53 = .ok (.getfield 72, 3) := by decide +kernel
theorem dX7_balance_56 : decode cX7_balance 56 = .ok (.ifCond .ne 38, 3) := by decide +kernel
theorem dX7_balance_59 : decode cX7_balance 59 = .ok (.aload_n 0, 1) := by decide +kernel
theorem dX7_balance_60 : decode cX7_balance 60 = .ok (.getfield 54, 3) := by decide +kernel
theorem dX7_balance_63 : decode cX7_balance 63 = .ok (.iload 5, 2) := by decide +kernel
theorem dX7_balance_65 : decode cX7_balance 65 = .ok (.iaload, 1) := by decide +kernel
theorem dX7_balance_66 : decode cX7_balance 66 = .ok (.iload_n 1, 1) := by decide +kernel
theorem dX7_balance_67 : decode cX7_balance 67 = .ok (.if_icmp .ne 21, 3) := by decide +kernel
theorem dX7_balance_70 : decode cX7_balance 70 = .ok (.lload_n 3, 1) := by decide +kernel
theorem dX7_balance_71 : decode cX7_balance 71 = .ok (.iload_n 2, 1) := by decide +kernel
theorem dX7_balance_72 : decode cX7_balance 72 = .ok (.ifCond .ne 7, 3) := by decide +kernel
theorem dX7_balance_75 : decode cX7_balance 75 = .ok (.lconst 1, 1) := by decide +kernel
theorem dX7_balance_76 : decode cX7_balance 76 = .ok (.goto 10, 3) := by decide +kernel
theorem dX7_balance_79 : decode cX7_balance 79 = .ok (.aload_n 0, 1) := by decide +kernel
theorem dX7_balance_80 : decode cX7_balance 80 = .ok (.getfield 57, 3) := by decide +kernel
theorem dX7_balance_83 : decode cX7_balance 83 = .ok (.iload 5, 2) := by decide +kernel
theorem dX7_balance_85 : decode cX7_balance 85 = .ok (.laload, 1) := by decide +kernel
theorem dX7_balance_86 : decode cX7_balance 86 = .ok (.ladd, 1) := by decide +kernel
theorem dX7_balance_87 : decode cX7_balance 87 = .ok (.lstore_n 3, 1) := by decide +kernel
theorem dX7_balance_88 : decode cX7_balance 88 = .ok (.iinc 5 1, 3) := by decide +kernel
theorem dX7_balance_91 : decode cX7_balance 91 = .ok (.goto (-55), 3) := by decide +kernel
theorem dX7_balance_94 : decode cX7_balance 94 = .ok (.lload_n 3, 1) := by decide +kernel
theorem dX7_balance_95 : decode cX7_balance 95 = .ok (.lreturn, 1) := by decide +kernel
theorem dX7_closed_0 : decode cX7_closed 0 = .ok (.aload_n 0, 1) := by decide +kernel
theorem dX7_closed_1 : decode cX7_closed 1 = .ok (.iconst 0, 1) := by decide +kernel
theorem dX7_closed_2 : decode cX7_closed 2 = .ok (.putfield 72, 3) := by decide +kernel
theorem dX7_closed_5 : decode cX7_closed 5 = .ok (.aload_n 0, 1) := by decide +kernel
theorem dX7_closed_6 : decode cX7_closed 6 = .ok (.getfield 98, 3) := by decide +kernel
theorem dX7_closed_9 : decode cX7_closed 9 = .ok (.ireturn, 1) := by decide +kernel
theorem dJ6_numberOfTrailingZeros_0f7a4_0 : decode cJ6_numberOfTrailingZeros_0f7a4 0 = .ok (.iload_n 0, 1) := by decide +kernel
theorem dJ6_numberOfTrailingZeros_0f7a4_1 : decode cJ6_numberOfTrailingZeros_0f7a4 1 = .ok (.iconst (-1), 1) := by decide +kernel
theorem dJ6_numberOfTrailingZeros_0f7a4_2 : decode cJ6_numberOfTrailingZeros_0f7a4 2 = .ok (.ixor, 1) := by decide +kernel
theorem dJ6_numberOfTrailingZeros_0f7a4_3 : decode cJ6_numberOfTrailingZeros_0f7a4 3 = .ok (.iload_n 0, 1) := by decide +kernel
theorem dJ6_numberOfTrailingZeros_0f7a4_4 : decode cJ6_numberOfTrailingZeros_0f7a4 4 = .ok (.iconst 1, 1) := by decide +kernel
theorem dJ6_numberOfTrailingZeros_0f7a4_5 : decode cJ6_numberOfTrailingZeros_0f7a4 5 = .ok (.isub, 1) := by decide +kernel
theorem dJ6_numberOfTrailingZeros_0f7a4_6 : decode cJ6_numberOfTrailingZeros_0f7a4 6 = .ok (.iand, 1) := by decide +kernel
theorem dJ6_numberOfTrailingZeros_0f7a4_7 : decode cJ6_numberOfTrailingZeros_0f7a4 7 = .ok (.istore_n 0, 1) := by decide +kernel
theorem dJ6_numberOfTrailingZeros_0f7a4_8 : decode cJ6_numberOfTrailingZeros_0f7a4 8 = .ok (.iload_n 0, 1) := by decide +kernel
theorem dJ6_numberOfTrailingZeros_0f7a4_9 : decode cJ6_numberOfTrailingZeros_0f7a4 9 = .ok (.ifCond .gt 8, 3) := by decide +kernel
theorem dJ6_numberOfTrailingZeros_0f7a4_12 : decode cJ6_numberOfTrailingZeros_0f7a4 12 = .ok (.iload_n 0, 1) := by decide +kernel
theorem dJ6_numberOfTrailingZeros_0f7a4_13 : decode cJ6_numberOfTrailingZeros_0f7a4 13 = .ok (.bipush 32, 2) := by decide +kernel
theorem dJ6_numberOfTrailingZeros_0f7a4_15 : decode cJ6_numberOfTrailingZeros_0f7a4 15 = .ok (.iand, 1) := by decide +kernel
theorem dJ6_numberOfTrailingZeros_0f7a4_16 : decode cJ6_numberOfTrailingZeros_0f7a4 16 = .ok (.ireturn, 1) := by decide +kernel
theorem dJ6_numberOfTrailingZeros_0f7a4_17 : decode cJ6_numberOfTrailingZeros_0f7a4 17 = .ok (.iconst 1, 1) := by decide +kernel
theorem dJ6_numberOfTrailingZeros_0f7a4_18 : decode cJ6_numberOfTrailingZeros_0f7a4 18 = .ok (.istore_n 1, 1) := by decide +kernel
theorem dJ6_numberOfTrailingZeros_0f7a4_19 : decode cJ6_numberOfTrailingZeros_0f7a4 19 = .ok (.iload_n 0, 1) := by decide +kernel
theorem dJ6_numberOfTrailingZeros_0f7a4_20 : decode cJ6_numberOfTrailingZeros_0f7a4 20 = .ok (.ldc_w 264, 3) := by decide +kernel
theorem dJ6_numberOfTrailingZeros_0f7a4_23 : decode cJ6_numberOfTrailingZeros_0f7a4 23 = .ok (.if_icmp .le 11, 3) := by decide +kernel
theorem dJ6_numberOfTrailingZeros_0f7a4_26 : decode cJ6_numberOfTrailingZeros_0f7a4 26 = .ok (.iinc 1 16, 3) := by decide +kernel
theorem dJ6_numberOfTrailingZeros_0f7a4_29 : decode cJ6_numberOfTrailingZeros_0f7a4 29 = .ok (.iload_n 0, 1) := by decide +kernel
theorem dJ6_numberOfTrailingZeros_0f7a4_30 : decode cJ6_numberOfTrailingZeros_0f7a4 30 = .ok (.bipush 16, 2) := by decide +kernel
theorem dJ6_numberOfTrailingZeros_0f7a4_32 : decode cJ6_numberOfTrailingZeros_0f7a4 32 = .ok (.iushr, 1) := by decide +kernel
theorem dJ6_numberOfTrailingZeros_0f7a4_33 : decode cJ6_numberOfTrailingZeros_0f7a4 33 = .ok (.istore_n 0, 1) := by decide +kernel
theorem dJ6_numberOfTrailingZeros_0f7a4_34 : decode cJ6_numberOfTrailingZeros_0f7a4 34 = .ok (.iload_n 0, 1) := by decide +kernel
theorem dJ6_numberOfTrailingZeros_0f7a4_35 : decode cJ6_numberOfTrailingZeros_0f7a4 35 = .ok (.sipush 256, 3) := by decide +kernel
theorem dJ6_numberOfTrailingZeros_0f7a4_38 : decode cJ6_numberOfTrailingZeros_0f7a4 38 = .ok (.if_icmp .le 11, 3) := by decide +kernel
theorem dJ6_numberOfTrailingZeros_0f7a4_41 : decode cJ6_numberOfTrailingZeros_0f7a4 41 = .ok (.iinc 1 8, 3) := by decide +kernel
theorem dJ6_numberOfTrailingZeros_0f7a4_44 : decode cJ6_numberOfTrailingZeros_0f7a4 44 = .ok (.iload_n 0, 1) := by decide +kernel
theorem dJ6_numberOfTrailingZeros_0f7a4_45 : decode cJ6_numberOfTrailingZeros_0f7a4 45 = .ok (.bipush 8, 2) := by decide +kernel
theorem dJ6_numberOfTrailingZeros_0f7a4_47 : decode cJ6_numberOfTrailingZeros_0f7a4 47 = .ok (.iushr, 1) := by decide +kernel
theorem dJ6_numberOfTrailingZeros_0f7a4_48 : decode cJ6_numberOfTrailingZeros_0f7a4 48 = .ok (.istore_n 0, 1) := by decide +kernel
theorem dJ6_numberOfTrailingZeros_0f7a4_49 : decode cJ6_numberOfTrailingZeros_0f7a4 49 = .ok (.iload_n 0, 1) := by decide +kernel
theorem dJ6_numberOfTrailingZeros_0f7a4_50 : decode cJ6_numberOfTrailingZeros_0f7a4 50 = .ok (.bipush 16, 2) := by decide +kernel
theorem dJ6_numberOfTrailingZeros_0f7a4_52 : decode cJ6_numberOfTrailingZeros_0f7a4 52 = .ok (.if_icmp .le 10, 3) := by decide +kernel
theorem dJ6_numberOfTrailingZeros_0f7a4_55 : decode cJ6_numberOfTrailingZeros_0f7a4 55 = .ok (.iinc 1 4, 3) := by decide +kernel
theorem dJ6_numberOfTrailingZeros_0f7a4_58 : decode cJ6_numberOfTrailingZeros_0f7a4 58 = .ok (.iload_n 0, 1) := by decide +kernel
theorem dJ6_numberOfTrailingZeros_0f7a4_59 : decode cJ6_numberOfTrailingZeros_0f7a4 59 = .ok (.iconst 4, 1) := by decide +kernel
theorem dJ6_numberOfTrailingZeros_0f7a4_60 : decode cJ6_numberOfTrailingZeros_0f7a4 60 = .ok (.iushr, 1) := by decide +kernel
theorem dJ6_numberOfTrailingZeros_0f7a4_61 : decode cJ6_numberOfTrailingZeros_0f7a4 61 = .ok (.istore_n 0, 1) := by decide +kernel
theorem dJ6_numberOfTrailingZeros_0f7a4_62 : decode cJ6_numberOfTrailingZeros_0f7a4 62 = .ok (.iload_n 0, 1) := by decide +kernel
theorem dJ6_numberOfTrailingZeros_0f7a4_63 : decode cJ6_numberOfTrailingZeros_0f7a4 63 = .ok (.iconst 4, 1) := by decide +kernel
theorem dJ6_numberOfTrailingZeros_0f7a4_64 : decode cJ6_numberOfTrailingZeros_0f7a4 64 = .ok (.if_icmp .le 10, 3) := by decide +kernel
theorem dJ6_numberOfTrailingZeros_0f7a4_67 : decode cJ6_numberOfTrailingZeros_0f7a4 67 = .ok (.iinc 1 2, 3) := by decide +kernel
theorem dJ6_numberOfTrailingZeros_0f7a4_70 : decode cJ6_numberOfTrailingZeros_0f7a4 70 = .ok (.iload_n 0, 1) := by decide +kernel
theorem dJ6_numberOfTrailingZeros_0f7a4_71 : decode cJ6_numberOfTrailingZeros_0f7a4 71 = .ok (.iconst 2, 1) := by decide +kernel
theorem dJ6_numberOfTrailingZeros_0f7a4_72 : decode cJ6_numberOfTrailingZeros_0f7a4 72 = .ok (.iushr, 1) := by decide +kernel
theorem dJ6_numberOfTrailingZeros_0f7a4_73 : decode cJ6_numberOfTrailingZeros_0f7a4 73 = .ok (.istore_n 0, 1) := by decide +kernel
theorem dJ6_numberOfTrailingZeros_0f7a4_74 : decode cJ6_numberOfTrailingZeros_0f7a4 74 = .ok (.iload_n 1, 1) := by decide +kernel
theorem dJ6_numberOfTrailingZeros_0f7a4_75 : decode cJ6_numberOfTrailingZeros_0f7a4 75 = .ok (.iload_n 0, 1) := by decide +kernel
theorem dJ6_numberOfTrailingZeros_0f7a4_76 : decode cJ6_numberOfTrailingZeros_0f7a4 76 = .ok (.iconst 1, 1) := by decide +kernel
theorem dJ6_numberOfTrailingZeros_0f7a4_77 : decode cJ6_numberOfTrailingZeros_0f7a4 77 = .ok (.iushr, 1) := by decide +kernel
theorem dJ6_numberOfTrailingZeros_0f7a4_78 : decode cJ6_numberOfTrailingZeros_0f7a4 78 = .ok (.iadd, 1) := by decide +kernel
theorem dJ6_numberOfTrailingZeros_0f7a4_79 : decode cJ6_numberOfTrailingZeros_0f7a4 79 = .ok (.ireturn, 1) := by decide +kernel
theorem dJ6_bitCount_0f7a4_0 : decode cJ6_bitCount_0f7a4 0 = .ok (.iload_n 0, 1) := by decide +kernel
theorem dJ6_bitCount_0f7a4_1 : decode cJ6_bitCount_0f7a4 1 = .ok (.iload_n 0, 1) := by decide +kernel
theorem dJ6_bitCount_0f7a4_2 : decode cJ6_bitCount_0f7a4 2 = .ok (.iconst 1, 1) := by decide +kernel
theorem dJ6_bitCount_0f7a4_3 : decode cJ6_bitCount_0f7a4 3 = .ok (.iushr, 1) := by decide +kernel
theorem dJ6_bitCount_0f7a4_4 : decode cJ6_bitCount_0f7a4 4 = .ok (.ldc_w 265, 3) := by decide +kernel
theorem dJ6_bitCount_0f7a4_7 : decode cJ6_bitCount_0f7a4 7 = .ok (.iand, 1) := by decide +kernel
theorem dJ6_bitCount_0f7a4_8 : decode cJ6_bitCount_0f7a4 8 = .ok (.isub, 1) := by decide +kernel
theorem dJ6_bitCount_0f7a4_9 : decode cJ6_bitCount_0f7a4 9 = .ok (.istore_n 0, 1) := by decide +kernel
theorem dJ6_bitCount_0f7a4_10 : decode cJ6_bitCount_0f7a4 10 = .ok (.iload_n 0, 1) := by decide +kernel
theorem dJ6_bitCount_0f7a4_11 : decode cJ6_bitCount_0f7a4 11 = .ok (.ldc_w 266, 3) := by decide +kernel
theorem dJ6_bitCount_0f7a4_14 : decode cJ6_bitCount_0f7a4 14 = .ok (.iand, 1) := by decide +kernel
theorem dJ6_bitCount_0f7a4_15 : decode cJ6_bitCount_0f7a4 15 = .ok (.iload_n 0, 1) := by decide +kernel
theorem dJ6_bitCount_0f7a4_16 : decode cJ6_bitCount_0f7a4 16 = .ok (.iconst 2, 1) := by decide +kernel
theorem dJ6_bitCount_0f7a4_17 : decode cJ6_bitCount_0f7a4 17 = .ok (.iushr, 1) := by decide +kernel
theorem dJ6_bitCount_0f7a4_18 : decode cJ6_bitCount_0f7a4 18 = .ok (.ldc_w 266, 3) := by decide +kernel
theorem dJ6_bitCount_0f7a4_21 : decode cJ6_bitCount_0f7a4 21 = .ok (.iand, 1) := by decide +kernel
theorem dJ6_bitCount_0f7a4_22 : decode cJ6_bitCount_0f7a4 22 = .ok (.iadd, 1) := by decide +kernel
theorem dJ6_bitCount_0f7a4_23 : decode cJ6_bitCount_0f7a4 23 = .ok (.istore_n 0, 1) := by decide +kernel
theorem dJ6_bitCount_0f7a4_24 : decode cJ6_bitCount_0f7a4 24 = .ok (.iload_n 0, 1) := by decide +kernel
theorem dJ6_bitCount_0f7a4_25 : decode cJ6_bitCount_0f7a4 25 = .ok (.iload_n 0, 1) := by decide +kernel
theorem dJ6_bitCount_0f7a4_26 : decode cJ6_bitCount_0f7a4 26 = .ok (.iconst 4, 1) := by decide +kernel
theorem dJ6_bitCount_0f7a4_27 : decode cJ6_bitCount_0f7a4 27 = .ok (.iushr, 1) := by decide +kernel
theorem dJ6_bitCount_0f7a4_28 : decode cJ6_bitCount_0f7a4 28 = .ok (.iadd, 1) := by decide +kernel
theorem dJ6_bitCount_0f7a4_29 : decode cJ6_bitCount_0f7a4 29 = .ok (.ldc_w 267, 3) := by decide +kernel
theorem dJ6_bitCount_0f7a4_32 : decode cJ6_bitCount_0f7a4 32 = .ok (.iand, 1) := by decide +kernel
theorem dJ6_bitCount_0f7a4_33 : decode cJ6_bitCount_0f7a4 33 = .ok (.istore_n 0, 1) := by decide +kernel
theorem dJ6_bitCount_0f7a4_34 : decode cJ6_bitCount_0f7a4 34 = .ok (.iload_n 0, 1) := by decide +kernel
theorem dJ6_bitCount_0f7a4_35 : decode cJ6_bitCount_0f7a4 35 = .ok (.iload_n 0, 1) := by decide +kernel
theorem dJ6_bitCount_0f7a4_36 : decode cJ6_bitCount_0f7a4 36 = .ok (.bipush 8, 2) := by decide +kernel
theorem dJ6_bitCount_0f7a4_38 : decode cJ6_bitCount_0f7a4 38 = .ok (.iushr, 1) := by decide +kernel
theorem dJ6_bitCount_0f7a4_39 : decode cJ6_bitCount_0f7a4 39 = .ok (.iadd, 1) := by decide +kernel
theorem dJ6_bitCount_0f7a4_40 : decode cJ6_bitCount_0f7a4 40 = .ok (.istore_n 0, 1) := by decide +kernel
theorem dJ6_bitCount_0f7a4_41 : decode cJ6_bitCount_0f7a4 41 = .ok (.iload_n 0, 1) := by decide +kernel
theorem dJ6_bitCount_0f7a4_42 : decode cJ6_bitCount_0f7a4 42 = .ok (.iload_n 0, 1) := by decide +kernel
theorem dJ6_bitCount_0f7a4_43 : decode cJ6_bitCount_0f7a4 43 = .ok (.bipush 16, 2) := by decide +kernel
theorem dJ6_bitCount_0f7a4_45 : decode cJ6_bitCount_0f7a4 45 = .ok (.iushr, 1) := by decide +kernel
theorem dJ6_bitCount_0f7a4_46 : decode cJ6_bitCount_0f7a4 46 = .ok (.iadd, 1) := by decide +kernel
theorem dJ6_bitCount_0f7a4_47 : decode cJ6_bitCount_0f7a4 47 = .ok (.istore_n 0, 1) := by decide +kernel
theorem dJ6_bitCount_0f7a4_48 : decode cJ6_bitCount_0f7a4 48 = .ok (.iload_n 0, 1) := by decide +kernel
theorem dJ6_bitCount_0f7a4_49 : decode cJ6_bitCount_0f7a4 49 = .ok (.bipush 63, 2) := by decide +kernel
theorem dJ6_bitCount_0f7a4_51 : decode cJ6_bitCount_0f7a4 51 = .ok (.iand, 1) := by decide +kernel
theorem dJ6_bitCount_0f7a4_52 : decode cJ6_bitCount_0f7a4 52 = .ok (.ireturn, 1) := by decide +kernel
theorem dJ9_max_7cf53_0 : decode cJ9_max_7cf53 0 = .ok (.iload_n 0, 1) := by decide +kernel
theorem dJ9_max_7cf53_1 : decode cJ9_max_7cf53 1 = .ok (.iload_n 1, 1) := by decide +kernel
theorem dJ9_max_7cf53_2 : decode cJ9_max_7cf53 2 = .ok (.if_icmp .lt 7, 3) := by decide +kernel
theorem dJ9_max_7cf53_5 : decode cJ9_max_7cf53 5 = .ok (.iload_n 0, 1) := by decide +kernel
theorem dJ9_max_7cf53_6 : decode cJ9_max_7cf53 6 = .ok (.goto 4, 3) := by decide +kernel
theorem dJ9_max_7cf53_9 : decode cJ9_max_7cf53 9 = .ok (.iload_n 1, 1) := by decide +kernel
theorem dJ9_max_7cf53_10 : decode cJ9_max_7cf53 10 = .ok (.ireturn, 1) := by decide +kernel
theorem dJ9_max_f86c9_0 : decode cJ9_max_f86c9 0 = .ok (.lload_n 0, 1) := by decide +kernel
theorem dJ9_max_f86c9_1 : decode cJ9_max_f86c9 1 = .ok (.lload_n 2, 1) := by decide +kernel
theorem dJ9_max_f86c9_2 : decode cJ9_max_f86c9 2 = .ok (.lcmp, 1) := by decide +kernel
theorem dJ9_max_f86c9_3 : decode cJ9_max_f86c9 3 = .ok (.ifCond .lt 7, 3) := by decide +kernel
theorem dJ9_max_f86c9_6 : decode cJ9_max_f86c9 6 = .ok (.lload_n 0, 1) := by decide +kernel
theorem dJ9_max_f86c9_7 : decode cJ9_max_f86c9 7 = .ok (.goto 4, 3) := by decide +kernel
theorem dJ9_max_f86c9_10 : decode cJ9_max_f86c9 10 = .ok (.lload_n 2, 1) := by decide +kernel
theorem dJ9_max_f86c9_11 : decode cJ9_max_f86c9 11 = .ok (.lreturn, 1) := by decide +kernel
theorem dJ9_min_7cf53_0 : decode cJ9_min_7cf53 0 = .ok (.iload_n 0, 1) := by decide +kernel
theorem dJ9_min_7cf53_1 : decode cJ9_min_7cf53 1 = .ok (.iload_n 1, 1) := by decide +kernel
theorem dJ9_min_7cf53_2 : decode cJ9_min_7cf53 2 = .ok (.if_icmp .gt 7, 3) := by decide +kernel
theorem dJ9_min_7cf53_5 : decode cJ9_min_7cf53 5 = .ok (.iload_n 0, 1) := by decide +kernel
theorem dJ9_min_7cf53_6 : decode cJ9_min_7cf53 6 = .ok (.goto 4, 3) := by decide +kernel
theorem dJ9_min_7cf53_9 : decode cJ9_min_7cf53 9 = .ok (.iload_n 1, 1) := by decide +kernel
theorem dJ9_min_7cf53_10 : decode cJ9_min_7cf53 10 = .ok (.ireturn, 1) := by decide +kernel
theorem dJ9_min_f86c9_0 : decode cJ9_min_f86c9 0 = .ok (.lload_n 0, 1) := by decide +kernel
theorem dJ9_min_f86c9_1 : decode cJ9_min_f86c9 1 = .ok (.lload_n 2, 1) := by decide +kernel
theorem dJ9_min_f86c9_2 : decode cJ9_min_f86c9 2 = .ok (.lcmp, 1) := by decide +kernel
theorem dJ9_min_f86c9_3 : decode cJ9_min_f86c9 3 = .ok (.ifCond .gt 7, 3) := by decide +kernel
theorem dJ9_min_f86c9_6 : decode cJ9_min_f86c9 6 = .ok (.lload_n 0, 1) := by decide +kernel
theorem dJ9_min_f86c9_7 : decode cJ9_min_f86c9 7 = .ok (.goto 4, 3) := by decide +kernel
theorem dJ9_min_f86c9_10 : decode cJ9_min_f86c9 10 = .ok (.lload_n 2, 1) := by decide +kernel
theorem dJ9_min_f86c9_11 : decode cJ9_min_f86c9 11 = .ok (.lreturn, 1) := by decide +kernel
theorem dJxa1e45_init_da8c8_0 : decode cJxa1e45_init_da8c8 0 = .ok (.aload_n 0, 1) := by decide +kernel
theorem dJxa1e45_init_da8c8_1 : decode cJxa1e45_init_da8c8 1 = .ok (.invokespecial 1, 3) := by decide +kernel
theorem dJxa1e45_init_da8c8_4 : decode cJxa1e45_init_da8c8 4 = .ok (.return_, 1) := by decide +kernel
theorem dJxc12de_init_da8c8_0 : decode cJxc12de_init_da8c8 0 = .ok (.aload_n 0, 1) := by decide +kernel
theorem dJxc12de_init_da8c8_1 : decode cJxc12de_init_da8c8 1 = .ok (.invokespecial 1, 3) := by decide +kernel
theorem dJxc12de_init_da8c8_4 : decode cJxc12de_init_da8c8 4 = .ok (.aload_n 0, 1) := by decide +kernel
theorem dJxc12de_init_da8c8_5 : decode cJxc12de_init_da8c8 5 = .ok (.iconst 0, 1) := by decide +kernel
theorem dJxc12de_init_da8c8_6 : decode cJxc12de_init_da8c8 6 = .ok (.putfield 7, 3) := by decide +kernel
theorem dJxc12de_init_da8c8_9 : decode cJxc12de_init_da8c8 9 = .ok (.return_, 1) := by decide +kernel
theorem dJx4a65c_init_da8c8_0 : decode cJx4a65c_init_da8c8 0 = .ok (.aload_n 0, 1) := by decide +kernel
theorem dJx4a65c_init_da8c8_1 : decode cJx4a65c_init_da8c8 1 = .ok (.invokespecial 1, 3) := by decide +kernel
theorem dJx4a65c_init_da8c8_4 : decode cJx4a65c_init_da8c8 4 = .ok (.aload_n 0, 1) := by decide +kernel
theorem dJx4a65c_init_da8c8_5 : decode cJx4a65c_init_da8c8 5 = .ok (.getstatic 39, 3) := by decide +kernel
theorem dJx4a65c_init_da8c8_8 : decode cJx4a65c_init_da8c8 8 = .ok (.putfield 9, 3) := by decide +kernel
theorem dJx4a65c_init_da8c8_11 : decode cJx4a65c_init_da8c8 11 = .ok (.return_, 1) := by decide +kernel
theorem dJx4a65c_grow_92f84_0 : decode cJx4a65c_grow_92f84 0 = .ok (.aload_n 0, 1) := by decide +kernel
theorem dJx4a65c_grow_92f84_1 : decode cJx4a65c_grow_92f84 1 = .ok (.getfield 9, 3) := by decide +kernel
theorem dJx4a65c_grow_92f84_4 : decode cJx4a65c_grow_92f84 4 = .ok (.arraylength, 1) := by decide +kernel
theorem dJx4a65c_grow_92f84_5 : decode cJx4a65c_grow_92f84 5 = .ok (.istore_n 2, 1) := by decide +kernel
theorem dJx4a65c_grow_92f84_6 : decode cJx4a65c_grow_92f84 6 = .ok (.iload_n 2, 1) := by decide +kernel
theorem dJx4a65c_grow_92f84_7 : decode cJx4a65c_grow_92f84 7 = .ok (.ifCond .gt 13, 3) := by decide +kernel
theorem dJx4a65c_grow_92f84_10 : decode cJx4a65c_grow_92f84 10 = .ok (.aload_n 0, 1) := by decide +kernel
theorem dJx4a65c_grow_92f84_11 : decode cJx4a65c_grow_92f84 11 = .ok (.getfield 9, 3) := by decide +kernel
theorem dJx4a65c_grow_92f84_14 : decode cJx4a65c_grow_92f84 14 = .ok (.getstatic 39, 3) := by decide +kernel
theorem dJx4a65c_grow_92f84_17 : decode cJx4a65c_grow_92f84 17 = .ok (.if_acmp .eq 28, 3) := by decide +kernel
theorem dJx4a65c_grow_92f84_20 : decode cJx4a65c_grow_92f84 20 = .ok (.iload_n 2, 1) := by decide +kernel
theorem dJx4a65c_grow_92f84_21 : decode cJx4a65c_grow_92f84 21 = .ok (.iload_n 1, 1) := by decide +kernel
theorem dJx4a65c_grow_92f84_22 : decode cJx4a65c_grow_92f84 22 = .ok (.iload_n 2, 1) := by decide +kernel
theorem dJx4a65c_grow_92f84_23 : decode cJx4a65c_grow_92f84 23 = .ok (.isub, 1) := by decide +kernel
theorem dJx4a65c_grow_92f84_24 : decode cJx4a65c_grow_92f84 24 = .ok (.iload_n 2, 1) := by decide +kernel
theorem dJx4a65c_grow_92f84_25 : decode cJx4a65c_grow_92f84 25 = .ok (.iconst 1, 1) := by decide +kernel
theorem dJx4a65c_grow_92f84_26 : decode cJx4a65c_grow_92f84 26 = .ok (.ishr, 1) := by decide +kernel
theorem dJx4a65c_grow_92f84_27 : decode cJx4a65c_grow_92f84 27 = .ok (.invokestatic 73, 3) := by decide +kernel
theorem dJx4a65c_grow_92f84_30 : decode cJx4a65c_grow_92f84 30 = .ok (.istore_n 3, 1) := by decide +kernel
theorem dJx4a65c_grow_92f84_31 : decode cJx4a65c_grow_92f84 31 = .ok (.aload_n 0, 1) := by decide +kernel
theorem dJx4a65c_grow_92f84_32 : decode cJx4a65c_grow_92f84 32 = .ok (.aload_n 0, 1) := by decide +kernel
theorem dJx4a65c_grow_92f84_33 : decode cJx4a65c_grow_92f84 33 = .ok (.getfield 9, 3) := by decide +kernel
theorem dJx4a65c_grow_92f84_36 : decode cJx4a65c_grow_92f84 36 = .ok (.iload_n 3, 1) := by decide +kernel
theorem dJx4a65c_grow_92f84_37 : decode cJx4a65c_grow_92f84 37 = .ok (.invokestatic 66, 3) := by decide +kernel
theorem dJx4a65c_grow_92f84_40 : decode cJx4a65c_grow_92f84 40 = .ok (.dup_x1, 1) := by decide +kernel
theorem dJx4a65c_grow_92f84_41 : decode cJx4a65c_grow_92f84 41 = .ok (.putfield 9, 3) := by decide +kernel
theorem dJx4a65c_grow_92f84_44 : decode cJx4a65c_grow_92f84 44 = .ok (.areturn, 1) := by decide +kernel
theorem dJx4a65c_grow_92f84_45 : decode cJx4a65c_grow_92f84 45 = .ok (.aload_n 0, 1) := by decide +kernel
theorem dJx4a65c_grow_92f84_46 : decode cJx4a65c_grow_92f84 46 = .ok (.bipush 10, 2) := by decide +kernel
theorem dJx4a65c_grow_92f84_48 : decode cJx4a65c_grow_92f84 48 = .ok (.iload_n 1, 1) := by decide +kernel
theorem dJx4a65c_grow_92f84_49 : decode cJx4a65c_grow_92f84 49 = .ok (.invokestatic 79, 3) := by decide +kernel
theorem dJx4a65c_grow_92f84_52 : decode cJx4a65c_grow_92f84 52 = .ok (.anewarray 7, 3) := by decide +kernel
theorem dJx4a65c_grow_92f84_55 : decode cJx4a65c_grow_92f84 55 = .ok (.dup_x1, 1) := by decide +kernel
theorem dJx4a65c_grow_92f84_56 : decode cJx4a65c_grow_92f84 56 = .ok (.putfield 9, 3) := by decide +kernel
theorem dJx4a65c_grow_92f84_59 : decode cJx4a65c_grow_92f84 59 = .ok (.areturn, 1) := by decide +kernel
theorem dJx4a65c_grow_d5877_0 : decode cJx4a65c_grow_d5877 0 = .ok (.aload_n 0, 1) := by decide +kernel
theorem dJx4a65c_grow_d5877_1 : decode cJx4a65c_grow_d5877 1 = .ok (.aload_n 0, 1) := by decide +kernel
theorem dJx4a65c_grow_d5877_2 : decode cJx4a65c_grow_d5877 2 = .ok (.getfield 48, 3) := by decide +kernel
theorem dJx4a65c_grow_d5877_5 : decode cJx4a65c_grow_d5877 5 = .ok (.iconst 1, 1) := by decide +kernel
theorem dJx4a65c_grow_d5877_6 : decode cJx4a65c_grow_d5877 6 = .ok (.iadd, 1) := by decide +kernel
theorem dJx4a65c_grow_d5877_7 : decode cJx4a65c_grow_d5877 7 = .ok (.invokevirtual 69, 3) := by decide +kernel
theorem dJx4a65c_grow_d5877_10 : decode cJx4a65c_grow_d5877 10 = .ok (.areturn, 1) := by decide +kernel
theorem dJx4a65c_size_8abf5_0 : decode cJx4a65c_size_8abf5 0 = .ok (.aload_n 0, 1) := by decide +kernel
theorem dJx4a65c_size_8abf5_1 : decode cJx4a65c_size_8abf5 1 = .ok (.getfield 48, 3) := by decide +kernel
theorem dJx4a65c_size_8abf5_4 : decode cJx4a65c_size_8abf5 4 = .ok (.ireturn, 1) := by decide +kernel
theorem dJx4a65c_isEmpty_aae02_0 : decode cJx4a65c_isEmpty_aae02 0 = .ok (.aload_n 0, 1) := by decide +kernel
theorem dJx4a65c_isEmpty_aae02_1 : decode cJx4a65c_isEmpty_aae02 1 = .ok (.getfield 48, 3) := by decide +kernel
theorem dJx4a65c_isEmpty_aae02_4 : decode cJx4a65c_isEmpty_aae02 4 = .ok (.ifCond .ne 7, 3) := by decide +kernel
theorem dJx4a65c_isEmpty_aae02_7 : decode cJx4a65c_isEmpty_aae02 7 = .ok (.iconst 1, 1) := by decide +kernel
theorem dJx4a65c_isEmpty_aae02_8 : decode cJx4a65c_isEmpty_aae02 8 = .ok (.goto 4, 3) := by decide +kernel
theorem dJx4a65c_isEmpty_aae02_11 : decode cJx4a65c_isEmpty_aae02 11 = .ok (.iconst 0, 1) := by decide +kernel
theorem dJx4a65c_isEmpty_aae02_12 : decode cJx4a65c_isEmpty_aae02 12 = .ok (.ireturn, 1) := by decide +kernel
theorem dJx4a65c_elementData_915e3_0 : decode cJx4a65c_elementData_915e3 0 = .ok (.aload_n 0, 1) := by decide +kernel
theorem dJx4a65c_elementData_915e3_1 : decode cJx4a65c_elementData_915e3 1 = .ok (.getfield 9, 3) := by decide +kernel
theorem dJx4a65c_elementData_915e3_4 : decode cJx4a65c_elementData_915e3 4 = .ok (.iload_n 1, 1) := by decide +kernel
theorem dJx4a65c_elementData_915e3_5 : decode cJx4a65c_elementData_915e3 5 = .ok (.aaload, 1) := by decide +kernel
theorem dJx4a65c_elementData_915e3_6 : decode cJx4a65c_elementData_915e3 6 = .ok (.areturn, 1) := by decide +kernel
theorem dJx4a65c_get_915e3_0 : decode cJx4a65c_get_915e3 0 = .ok (.iload_n 1, 1) := by decide +kernel
theorem dJx4a65c_get_915e3_1 : decode cJx4a65c_get_915e3 1 = .ok (.aload_n 0, 1) := by decide +kernel
theorem dJx4a65c_get_915e3_2 : decode cJx4a65c_get_915e3 2 = .ok (.getfield 48, 3) := by decide +kernel
theorem dJx4a65c_get_915e3_5 : decode cJx4a65c_get_915e3 5 = .ok (.invokestatic 118, 3) := by decide +kernel
theorem dJx4a65c_get_915e3_8 : decode cJx4a65c_get_915e3 8 = .ok (.pop, 1) := by decide +kernel
theorem dJx4a65c_get_915e3_9 : decode cJx4a65c_get_915e3 9 = .ok (.aload_n 0, 1) := by decide +kernel
theorem dJx4a65c_get_915e3_10 : decode cJx4a65c_get_915e3 10 = .ok (.iload_n 1, 1) := by decide +kernel
theorem dJx4a65c_get_915e3_11 : decode cJx4a65c_get_915e3 11 = .ok (.invokevirtual 123, 3) := by decide +kernel
theorem dJx4a65c_get_915e3_14 : decode cJx4a65c_get_915e3 14 = .ok (.areturn, 1) := by decide +kernel
theorem dJx4a65c_add_72be8_0 : decode cJx4a65c_add_72be8 0 = .ok (.iload_n 3, 1) := by decide +kernel
theorem dJx4a65c_add_72be8_1 : decode cJx4a65c_add_72be8 1 = .ok (.aload_n 2, 1) := by decide +kernel
theorem dJx4a65c_add_72be8_2 : decode cJx4a65c_add_72be8 2 = .ok (.arraylength, 1) := by decide +kernel
theorem dJx4a65c_add_72be8_3 : decode cJx4a65c_add_72be8 3 = .ok (.if_icmp .ne 8, 3) := by decide +kernel
theorem dJx4a65c_add_72be8_6 : decode cJx4a65c_add_72be8 6 = .ok (.aload_n 0, 1) := by decide +kernel
theorem dJx4a65c_add_72be8_7 : decode cJx4a65c_add_72be8 7 = .ok (.invokevirtual 129, 3) := by decide +kernel
theorem dJx4a65c_add_72be8_10 : decode cJx4a65c_add_72be8 10 = .ok (.astore_n 2, 1) := by decide +kernel
theorem dJx4a65c_add_72be8_11 : decode cJx4a65c_add_72be8 11 = .ok (.aload_n 2, 1) := by decide +kernel
theorem dJx4a65c_add_72be8_12 : decode cJx4a65c_add_72be8 12 = .ok (.iload_n 3, 1) := by decide +kernel
theorem dJx4a65c_add_72be8_13 : decode cJx4a65c_add_72be8 13 = .ok (.aload_n 1, 1) := by decide +kernel
theorem dJx4a65c_add_72be8_14 : decode cJx4a65c_add_72be8 14 = .ok (.aastore, 1) := by decide +kernel
theorem dJx4a65c_add_72be8_15 : decode cJx4a65c_add_72be8 15 = .ok (.aload_n 0, 1) := by decide +kernel
theorem dJx4a65c_add_72be8_16 : decode cJx4a65c_add_72be8 16 = .ok (.iload_n 3, 1) := by decide +kernel
theorem dJx4a65c_add_72be8_17 : decode cJx4a65c_add_72be8 17 = .ok (.iconst 1, 1) := by decide +kernel
theorem dJx4a65c_add_72be8_18 : decode cJx4a65c_add_72be8 18 = .ok (.iadd, 1) := by decide +kernel
theorem dJx4a65c_add_72be8_19 : decode cJx4a65c_add_72be8 19 = .ok (.putfield 48, 3) := by decide +kernel
theorem dJx4a65c_add_72be8_22 : decode cJx4a65c_add_72be8 22 = .ok (.return_, 1) := by decide +kernel
theorem dJx4a65c_add_9ea2d_0 : decode cJx4a65c_add_9ea2d 0 = .ok (.aload_n 0, 1) := by decide +kernel
theorem dJx4a65c_add_9ea2d_1 : decode cJx4a65c_add_9ea2d 1 = .ok (.dup, 1) := by decide +kernel
theorem dJx4a65c_add_9ea2d_2 : decode cJx4a65c_add_9ea2d 2 = .ok (.getfield 63, 3) := by decide +kernel
theorem dJx4a65c_add_9ea2d_5 : decode cJx4a65c_add_9ea2d 5 = .ok (.iconst 1, 1) := by decide +kernel
theorem dJx4a65c_add_9ea2d_6 : decode cJx4a65c_add_9ea2d 6 = .ok (.iadd, 1) := by decide +kernel
theorem dJx4a65c_add_9ea2d_7 : decode cJx4a65c_add_9ea2d 7 = .ok (.putfield 63, 3) := by decide +kernel
theorem dJx4a65c_add_9ea2d_10 : decode cJx4a65c_add_9ea2d 10 = .ok (.aload_n 0, 1) := by decide +kernel
theorem dJx4a65c_add_9ea2d_11 : decode cJx4a65c_add_9ea2d 11 = .ok (.aload_n 1, 1) := by decide +kernel
theorem dJx4a65c_add_9ea2d_12 : decode cJx4a65c_add_9ea2d 12 = .ok (.aload_n 0, 1) := by decide +kernel
theorem dJx4a65c_add_9ea2d_13 : decode cJx4a65c_add_9ea2d 13 = .ok (.getfield 9, 3) := by decide +kernel
theorem dJx4a65c_add_9ea2d_16 : decode cJx4a65c_add_9ea2d 16 = .ok (.aload_n 0, 1) := by decide +kernel
theorem dJx4a65c_add_9ea2d_17 : decode cJx4a65c_add_9ea2d 17 = .ok (.getfield 48, 3) := by decide +kernel
theorem dJx4a65c_add_9ea2d_20 : decode cJx4a65c_add_9ea2d 20 = .ok (.invokevirtual 131, 3) := by decide +kernel
theorem dJx4a65c_add_9ea2d_23 : decode cJx4a65c_add_9ea2d 23 = .ok (.iconst 1, 1) := by decide +kernel
theorem dJx4a65c_add_9ea2d_24 : decode cJx4a65c_add_9ea2d 24 = .ok (.ireturn, 1) := by decide +kernel
theorem dJx4a65c_clear_da8c8_0 : decode cJx4a65c_clear_da8c8 0 = .ok (.aload_n 0, 1) := by decide +kernel
theorem dJx4a65c_clear_da8c8_1 : decode cJx4a65c_clear_da8c8 1 = .ok (.dup, 1) := by decide +kernel
theorem dJx4a65c_clear_da8c8_2 : decode cJx4a65c_clear_da8c8 2 = .ok (.getfield 63, 3) := by decide +kernel
theorem dJx4a65c_clear_da8c8_5 : decode cJx4a65c_clear_da8c8 5 = .ok (.iconst 1, 1) := by decide +kernel
theorem dJx4a65c_clear_da8c8_6 : decode cJx4a65c_clear_da8c8 6 = .ok (.iadd, 1) := by decide +kernel
theorem dJx4a65c_clear_da8c8_7 : decode cJx4a65c_clear_da8c8 7 = .ok (.putfield 63, 3) := by decide +kernel
theorem dJx4a65c_clear_da8c8_10 : decode cJx4a65c_clear_da8c8 10 = .ok (.aload_n 0, 1) := by decide +kernel
theorem dJx4a65c_clear_da8c8_11 : decode cJx4a65c_clear_da8c8 11 = .ok (.getfield 9, 3) := by decide +kernel
theorem dJx4a65c_clear_da8c8_14 : decode cJx4a65c_clear_da8c8 14 = .ok (.astore_n 1, 1) := by decide +kernel
theorem dJx4a65c_clear_da8c8_15 : decode cJx4a65c_clear_da8c8 15 = .ok (.aload_n 0, 1) := by decide +kernel
theorem dJx4a65c_clear_da8c8_16 : decode cJx4a65c_clear_da8c8 16 = .ok (.getfield 48, 3) := by decide +kernel
theorem dJx4a65c_clear_da8c8_19 : decode cJx4a65c_clear_da8c8 19 = .ok (.istore_n 2, 1) := by decide +kernel
theorem dJx4a65c_clear_da8c8_20 : decode cJx4a65c_clear_da8c8 20 = .ok (.aload_n 0, 1) := by decide +kernel
theorem dJx4a65c_clear_da8c8_21 : decode cJx4a65c_clear_da8c8 21 = .ok (.iconst 0, 1) := by decide +kernel
theorem dJx4a65c_clear_da8c8_22 : decode cJx4a65c_clear_da8c8 22 = .ok (.dup_x1, 1) := by decide +kernel
theorem dJx4a65c_clear_da8c8_23 : decode cJx4a65c_clear_da8c8 23 = .ok (.putfield 48, 3) := by decide +kernel
theorem dJx4a65c_clear_da8c8_26 : decode cJx4a65c_clear_da8c8 26 = .ok (.istore_n 3, 1) := by decide +kernel
theorem dJx4a65c_clear_da8c8_27 : decode cJx4a65c_clear_da8c8 27 = .ok (.iload_n 3, 1) := by decide +kernel
theorem dJx4a65c_clear_da8c8_28 : decode cJx4a65c_clear_da8c8 28 = .ok (.iload_n 2, 1) := by decide +kernel
theorem dJx4a65c_clear_da8c8_29 : decode cJx4a65c_clear_da8c8 29 = .ok (.if_icmp .ge 13, 3) := by decide +kernel
theorem dJx4a65c_clear_da8c8_32 : decode cJx4a65c_clear_da8c8 32 = .ok (.aload_n 1, 1) := by decide +kernel
theorem dJx4a65c_clear_da8c8_33 : decode cJx4a65c_clear_da8c8 33 = .ok (.iload_n 3, 1) := by decide +kernel
theorem dJx4a65c_clear_da8c8_34 : decode cJx4a65c_clear_da8c8 34 = .ok (.aconst_null, 1) := by decide +kernel
theorem dJx4a65c_clear_da8c8_35 : decode cJx4a65c_clear_da8c8 35 = .ok (.aastore, 1) := by decide +kernel
theorem dJx4a65c_clear_da8c8_36 : decode cJx4a65c_clear_da8c8 36 = .ok (.iinc 3 1, 3) := by decide +kernel
theorem dJx4a65c_clear_da8c8_39 : decode cJx4a65c_clear_da8c8 39 = .ok (.goto (-12), 3) := by decide +kernel
theorem dJx4a65c_clear_da8c8_42 : decode cJx4a65c_clear_da8c8 42 = .ok (.return_, 1) := by decide +kernel
theorem dJ7_copyOf_1904c_0 : decode cJ7_copyOf_1904c 0 = .ok (.aload_n 0, 1) := by decide +kernel
theorem dJ7_copyOf_1904c_1 : decode cJ7_copyOf_1904c 1 = .ok (.iload_n 1, 1) := by decide +kernel
theorem dJ7_copyOf_1904c_2 : decode cJ7_copyOf_1904c 2 = .ok (.aload_n 0, 1) := by decide +kernel
theorem dJ7_copyOf_1904c_3 : decode cJ7_copyOf_1904c 3 = .ok (.invokevirtual 86, 3) := by decide +kernel
theorem dJ7_copyOf_1904c_6 : decode cJ7_copyOf_1904c 6 = .ok (.invokestatic 300, 3) := by decide +kernel
theorem dJ7_copyOf_1904c_9 : decode cJ7_copyOf_1904c 9 = .ok (.areturn, 1) := by decide +kernel
theorem dJ7_copyOf_6403c_0 : decode cJ7_copyOf_6403c 0 = .ok (.aload_n 2, 1) := by decide +kernel
theorem dJ7_copyOf_6403c_1 : decode cJ7_copyOf_6403c 1 = .ok (.ldc 110, 2) := by decide +kernel
theorem dJ7_copyOf_6403c_3 : decode cJ7_copyOf_6403c 3 = .ok (.if_acmp .ne 10, 3) := by decide +kernel
theorem dJ7_copyOf_6403c_6 : decode cJ7_copyOf_6403c 6 = .ok (.iload_n 1, 1) := by decide +kernel
theorem dJ7_copyOf_6403c_7 : decode cJ7_copyOf_6403c 7 = .ok (.anewarray 2, 3) := by decide +kernel
theorem dJ7_copyOf_6403c_10 : decode cJ7_copyOf_6403c 10 = .ok (.goto 14, 3) := by decide +kernel
theorem dJ7_copyOf_6403c_13 : decode cJ7_copyOf_6403c 13 = .ok (.aload_n 2, 1) := by decide +kernel
theorem dJ7_copyOf_6403c_14 : decode cJ7_copyOf_6403c 14 = .ok (.invokevirtual 90, 3) := by decide +kernel
theorem dJ7_copyOf_6403c_17 : decode cJ7_copyOf_6403c 17 = .ok (.iload_n 1, 1) := by decide +kernel
theorem dJ7_copyOf_6403c_18 : decode cJ7_copyOf_6403c 18 = .ok (.invokestatic 95, 3) := by decide +kernel
theorem dJ7_copyOf_6403c_21 : decode cJ7_copyOf_6403c 21 = .ok (.checkcast 110, 3) := by decide +kernel
theorem dJ7_copyOf_6403c_24 : decode cJ7_copyOf_6403c 24 = .ok (.astore_n 3, 1) := by decide +kernel
theorem dJ7_copyOf_6403c_25 : decode cJ7_copyOf_6403c 25 = .ok (.aload_n 0, 1) := by decide +kernel
theorem dJ7_copyOf_6403c_26 : decode cJ7_copyOf_6403c 26 = .ok (.iconst 0, 1) := by decide +kernel
theorem dJ7_copyOf_6403c_27 : decode cJ7_copyOf_6403c 27 = .ok (.aload_n 3, 1) := by decide +kernel
theorem dJ7_copyOf_6403c_28 : decode cJ7_copyOf_6403c 28 = .ok (.iconst 0, 1) := by decide +kernel
theorem dJ7_copyOf_6403c_29 : decode cJ7_copyOf_6403c 29 = .ok (.aload_n 0, 1) := by decide +kernel
theorem dJ7_copyOf_6403c_30 : decode cJ7_copyOf_6403c 30 = .ok (.arraylength, 1) := by decide +kernel
theorem dJ7_copyOf_6403c_31 : decode cJ7_copyOf_6403c 31 = .ok (.iload_n 1, 1) := by decide +kernel
theorem dJ7_copyOf_6403c_32 : decode cJ7_copyOf_6403c 32 = .ok (.invokestatic 304, 3) := by decide +kernel
theorem dJ7_copyOf_6403c_35 : decode cJ7_copyOf_6403c 35 = .ok (.invokestatic 150, 3) := by decide +kernel
theorem dJ7_copyOf_6403c_38 : decode cJ7_copyOf_6403c 38 = .ok (.aload_n 3, 1) := by decide +kernel
theorem dJ7_copyOf_6403c_39 : decode cJ7_copyOf_6403c 39 = .ok (.areturn, 1) := by decide +kernel
theorem dJ15_checkIndex_7cf53_0 : decode cJ15_checkIndex_7cf53 0 = .ok (.iload_n 0, 1) := by decide +kernel
theorem dJ15_checkIndex_7cf53_1 : decode cJ15_checkIndex_7cf53 1 = .ok (.iload_n 1, 1) := by decide +kernel
theorem dJ15_checkIndex_7cf53_2 : decode cJ15_checkIndex_7cf53 2 = .ok (.aconst_null, 1) := by decide +kernel
theorem dJ15_checkIndex_7cf53_3 : decode cJ15_checkIndex_7cf53 3 = .ok (.invokestatic 105, 3) := by decide +kernel
theorem dJ15_checkIndex_7cf53_6 : decode cJ15_checkIndex_7cf53 6 = .ok (.ireturn, 1) := by decide +kernel
theorem dJ8_newLength_cabcc_0 : decode cJ8_newLength_cabcc 0 = .ok (.iload_n 0, 1) := by decide +kernel
theorem dJ8_newLength_cabcc_1 : decode cJ8_newLength_cabcc 1 = .ok (.iload_n 1, 1) := by decide +kernel
theorem dJ8_newLength_cabcc_2 : decode cJ8_newLength_cabcc 2 = .ok (.iload_n 2, 1) := by decide +kernel
theorem dJ8_newLength_cabcc_3 : decode cJ8_newLength_cabcc 3 = .ok (.invokestatic 194, 3) := by decide +kernel
theorem dJ8_newLength_cabcc_6 : decode cJ8_newLength_cabcc 6 = .ok (.iadd, 1) := by decide +kernel
theorem dJ8_newLength_cabcc_7 : decode cJ8_newLength_cabcc 7 = .ok (.istore_n 3, 1) := by decide +kernel
theorem dJ8_newLength_cabcc_8 : decode cJ8_newLength_cabcc 8 = .ok (.iconst 0, 1) := by decide +kernel
theorem dJ8_newLength_cabcc_9 : decode cJ8_newLength_cabcc 9 = .ok (.iload_n 3, 1) := by decide +kernel
theorem dJ8_newLength_cabcc_10 : decode cJ8_newLength_cabcc 10 = .ok (.if_icmp .ge 11, 3) := by decide +kernel
theorem dJ8_newLength_cabcc_13 : decode cJ8_newLength_cabcc 13 = .ok (.iload_n 3, 1) := by decide +kernel
theorem dJ8_newLength_cabcc_14 : decode cJ8_newLength_cabcc 14 = .ok (.ldc 200, 2) := by decide +kernel
theorem dJ8_newLength_cabcc_16 : decode cJ8_newLength_cabcc 16 = .ok (.if_icmp .gt 5, 3) := by decide +kernel
theorem dJ8_newLength_cabcc_19 : decode cJ8_newLength_cabcc 19 = .ok (.iload_n 3, 1) := by decide +kernel
theorem dJ8_newLength_cabcc_20 : decode cJ8_newLength_cabcc 20 = .ok (.ireturn, 1) := by decide +kernel
theorem dJ8_newLength_cabcc_21 : decode cJ8_newLength_cabcc 21 = .ok (.iload_n 0, 1) := by decide +kernel
theorem dJ8_newLength_cabcc_22 : decode cJ8_newLength_cabcc 22 = .ok (.iload_n 1, 1) := by decide +kernel
theorem dJ8_newLength_cabcc_23 : decode cJ8_newLength_cabcc 23 = .ok (.invokestatic 201, 3) := by decide +kernel
theorem dJ8_newLength_cabcc_26 : decode cJ8_newLength_cabcc 26 = .ok (.ireturn, 1) := by decide +kernel
theorem dJ8_hugeLength_7cf53_0 : decode cJ8_hugeLength_7cf53 0 = .ok (.iload_n 0, 1) := by decide +kernel
theorem dJ8_hugeLength_7cf53_1 : decode cJ8_hugeLength_7cf53 1 = .ok (.iload_n 1, 1) := by decide +kernel
theorem dJ8_hugeLength_7cf53_2 : decode cJ8_hugeLength_7cf53 2 = .ok (.iadd, 1) := by decide +kernel
theorem dJ8_hugeLength_7cf53_3 : decode cJ8_hugeLength_7cf53 3 = .ok (.istore_n 2, 1) := by decide +kernel
theorem dJ8_hugeLength_7cf53_4 : decode cJ8_hugeLength_7cf53 4 = .ok (.iload_n 2, 1) := by decide +kernel
theorem dJ8_hugeLength_7cf53_5 : decode cJ8_hugeLength_7cf53 5 = .ok (.ifCond .ge 44, 3) := by decide +kernel
theorem dJ8_hugeLength_7cf53_8 : decode cJ8_hugeLength_7cf53 8 = .ok (.new 204, 3) := by decide +kernel
theorem dJ8_hugeLength_7cf53_11 : decode cJ8_hugeLength_7cf53 11 = .ok (.dup, 1) := by decide +kernel
theorem dJ8_hugeLength_7cf53_12 : decode cJ8_hugeLength_7cf53 12 = .ok (.new 89, 3) := by decide +kernel
theorem dJ8_hugeLength_7cf53_15 : decode cJ8_hugeLength_7cf53 15 = .ok (.dup, 1) := by decide +kernel
theorem dJ8_hugeLength_7cf53_16 : decode cJ8_hugeLength_7cf53 16 = .ok (.invokespecial 91, 3) := by decide +kernel
theorem dJ8_hugeLength_7cf53_19 : decode cJ8_hugeLength_7cf53 19 = .ok (.ldc 206, 2) := by decide +kernel
theorem dJ8_hugeLength_7cf53_21 : decode cJ8_hugeLength_7cf53 21 = .ok (.invokevirtual 94, 3) := by decide +kernel
theorem dJ8_hugeLength_7cf53_24 : decode cJ8_hugeLength_7cf53 24 = .ok (.iload_n 0, 1) := by decide +kernel
theorem dJ8_hugeLength_7cf53_25 : decode cJ8_hugeLength_7cf53 25 = .ok (.invokevirtual 98, 3) := by decide +kernel
theorem dJ8_hugeLength_7cf53_28 : decode cJ8_hugeLength_7cf53 28 = .ok (.ldc 208, 2) := by decide +kernel
theorem dJ8_hugeLength_7cf53_30 : decode cJ8_hugeLength_7cf53 30 = .ok (.invokevirtual 94, 3) := by decide +kernel
theorem dJ8_hugeLength_7cf53_33 : decode cJ8_hugeLength_7cf53 33 = .ok (.iload_n 1, 1) := by decide +kernel
theorem dJ8_hugeLength_7cf53_34 : decode cJ8_hugeLength_7cf53 34 = .ok (.invokevirtual 98, 3) := by decide +kernel
theorem dJ8_hugeLength_7cf53_37 : decode cJ8_hugeLength_7cf53 37 = .ok (.ldc 210, 2) := by decide +kernel
theorem dJ8_hugeLength_7cf53_39 : decode cJ8_hugeLength_7cf53 39 = .ok (.invokevirtual 94, 3) := by decide +kernel
theorem dJ8_hugeLength_7cf53_42 : decode cJ8_hugeLength_7cf53 42 = .ok (.invokevirtual 101, 3) := by decide +kernel
theorem dJ8_hugeLength_7cf53_45 : decode cJ8_hugeLength_7cf53 45 = .ok (.invokespecial 212, 3) := by decide +kernel
theorem dJ8_hugeLength_7cf53_48 : decode cJ8_hugeLength_7cf53 48 = .ok (.athrow, 1) := by decide +kernel
theorem dJ8_hugeLength_7cf53_49 : decode cJ8_hugeLength_7cf53 49 = .ok (.iload_n 2, 1) := by decide +kernel
theorem dJ8_hugeLength_7cf53_50 : decode cJ8_hugeLength_7cf53 50 = .ok (.ldc 200, 2) := by decide +kernel
theorem dJ8_hugeLength_7cf53_52 : decode cJ8_hugeLength_7cf53 52 = .ok (.if_icmp .gt 6, 3) := by decide +kernel
theorem dJ8_hugeLength_7cf53_55 : decode cJ8_hugeLength_7cf53 55 = .ok (.ldc 200, 2) := by decide +kernel
theorem dJ8_hugeLength_7cf53_57 : decode cJ8_hugeLength_7cf53 57 = .ok (.ireturn, 1) := by decide +kernel
theorem dJ8_hugeLength_7cf53_58 : decode cJ8_hugeLength_7cf53 58 = .ok (.iload_n 2, 1) := by decide +kernel
theorem dJ8_hugeLength_7cf53_59 : decode cJ8_hugeLength_7cf53 59 = .ok (.ireturn, 1) := by decide +kernel
theorem dJ3_checkIndex_8e157_0 : decode cJ3_checkIndex_8e157 0 = .ok (.iload_n 0, 1) := by decide +kernel
theorem dJ3_checkIndex_8e157_1 : decode cJ3_checkIndex_8e157 1 = .ok (.ifCond .lt 8, 3) := by decide +kernel
theorem dJ3_checkIndex_8e157_4 : decode cJ3_checkIndex_8e157 4 = .ok (.iload_n 0, 1) := by decide +kernel
theorem dJ3_checkIndex_8e157_5 : decode cJ3_checkIndex_8e157 5 = .ok (.iload_n 1, 1) := by decide +kernel
theorem dJ3_checkIndex_8e157_6 : decode cJ3_checkIndex_8e157 6 = .ok (.if_icmp .lt 10, 3) := by decide +kernel
theorem dJ3_checkIndex_8e157_9 : decode cJ3_checkIndex_8e157 9 = .ok (.aload_n 2, 1) := by decide +kernel
theorem dJ3_checkIndex_8e157_10 : decode cJ3_checkIndex_8e157 10 = .ok (.iload_n 0, 1) := by decide +kernel
theorem dJ3_checkIndex_8e157_11 : decode cJ3_checkIndex_8e157 11 = .ok (.iload_n 1, 1) := by decide +kernel
theorem dJ3_checkIndex_8e157_12 : decode cJ3_checkIndex_8e157 12 = .ok (.invokestatic 95, 3) := by decide +kernel
theorem dJ3_checkIndex_8e157_15 : decode cJ3_checkIndex_8e157 15 = .ok (.athrow, 1) := by decide +kernel
theorem dJ3_checkIndex_8e157_16 : decode cJ3_checkIndex_8e157 16 = .ok (.iload_n 0, 1) := by decide +kernel
theorem dJ3_checkIndex_8e157_17 : decode cJ3_checkIndex_8e157 17 = .ok (.ireturn, 1) := by decide +kernel
end
section
/-! THE CLEAN LAYER. hm_R: a map h from addresses to what the cells hold; J: the machine, at pc with locals L and stack st, comes to Q. One row an instruction. -/
abbrev JC : Type := Program × Launch × Env × Room × State × MethodId × Array Value × List Frame × Method × Code
def jx_p (X : JC) : Program := X.1
def jx_l (X : JC) : Launch := X.2.1
def jx_e (X : JC) : Env := X.2.2.1
def jx_R (X : JC) : Room := X.2.2.2.1
def jx_s (X : JC) : State := X.2.2.2.2.1
def jx_m (X : JC) : MethodId := X.2.2.2.2.2.1
def jx_a (X : JC) : Array Value := X.2.2.2.2.2.2.1
def jx_b (X : JC) : List Frame := X.2.2.2.2.2.2.2.1
def jx_t (X : JC) : Method := X.2.2.2.2.2.2.2.2.1
def jx_c (X : JC) : Code := X.2.2.2.2.2.2.2.2.2
abbrev HO : Type := (FieldType × vp_A) ⊕ (Nat × List Value)
abbrev HM : Type := Nat → Option HO
abbrev hI (n : Nat) (f : Nat → Int32) : HO := .inl (.int, (n, .inl f))
abbrev hJ (n : Nat) (f : Nat → Int64) : HO := .inl (.long, (n, .inr (.inl f)))
abbrev hZ (n : Nat) (f : Nat → Int32) : HO := .inl (.boolean, (n, .inl f))
abbrev hQ (n : Nat) (f : Nat → Option Nat) : HO := .inl (.object "java/lang/Object", (n, .inr (.inr (.inr (.inr f)))))
abbrev hO (ci : Nat) (fs : List Value) : HO := .inr (ci, fs)
def hput (h : HM) (a : Nat) (o : HO) : HM := fun q => if q = a then some o else h q
theorem hput_eq (h : HM) (a : Nat) (o : HO) : hput h a o a = some o := if_pos rfl
theorem hput_ne {h : HM} {a q : Nat} (o : HO) (hq : q ≠ a) : hput h a o q = h q := if_neg hq
def hm_at (U : State) (D : va_G) (a : Nat) (o : HO) (H : Heap) : Prop := match o with
  | .inl x => ∃ cA : ClassId, ArrOfT U cA x.1 ∧ va_RA U cA x.1 ∧ H[a]? = some (vp_cell cA x.2)
  | .inr x => va_at D vwCl (a, .inr x) H
def hm_ro (o : HO) : Prop := match o with
  | .inl x => x.2.1 = 0
  | .inr _ => False
def hm_R (U : State) (B : Nat) (D : va_G) (h : HM) (H : Heap) : Prop := ∀ (a : Nat) (o : HO), h a = some o → hm_at U D a o H ∧ (hm_ro o ∨ B ≤ a)
theorem hm_at.moved {u U : State} {D : va_G} {a : Nat} {o : HO} {H : Heap} (hvm : u.vm.Alike U.vm) (h : hm_at u D a o H) : hm_at U D a o H := by
  cases o with
  | inl x => obtain ⟨cA, h1, h2, h3⟩ := h; exact ⟨cA, arrOfT_moved hvm h1, h2.moved hvm, h3⟩
  | inr x => exact h
theorem hm_at.kept {U : State} {D : va_G} {a : Nat} {o : HO} {H H1 : Heap} (h : hm_at U D a o H) (hq : H1[a]? = H[a]?) : hm_at U D a o H1 := by
  cases o with
  | inl x => obtain ⟨cA, h1, h2, h3⟩ := h; exact ⟨cA, h1, h2, hq.trans h3⟩
  | inr x => exact va_at.kept (q := (a, .inr x)) h hq
theorem hm_at.lt {U : State} {D : va_G} {a : Nat} {o : HO} {H : Heap} (h : hm_at U D a o H) : a < H.size := by
  cases o with
  | inl x => obtain ⟨cA, h1, h2, h3⟩ := h; exact (Array.getElem?_eq_some_iff.mp h3).1
  | inr x => exact va_at.lt (q := (a, .inr x)) h
theorem hm_R.moved {u U : State} {B : Nat} {D : va_G} {h : HM} {H : Heap} (hvm : u.vm.Alike U.vm) (hR : hm_R u B D h H) : hm_R U B D h H := fun a o e => ⟨(hR a o e).1.moved hvm, (hR a o e).2⟩
theorem hm_R.grow {U : State} {B : Nat} {D : va_G} {h : HM} {H H1 : Heap} (hR : hm_R U B D h H) (hq : ∀ q : Nat, q < H.size → H1[q]? = H[q]?) : hm_R U B D h H1 := fun a o e => ⟨(hR a o e).1.kept (hq a (hR a o e).1.lt), (hR a o e).2⟩
theorem hm_R.set {U : State} {B : Nat} {D : va_G} {h : HM} {H H1 : Heap} {a : Nat} {o : HO} (hR : hm_R U B D h H) (hB : B ≤ a) (ho : hm_at U D a o H1) (hq : ∀ q : Nat, q ≠ a → H1[q]? = H[q]?) : hm_R U B D (hput h a o) H1 := by
  intro q o1 e
  by_cases hqa : q = a
  · subst hqa
    rw [hput_eq] at e
    cases e
    exact ⟨ho, Or.inr hB⟩
  · rw [hput_ne o hqa] at e
    exact ⟨(hR q o1 e).1.kept (hq q hqa), (hR q o1 e).2⟩
theorem hm_R.push {U : State} {B : Nat} {D : va_G} {h : HM} {H H1 : Heap} {o : HO} (hR : hm_R U B D h H) (hB : B ≤ H.size) (ho : hm_at U D H.size o H1) (hq : ∀ q : Nat, q < H.size → H1[q]? = H[q]?) : hm_R U B D (hput h H.size o) H1 := by
  intro q o1 e
  by_cases hqa : q = H.size
  · subst hqa
    rw [hput_eq] at e
    cases e
    exact ⟨ho, Or.inr hB⟩
  · rw [hput_ne o hqa] at e
    exact ⟨(hR q o1 e).1.kept (hq q (hR q o1 e).1.lt), (hR q o1 e).2⟩
theorem hm_R.none {U : State} {B : Nat} {D : va_G} {h : HM} {H : Heap} (hR : hm_R U B D h H) : h H.size = none := by
  cases e : h H.size with
  | none => rfl
  | some o => exact absurd (hR _ o e).1.lt (Nat.lt_irrefl _)
theorem hm_R.B {U : State} {B : Nat} {D : va_G} {h : HM} {H : Heap} {a ci : Nat} {fs : List Value} (hR : hm_R U B D h H) (e : h a = some (hO ci fs)) : B ≤ a := (hR a _ e).2.elim (fun h => h.elim) id
theorem hm_R.BA {U : State} {B : Nat} {D : va_G} {h : HM} {H : Heap} {a n k : Nat} {ty : FieldType} {f} (hR : hm_R U B D h H) (e : h a = some (.inl (ty, (n, f)))) (hk : k < n) : B ≤ a := (hR a _ e).2.elim (fun h => absurd (show n = 0 from h) (by omega)) id
def jl_get (L : List (Nat × Value)) (i : Nat) : Option Value := match L with
  | [] => none
  | (j, v) :: t => if i = j then some v else jl_get t i
theorem jl_mem : ∀ {L : List (Nat × Value)} {i : Nat} {v : Value}, jl_get L i = some v → (i, v) ∈ L
  | [], i, v, h => by simp [jl_get] at h
  | (j, w) :: t, i, v, h => by
    unfold jl_get at h
    by_cases e : i = j
    · rw [if_pos e] at h; cases h; rw [e]; exact List.mem_cons_self
    · rw [if_neg e] at h; exact List.mem_cons_of_mem _ (jl_mem h)
theorem jl_at {ls : Array Slot} {nL : Nat} {L : List (Nat × Value)} {i : Nat} {v : Value} (h : lv_has ls nL L) (e : jl_get L i = some v) : ls[i]? = some (.val v) := h.2.2 (i, v) (jl_mem e)
def jl_set (i : Nat) (v : Value) (L : List (Nat × Value)) : List (Nat × Value) := (i, v) :: L.filter (fun q => !(q.1 == i) && !(q.1 + 1 == i && q.2.category == 2))
def jl_set2 (i : Nat) (v : Value) (L : List (Nat × Value)) : List (Nat × Value) := (i, v) :: L.filter (fun q => !(q.1 == i) && (!(q.1 == i + 1) && !(q.1 + 1 == i && q.2.category == 2)))
def jl_sub (L' L : List (Nat × Value)) : Prop := match L' with
  | [] => True
  | q :: t => jl_get L q.1 = some q.2 ∧ jl_sub t L
theorem jl_sub_ok : ∀ {L' L : List (Nat × Value)}, jl_sub L' L → ∀ q ∈ L', q ∈ L
  | [], _, _, q, h => by cases h
  | p :: t, L, h, q, hq => by
    rcases List.mem_cons.mp hq with e | e
    · rw [e]; exact jl_mem h.1
    · exact jl_sub_ok h.2 q e
abbrev rmv (v mc ms : Nat) : Room := { frames := v, cells := mc, slots := ms, locals := 64 * v }
/-- what stays of a world's start: the classes, the constants -/
def PWs (B E0 : Nat) (D : va_G) (U : State) (H : Heap) : Prop :=
  va_Z "java/util/ArrayList" "DEFAULTCAPACITY_EMPTY_ELEMENTDATA" "[Ljava/lang/Object;" (.ref E0) (fun q => B ≤ q) U H ∧
  vx_Zq Bundle.tN "UNASSIGNED_STACK" Bundle.steD (fun q => B ≤ q) U H ∧ vx_Zq Bundle.tN "SUPPRESSED_SENTINEL" Bundle.listD (fun q => B ≤ q) U H
def jstr : List (Nat × String) := [(56, "no more shapes"), (219, "no such shape"), (82, "no more corners"), (90, "too far"), (224, "a shape is open"), (112, "no such colours or steps"), (155, "no such place in the ring"), (162, "no such colour"), (167, "more boxes than one"), (173, "no more stitches"), (180, "not strictly within"), (185, "others are the other way"), (197, "no such stitch"), (202, "no such part"), (211, "no such pair or side")]
/-- the class object of Object[] lies at D.2 99 0 -/
def PWx (D : va_G) (U : State) : Prop := va_Mi "[Ljava/lang/Object;" (D.2 99 0) U ∧ va_Dc U ∧ va_AO "java/lang/Object" U ∧ va_Nw (.methodLinkNest "ColourParts" 63 ⟨"ColourParts$Shape", "<init>", "()V"⟩ "ColourParts") U ∧ va_Nw (.methodLinkNest "ColourParts" 237 ⟨"ColourParts$Pieces", "<init>", "()V"⟩ "ColourParts") U
theorem PWx.warm {D : va_G} {u U : State} (hW : u.WarmedH U.vm) (h : PWx D u) : PWx D U := ⟨h.1.moved hW.alike, h.2.1.moved hW.alike, h.2.2.1.moved hW.alike, va_Nw.warmM hW h.2.2.2.1, va_Nw.warmM hW h.2.2.2.2⟩
theorem va_Nw.sameV {w : Cond} (hw : w.onTables = true) {u U : State} (h : U.vm = u.vm) (hZ : va_Nw w u) : va_Nw w U := va_tabs hw h.symm hZ
theorem PWx.same {D : va_G} {u U : State} (hv : U.vm = u.vm) (h : PWx D u) : PWx D U := by
  have ha : u.vm.Alike U.vm := by rw [hv]; exact Vm.Alike.refl _
  exact ⟨h.1.moved ha, h.2.1.moved ha, h.2.2.1.moved ha, va_Nw.sameV rfl hv h.2.2.2.1, va_Nw.sameV rfl hv h.2.2.2.2⟩
def PWv (l : Launch) (D : va_G) (U : State) : Prop := l.stackTraces = false ∧ va_K D vwCl [] U ∧ (∀ (ci : Nat) (q : vw_C), vwCl[ci]? = some q → va_Nw (.castable q.1 "java/lang/Object") U) ∧ (∀ q ∈ jstr, ∃ a, vk_R "ColourParts" q.1 q.2 a U) ∧ PWx D U
def PW (l : Launch) (B E0 : Nat) (D : va_G) (U : State) : Prop := PWv l D U ∧ B ≤ U.heap.size ∧ PWs B E0 D U U.heap
theorem PWs.moved {B E0 : Nat} {D : va_G} {u U : State} {H : Heap} (hvm : u.vm.Alike U.vm) (h : PWs B E0 D u H) : PWs B E0 D U H := ⟨h.1.moved hvm, h.2.1.moved hvm, h.2.2.moved hvm⟩
theorem PWs.kept {B E0 : Nat} {D : va_G} {U : State} {H H1 : Heap} (h : PWs B E0 D U H) (hq : ∀ a : Nat, a < H.size → ¬ B ≤ a → H1[a]? = H[a]?) : PWs B E0 D U H1 := ⟨h.1.kept hq, h.2.1.kept hq, h.2.2.kept hq⟩
theorem PWv.warm {l : Launch} {D : va_G} {u U : State} (hW : u.WarmedH U.vm) (h : PWv l D u) : PWv l D U :=
  ⟨h.1, va_K.moved hW.alike h.2.1, fun ci q e => va_Nw.warmC hW (h.2.2.1 ci q e), fun q hq => (h.2.2.2.1 q hq).elim fun a ha => ⟨a, ha.warm hW⟩, h.2.2.2.2.warm hW⟩
theorem PWv.same {l : Launch} {D : va_G} {u U : State} (hv : U.vm = u.vm) (h : PWv l D u) : PWv l D U :=
  ⟨h.1, va_K.moved (by rw [hv]; exact Vm.Alike.refl _) h.2.1, fun ci q e => va_Nw.sameV rfl hv (h.2.2.1 ci q e), fun q hq => (h.2.2.2.1 q hq).elim fun a ha => ⟨a, ha.same hv⟩, h.2.2.2.2.same hv⟩
/-- what a method's walk has at hand -/
abbrev JE (X : JC) (own : String) (cc : ByteArray) (nL : Nat) (ws : List Cond) (ret : Option FieldType) (B E0 : Nat) (D : va_G) (l : Launch) (v mc ms : Nat) : Prop :=
  (jx_p X).tables.exec = Jvm.exec ∧ (jx_c X).code = cc ∧ (jx_c X).maxLocals = nL ∧ (jx_s X).vm.findClass own = some (jx_m X).cls ∧ (∀ w ∈ ws, w.before (jx_a X) (jx_s X) = true) ∧ (jx_t X).locks = false ∧ (jx_t X).sig.returnType = ret ∧ PW l B E0 D (jx_s X) ∧ jx_R X = rmv v mc ms ∧ jx_l X = l
def J (X : JC) (B : Nat) (D : va_G) (nL : Nat) (Q : State → Prop) (h : HM) (k n pc : Nat) (L : List (Nat × Value)) (st : List Value) : Prop :=
  ∀ (H : Heap) (locs : List Loc) (ls : Array Slot), hm_R (jx_s X) B D h H → va_S (fun q => B ≤ q) (jx_s X).heap H locs → lv_has ls nL L →
    W (jx_p X) (jx_l X) (jx_e X) (jx_R X) (jx_s X) (jx_m X) (jx_a X) (jx_b X) (jx_t X) (jx_c X) H locs k n Q (F0 (jx_m X) pc ls st)
def cP (l : Launch) (B E0 : Nat) (D : va_G) (As : List Value) (h : HM) : Array Value → State → Prop := va_Pc As (fun U => PW l B E0 D U ∧ hm_R U B D h U.heap)
def cQ (B : Nat) (D : va_G) (post : Option Value → HM → Prop) : Array Value → State → Outcome → State → Prop := fun _ st o t => (∃ (r : Option Value) (h1 : HM), o = .returned r ∧ post r h1 ∧ hm_R t B D h1 t.heap) ∧ va_F (fun q => B ≤ q) st t
def cX (B : Nat) (D : va_G) (px : String → HM → Prop) : String → State → State → Prop := fun E st t => (∃ h1 : HM, px E h1 ∧ hm_R t B D h1 t.heap) ∧ va_F (fun q => B ≤ q) st t
/-- a method's contract: from the map h it returns; 'post' says what, and the map behind -/
def CM (l : Launch) (B E0 : Nat) (D : va_G) (y : MethodName) (ws : List Cond) (v mc ms : Nat) (As : List Value) (h : HM) (post : Option Value → HM → Prop) : Prop :=
  Met l y ws (rmv v mc ms) (cP l B E0 D As h) (cQ B D post) mc ms (fun q => B ≤ q)
/-- .. or throws -/
def CX (l : Launch) (B E0 : Nat) (D : va_G) (y : MethodName) (ws : List Cond) (v mc ms : Nat) (As : List Value) (h : HM) (post : Option Value → HM → Prop) (px : String → HM → Prop) : Prop :=
  vx_Met l y ws (rmv v mc ms) (cP l B E0 D As h) (cQ B D post) (cX B D px) mc ms (fun q => B ≤ q)
theorem cP_blind {l : Launch} {B E0 : Nat} {D : va_G} {As : List Value} {h : HM} : FrameBlind (cP l B E0 D As h) := by
  intro a U g mk q
  obtain ⟨h1, ⟨h2, h3, h4⟩, h5⟩ := q
  exact ⟨h1, ⟨PWv.same (u := U) (U := U.calling g mk a) rfl h2, h3, PWs.moved (u := U) (U := U.calling g mk a) (Vm.Alike.refl U.vm) h4⟩, hm_R.moved (u := U) (U := U.calling g mk a) (Vm.Alike.refl U.vm) h5⟩
def jQ (X : JC) (B : Nat) (D : va_G) (mc ms : Nat) (post : Option Value → HM → Prop) : State → Prop := MQ (jx_b X) (cQ B D post) (jx_a X) (jx_s X) mc ms (fun q => B ≤ q)
def jX (X : JC) (B : Nat) (D : va_G) (mc ms : Nat) (post : Option Value → HM → Prop) (px : String → HM → Prop) : State → Prop := vx_MQ (jx_b X) (cQ B D post) (cX B D px) (jx_a X) (jx_s X) mc ms (fun q => B ≤ q)
theorem CM.of {l : Launch} {B E0 : Nat} {D : va_G} {y : MethodName} {ws ws' : List Cond} {cc : ByteArray} {maxL : Nat} {ret : Option FieldType} {v mc ms : Nat} {As : List Value} {h : HM} {post : Option Value → HM → Prop} (hy : plainName y.cls = true) (hw : ws = Cond.code y cc maxL ret :: ws') (hn : (lg_sl As).length ≤ maxL)
    (body : ∀ X : JC, JE X y.cls cc maxL ws ret B E0 D l v mc ms → (jx_t X).name = y.name → J X B D maxL (jQ X B D mc ms post) h 0 0 0 (lv_args 0 As) []) : CM l B E0 D y ws v mc ms As h post := by
  refine Met.ofW (cc := cc) (maxL := maxL) (ret := ret) hy hw ?_
  intro p e s m args below meth c s₁ Bd hml hv
  obtain ⟨rfl, hPW, hR⟩ := hv
  have hl := lv_entry As (n := maxL) hn
  have key := body (p, l, e, rmv v mc ms, s, m, As.toArray, below, meth, c) ⟨Bd.exec, Bd.bytes, hml, findClass_of_methodNamed Bd.named, atoms_spec (ws := ws) Bd.pre, Bd.notSynchronized, Bd.returns, hPW, rfl, rfl⟩ (name_of_methodNamed Bd.named Bd.method).1
  have k2 := key s.heap [] _ hR va_S.rf hl
  rw [lg_entry_eq]
  exact k2
theorem CX.of {l : Launch} {B E0 : Nat} {D : va_G} {y : MethodName} {ws ws' : List Cond} {cc : ByteArray} {maxL : Nat} {ret : Option FieldType} {v mc ms : Nat} {As : List Value} {h : HM} {post : Option Value → HM → Prop} {px : String → HM → Prop} (hy : plainName y.cls = true) (hw : ws = Cond.code y cc maxL ret :: ws') (hn : (lg_sl As).length ≤ maxL)
    (body : ∀ X : JC, JE X y.cls cc maxL ws ret B E0 D l v mc ms → (∀ x ∈ (jx_c X).exceptionTable.toList, False) → J X B D maxL (jX X B D mc ms post px) h 0 0 0 (lv_args 0 As) []) : CX l B E0 D y ws v mc ms As h post px := by
  refine vx_ofW (cc := cc) (maxL := maxL) (ret := ret) hy hw ?_
  intro p e s m args below meth c s₁ Bd hml htab hv
  obtain ⟨rfl, hPW, hR⟩ := hv
  have hl := lv_entry As (n := maxL) hn
  have key := body (p, l, e, rmv v mc ms, s, m, As.toArray, below, meth, c) ⟨Bd.exec, Bd.bytes, hml, findClass_of_methodNamed Bd.named, atoms_spec (ws := ws) Bd.pre, Bd.notSynchronized, Bd.returns, hPW, rfl, rfl⟩ htab
  have k2 := key s.heap [] _ hR va_S.rf hl
  rw [lg_entry_eq]
  exact k2
section JR
variable {X : JC} {own : String} {cc : ByteArray} {nL : Nat} {ws : List Cond} {ret : Option FieldType} {B E0 : Nat} {D : va_G} {l : Launch} {v mc ms : Nat} {Q : State → Prop} {h : HM} {k n pc : Nat} {L : List (Nat × Value)} {st : List Value}
theorem J.sub (L' : List (Nat × Value)) (hs : jl_sub L' L) (kk : J X B D nL Q h k n pc L' st) : J X B D nL Q h k n pc L st := fun H locs ls hR hS hl => kk H locs ls hR hS ⟨hl.1, hl.2.1, fun q hq => hl.2.2 q (jl_sub_ok hs q hq)⟩
theorem J.wide {k' n' : Nat} (hk : k ≤ k') (hn : n ≤ n') (kk : J X B D nL Q h k' n' pc L st) : J X B D nL Q h k n pc L st := fun H locs ls hR hS hl => W.widen hk hn (kk H locs ls hR hS hl)
theorem J.stk {st' : List Value} (e : st = st') (kk : J X B D nL Q h k n pc L st') : J X B D nL Q h k n pc L st := e ▸ kk
theorem J.top {x x' : Value} (e : x = x') (kk : J X B D nL Q h k n pc L (x' :: st)) : J X B D nL Q h k n pc L (x :: st) := e ▸ kk
theorem J.topi {x x' : Int32} (e : x = x') (kk : J X B D nL Q h k n pc L (.int x' :: st)) : J X B D nL Q h k n pc L (.int x :: st) := e ▸ kk
theorem J.topl {x x' : Int64} (e : x = x') (kk : J X B D nL Q h k n pc L (.long x' :: st)) : J X B D nL Q h k n pc L (.long x :: st) := e ▸ kk
theorem J.hp {h' : HM} (e : h = h') (kk : J X B D nL Q h' k n pc L st) : J X B D nL Q h k n pc L st := e ▸ kk

theorem j_iconst (E : JE X own cc nL ws ret B E0 D l v mc ms) {i : Int} {x : Int32} (d : decode cc pc = .ok (.iconst i, 1)) (hv : Int32.ofInt i = x) (kk : J X B D nL Q h k n (pc + 1) L (.int x :: st)) : J X B D nL Q h k n pc L st := fun H locs ls hR hS hl => lv_iconst E.1 E.2.1 d hv (kk H locs ls hR hS hl)
theorem j_bipush (E : JE X own cc nL ws ret B E0 D l v mc ms) {i : Int} {x : Int32} (d : decode cc pc = .ok (.bipush i, 2)) (hv : (Int8.ofInt i).toInt32 = x) (kk : J X B D nL Q h k n (pc + 2) L (.int x :: st)) : J X B D nL Q h k n pc L st := fun H locs ls hR hS hl => lv_bipush E.1 E.2.1 d hv (kk H locs ls hR hS hl)
theorem j_sipush (E : JE X own cc nL ws ret B E0 D l v mc ms) {i : Int} {x : Int32} (d : decode cc pc = .ok (.sipush i, 3)) (hv : (Int16.ofInt i).toInt32 = x) (kk : J X B D nL Q h k n (pc + 3) L (.int x :: st)) : J X B D nL Q h k n pc L st := fun H locs ls hR hS hl => lv_sipush E.1 E.2.1 d hv (kk H locs ls hR hS hl)
theorem j_lconst (E : JE X own cc nL ws ret B E0 D l v mc ms) {i : Fin 2} {x : Int64} (d : decode cc pc = .ok (.lconst i, 1)) (hv : Int64.ofNat (i : Nat) = x) (kk : J X B D nL Q h k n (pc + 1) L (.long x :: st)) : J X B D nL Q h k n pc L st := fun H locs ls hR hS hl => lv_lconst E.1 E.2.1 d hv (kk H locs ls hR hS hl)
theorem j_null (E : JE X own cc nL ws ret B E0 D l v mc ms)  (d : decode cc pc = .ok (.aconst_null, 1))  (kk : J X B D nL Q h k n (pc + 1) L (.null :: st)) : J X B D nL Q h k n pc L st := fun H locs ls hR hS hl => lv_null E.1 E.2.1 d (kk H locs ls hR hS hl)
theorem j_ldc (E : JE X own cc nL ws ret B E0 D l v mc ms) {i : Nat} {x : Int32} (d : decode cc pc = .ok (.ldc i, 2)) (hc : (Jvm.Cond.constant own i x) ∈ ws) (kk : J X B D nL Q h k n (pc + 2) L (.int x :: st)) : J X B D nL Q h k n pc L st := fun H locs ls hR hS hl => lv_ldc E.1 E.2.1 E.2.2.2.1 (E.2.2.2.2.1 _ hc) d (kk H locs ls hR hS hl)
theorem j_ldcw (E : JE X own cc nL ws ret B E0 D l v mc ms) {i : Nat} {x : Int32} (d : decode cc pc = .ok (.ldc_w i, 3)) (hc : (Jvm.Cond.constant own i x) ∈ ws) (kk : J X B D nL Q h k n (pc + 3) L (.int x :: st)) : J X B D nL Q h k n pc L st := fun H locs ls hR hS hl => lv_ldcw E.1 E.2.1 E.2.2.2.1 (E.2.2.2.2.1 _ hc) d (kk H locs ls hR hS hl)
theorem j_ldc2 (E : JE X own cc nL ws ret B E0 D l v mc ms) {i : Nat} {x : Int64} (d : decode cc pc = .ok (.ldc2_w i, 3)) (hc : (Jvm.Cond.constantLong own i x) ∈ ws) (kk : J X B D nL Q h k n (pc + 3) L (.long x :: st)) : J X B D nL Q h k n pc L st := fun H locs ls hR hS hl => lv_ldc2 E.1 E.2.1 E.2.2.2.1 (E.2.2.2.2.1 _ hc) d (kk H locs ls hR hS hl)
theorem j_iload_n (E : JE X own cc nL ws ret B E0 D l v mc ms) {q : Fin 4} {x : Int32} (d : decode cc pc = .ok (.iload_n q, 1)) (hx : jl_get L q = some (.int x)) (kk : J X B D nL Q h k n (pc + 1) L (.int x :: st)) : J X B D nL Q h k n pc L st := fun H locs ls hR hS hl => lv_iload_n E.1 E.2.1 d rfl (jl_at hl hx) (kk H locs ls hR hS hl)
theorem j_iload (E : JE X own cc nL ws ret B E0 D l v mc ms) {q : Nat} {x : Int32} (d : decode cc pc = .ok (.iload q, 2)) (hx : jl_get L q = some (.int x)) (kk : J X B D nL Q h k n (pc + 2) L (.int x :: st)) : J X B D nL Q h k n pc L st := fun H locs ls hR hS hl => lv_iload E.1 E.2.1 d (jl_at hl hx) (kk H locs ls hR hS hl)
theorem j_lload_n (E : JE X own cc nL ws ret B E0 D l v mc ms) {q : Fin 4} {x : Int64} (d : decode cc pc = .ok (.lload_n q, 1)) (hx : jl_get L q = some (.long x)) (kk : J X B D nL Q h k n (pc + 1) L (.long x :: st)) : J X B D nL Q h k n pc L st := fun H locs ls hR hS hl => lv_lload_n E.1 E.2.1 d rfl (jl_at hl hx) (kk H locs ls hR hS hl)
theorem j_lload (E : JE X own cc nL ws ret B E0 D l v mc ms) {q : Nat} {x : Int64} (d : decode cc pc = .ok (.lload q, 2)) (hx : jl_get L q = some (.long x)) (kk : J X B D nL Q h k n (pc + 2) L (.long x :: st)) : J X B D nL Q h k n pc L st := fun H locs ls hR hS hl => lv_lload E.1 E.2.1 d (jl_at hl hx) (kk H locs ls hR hS hl)
theorem j_aload_n (E : JE X own cc nL ws ret B E0 D l v mc ms) {q : Fin 4} {x : Nat} (d : decode cc pc = .ok (.aload_n q, 1)) (hx : jl_get L q = some (.ref x)) (kk : J X B D nL Q h k n (pc + 1) L (.ref x :: st)) : J X B D nL Q h k n pc L st := fun H locs ls hR hS hl => lv_aload_n E.1 E.2.1 d rfl (jl_at hl hx) (kk H locs ls hR hS hl)
theorem j_aload (E : JE X own cc nL ws ret B E0 D l v mc ms) {q : Nat} {x : Nat} (d : decode cc pc = .ok (.aload q, 2)) (hx : jl_get L q = some (.ref x)) (kk : J X B D nL Q h k n (pc + 2) L (.ref x :: st)) : J X B D nL Q h k n pc L st := fun H locs ls hR hS hl => lv_aload E.1 E.2.1 d (jl_at hl hx) (kk H locs ls hR hS hl)
theorem j_istore_n (E : JE X own cc nL ws ret B E0 D l v mc ms) {q : Fin 4} {x : Int32} (d : decode cc pc = .ok (.istore_n q, 1)) (hn : (q : Nat) < nL) (kk : J X B D nL Q h k n (pc + 1) (jl_set q (.int x) L) st) : J X B D nL Q h k n pc L (.int x :: st) := fun H locs ls hR hS hl => lv_istore_n E.1 E.2.1 d rfl hl hn rfl (fun ls hl => kk H locs ls hR hS hl)
theorem j_istore (E : JE X own cc nL ws ret B E0 D l v mc ms) {q : Nat} {x : Int32} (d : decode cc pc = .ok (.istore q, 2)) (hn : (q : Nat) < nL) (kk : J X B D nL Q h k n (pc + 2) (jl_set q (.int x) L) st) : J X B D nL Q h k n pc L (.int x :: st) := fun H locs ls hR hS hl => lv_istore E.1 E.2.1 d hl hn rfl (fun ls hl => kk H locs ls hR hS hl)
theorem j_lstore_n (E : JE X own cc nL ws ret B E0 D l v mc ms) {q : Fin 4} {x : Int64} (d : decode cc pc = .ok (.lstore_n q, 1)) (hn : (q : Nat) + 1 < nL) (kk : J X B D nL Q h k n (pc + 1) (jl_set2 q (.long x) L) st) : J X B D nL Q h k n pc L (.long x :: st) := fun H locs ls hR hS hl => lv_lstore_n E.1 E.2.1 d rfl hl hn rfl (fun ls hl => kk H locs ls hR hS hl)
theorem j_lstore (E : JE X own cc nL ws ret B E0 D l v mc ms) {q : Nat} {x : Int64} (d : decode cc pc = .ok (.lstore q, 2)) (hn : (q : Nat) + 1 < nL) (kk : J X B D nL Q h k n (pc + 2) (jl_set2 q (.long x) L) st) : J X B D nL Q h k n pc L (.long x :: st) := fun H locs ls hR hS hl => lv_lstore E.1 E.2.1 d hl hn rfl (fun ls hl => kk H locs ls hR hS hl)
theorem j_astore_n (E : JE X own cc nL ws ret B E0 D l v mc ms) {q : Fin 4} {x : Nat} (d : decode cc pc = .ok (.astore_n q, 1)) (hn : (q : Nat) < nL) (kk : J X B D nL Q h k n (pc + 1) (jl_set q (.ref x) L) st) : J X B D nL Q h k n pc L (.ref x :: st) := fun H locs ls hR hS hl => lv_astore_n E.1 E.2.1 d rfl hl hn rfl (fun ls hl => kk H locs ls hR hS hl)
theorem j_astore (E : JE X own cc nL ws ret B E0 D l v mc ms) {q : Nat} {x : Nat} (d : decode cc pc = .ok (.astore q, 2)) (hn : (q : Nat) < nL) (kk : J X B D nL Q h k n (pc + 2) (jl_set q (.ref x) L) st) : J X B D nL Q h k n pc L (.ref x :: st) := fun H locs ls hR hS hl => lv_astore E.1 E.2.1 d hl hn rfl (fun ls hl => kk H locs ls hR hS hl)
theorem j_iinc (E : JE X own cc nL ws ret B E0 D l v mc ms) {q : Nat} {i : Int} {x y : Int32} (d : decode cc pc = .ok (.iinc q i, 3)) (hx : jl_get L q = some (.int x)) (hy : x + Int32.ofInt i = y) (hn : q < nL) (kk : J X B D nL Q h k n (pc + 3) (jl_set q (.int y) L) st) : J X B D nL Q h k n pc L st := by
  intro H locs ls hR hS hl
  obtain ⟨i0, hi0⟩ := List.getElem?_of_mem (jl_mem hx)
  exact lv_iinc E.1 E.2.1 d hl hi0 hy hn rfl (fun ls hl => kk H locs ls hR hS hl)
theorem j_dup (E : JE X own cc nL ws ret B E0 D l v mc ms) {x : Value} (d : decode cc pc = .ok (.dup, 1)) (hx : x.category = 1) (kk : J X B D nL Q h k n (pc + 1) L (x :: x :: st)) : J X B D nL Q h k n pc L (x :: st) := fun H locs ls hR hS hl => lv_dup E.1 E.2.1 d hx (kk H locs ls hR hS hl)
theorem j_pop (E : JE X own cc nL ws ret B E0 D l v mc ms) {x : Value} (d : decode cc pc = .ok (.pop, 1)) (hx : x.category = 1) (kk : J X B D nL Q h k n (pc + 1) L st) : J X B D nL Q h k n pc L (x :: st) := fun H locs ls hR hS hl => lv_pop E.1 E.2.1 d hx (kk H locs ls hR hS hl)
theorem j_dup_x1 (E : JE X own cc nL ws ret B E0 D l v mc ms) {x y : Value} (d : decode cc pc = .ok (.dup_x1, 1)) (hx : x.category = 1) (hy : y.category = 1) (kk : J X B D nL Q h k n (pc + 1) L (x :: y :: x :: st)) : J X B D nL Q h k n pc L (x :: y :: st) := fun H locs ls hR hS hl => lv_dup_x1 E.1 E.2.1 d hx hy (kk H locs ls hR hS hl)
theorem j_dup2 (E : JE X own cc nL ws ret B E0 D l v mc ms) {x y : Value} (d : decode cc pc = .ok (.dup2, 1)) (hx : x.category = 1) (hy : y.category = 1) (kk : J X B D nL Q h k n (pc + 1) L (x :: y :: x :: y :: st)) : J X B D nL Q h k n pc L (x :: y :: st) := fun H locs ls hR hS hl => lv_dup2_11 E.1 E.2.1 d hx hy (kk H locs ls hR hS hl)
theorem j_iadd (E : JE X own cc nL ws ret B E0 D l v mc ms) {x y : Int32} (d : decode cc pc = .ok (.iadd, 1))  (kk : J X B D nL Q h k n (pc + 1) L (.int (x + y) :: st)) : J X B D nL Q h k n pc L (.int y :: .int x :: st) := fun H locs ls hR hS hl => lv_iadd E.1 E.2.1 d (kk H locs ls hR hS hl)
theorem j_isub (E : JE X own cc nL ws ret B E0 D l v mc ms) {x y : Int32} (d : decode cc pc = .ok (.isub, 1))  (kk : J X B D nL Q h k n (pc + 1) L (.int (x - y) :: st)) : J X B D nL Q h k n pc L (.int y :: .int x :: st) := fun H locs ls hR hS hl => lv_isub E.1 E.2.1 d (kk H locs ls hR hS hl)
theorem j_imul (E : JE X own cc nL ws ret B E0 D l v mc ms) {x y : Int32} (d : decode cc pc = .ok (.imul, 1))  (kk : J X B D nL Q h k n (pc + 1) L (.int (x * y) :: st)) : J X B D nL Q h k n pc L (.int y :: .int x :: st) := fun H locs ls hR hS hl => lv_imul E.1 E.2.1 d (kk H locs ls hR hS hl)
theorem j_iand (E : JE X own cc nL ws ret B E0 D l v mc ms) {x y : Int32} (d : decode cc pc = .ok (.iand, 1))  (kk : J X B D nL Q h k n (pc + 1) L (.int (x &&& y) :: st)) : J X B D nL Q h k n pc L (.int y :: .int x :: st) := fun H locs ls hR hS hl => lv_iand E.1 E.2.1 d (kk H locs ls hR hS hl)
theorem j_ior (E : JE X own cc nL ws ret B E0 D l v mc ms) {x y : Int32} (d : decode cc pc = .ok (.ior, 1))  (kk : J X B D nL Q h k n (pc + 1) L (.int (x ||| y) :: st)) : J X B D nL Q h k n pc L (.int y :: .int x :: st) := fun H locs ls hR hS hl => lv_ior E.1 E.2.1 d (kk H locs ls hR hS hl)
theorem j_ixor (E : JE X own cc nL ws ret B E0 D l v mc ms) {x y : Int32} (d : decode cc pc = .ok (.ixor, 1))  (kk : J X B D nL Q h k n (pc + 1) L (.int (x ^^^ y) :: st)) : J X B D nL Q h k n pc L (.int y :: .int x :: st) := fun H locs ls hR hS hl => lv_ixor E.1 E.2.1 d (kk H locs ls hR hS hl)
theorem j_ishl (E : JE X own cc nL ws ret B E0 D l v mc ms) {x y : Int32} (d : decode cc pc = .ok (.ishl, 1))  (kk : J X B D nL Q h k n (pc + 1) L (.int (x <<< (y &&& 31)) :: st)) : J X B D nL Q h k n pc L (.int y :: .int x :: st) := fun H locs ls hR hS hl => lv_ishl E.1 E.2.1 d (kk H locs ls hR hS hl)
theorem j_ishr (E : JE X own cc nL ws ret B E0 D l v mc ms) {x y : Int32} (d : decode cc pc = .ok (.ishr, 1))  (kk : J X B D nL Q h k n (pc + 1) L (.int (x >>> (y &&& 31)) :: st)) : J X B D nL Q h k n pc L (.int y :: .int x :: st) := fun H locs ls hR hS hl => lv_ishr E.1 E.2.1 d (kk H locs ls hR hS hl)
theorem j_iushr (E : JE X own cc nL ws ret B E0 D l v mc ms) {x y z : Int32} (d : decode cc pc = .ok (.iushr, 1)) (hv : (x.toUInt32 >>> (y.toUInt32 &&& Int32.toUInt32 31)).toInt32 = z) (kk : J X B D nL Q h k n (pc + 1) L (.int z :: st)) : J X B D nL Q h k n pc L (.int y :: .int x :: st) := fun H locs ls hR hS hl => lv_iushr E.1 E.2.1 d hv (kk H locs ls hR hS hl)
theorem j_idiv (E : JE X own cc nL ws ret B E0 D l v mc ms) {x y : Int32} (d : decode cc pc = .ok (.idiv, 1)) (hne : ¬ y = 0) (kk : J X B D nL Q h k n (pc + 1) L (.int (x / y) :: st)) : J X B D nL Q h k n pc L (.int y :: .int x :: st) := fun H locs ls hR hS hl => lv_idiv E.1 E.2.1 d hne (kk H locs ls hR hS hl)
theorem j_irem (E : JE X own cc nL ws ret B E0 D l v mc ms) {x y : Int32} (d : decode cc pc = .ok (.irem, 1)) (hne : ¬ y = 0) (kk : J X B D nL Q h k n (pc + 1) L (.int (x - x / y * y) :: st)) : J X B D nL Q h k n pc L (.int y :: .int x :: st) := fun H locs ls hR hS hl => lv_irem E.1 E.2.1 d hne (kk H locs ls hR hS hl)
theorem j_ladd (E : JE X own cc nL ws ret B E0 D l v mc ms) {x y : Int64} (d : decode cc pc = .ok (.ladd, 1))  (kk : J X B D nL Q h k n (pc + 1) L (.long (x + y) :: st)) : J X B D nL Q h k n pc L (.long y :: .long x :: st) := fun H locs ls hR hS hl => lv_ladd E.1 E.2.1 d (kk H locs ls hR hS hl)
theorem j_lsub (E : JE X own cc nL ws ret B E0 D l v mc ms) {x y : Int64} (d : decode cc pc = .ok (.lsub, 1))  (kk : J X B D nL Q h k n (pc + 1) L (.long (x - y) :: st)) : J X B D nL Q h k n pc L (.long y :: .long x :: st) := fun H locs ls hR hS hl => lv_lsub E.1 E.2.1 d (kk H locs ls hR hS hl)
theorem j_lmul (E : JE X own cc nL ws ret B E0 D l v mc ms) {x y : Int64} (d : decode cc pc = .ok (.lmul, 1))  (kk : J X B D nL Q h k n (pc + 1) L (.long (x * y) :: st)) : J X B D nL Q h k n pc L (.long y :: .long x :: st) := fun H locs ls hR hS hl => lv_lmul E.1 E.2.1 d (kk H locs ls hR hS hl)
theorem j_land (E : JE X own cc nL ws ret B E0 D l v mc ms) {x y : Int64} (d : decode cc pc = .ok (.land, 1))  (kk : J X B D nL Q h k n (pc + 1) L (.long (x &&& y) :: st)) : J X B D nL Q h k n pc L (.long y :: .long x :: st) := fun H locs ls hR hS hl => lv_land E.1 E.2.1 d (kk H locs ls hR hS hl)
theorem j_lor (E : JE X own cc nL ws ret B E0 D l v mc ms) {x y : Int64} (d : decode cc pc = .ok (.lor, 1))  (kk : J X B D nL Q h k n (pc + 1) L (.long (x ||| y) :: st)) : J X B D nL Q h k n pc L (.long y :: .long x :: st) := fun H locs ls hR hS hl => lv_lor E.1 E.2.1 d (kk H locs ls hR hS hl)
theorem j_lshl (E : JE X own cc nL ws ret B E0 D l v mc ms) {x z : Int64} {y : Int32} (d : decode cc pc = .ok (.lshl, 1)) (hv : x <<< (y.toInt64 &&& 63) = z) (kk : J X B D nL Q h k n (pc + 1) L (.long z :: st)) : J X B D nL Q h k n pc L (.int y :: .long x :: st) := fun H locs ls hR hS hl => lv_lshl E.1 E.2.1 d hv (kk H locs ls hR hS hl)
theorem j_lcmp (E : JE X own cc nL ws ret B E0 D l v mc ms) {x y : Int64} (d : decode cc pc = .ok (.lcmp, 1))  (kk : J X B D nL Q h k n (pc + 1) L (.int (lg_cmp x y) :: st)) : J X B D nL Q h k n pc L (.long y :: .long x :: st) := fun H locs ls hR hS hl => W.lcmp E.1 E.2.1 d (kk H locs ls hR hS hl)
theorem j_i2l (E : JE X own cc nL ws ret B E0 D l v mc ms) {x : Int32} (d : decode cc pc = .ok (.i2l, 1))  (kk : J X B D nL Q h k n (pc + 1) L (.long x.toInt64 :: st)) : J X B D nL Q h k n pc L (.int x :: st) := fun H locs ls hR hS hl => lv_i2l E.1 E.2.1 d rfl (kk H locs ls hR hS hl)
theorem j_goto (E : JE X own cc nL ws ret B E0 D l v mc ms) {off : Int} {tgt : Nat} (d : decode cc pc = .ok (.goto off, 3)) (ht : (pc : Int) + off = (tgt : Int)) (kk : J X B D nL Q h k n tgt L st) : J X B D nL Q h k n pc L st := fun H locs ls hR hS hl => lv_goto E.1 E.2.1 d ht (kk H locs ls hR hS hl)
theorem j_if_eq (E : JE X own cc nL ws ret B E0 D l v mc ms) {x : Int32} {off : Int} {tgt : Nat} (d : decode cc pc = .ok (.ifCond .eq off, 3)) (ht : (pc : Int) + off = (tgt : Int)) (kt : x = 0 → J X B D nL Q h k n tgt L st) (kf : ¬ x = 0 → J X B D nL Q h k n (pc + 3) L st) : J X B D nL Q h k n pc L (.int x :: st) := fun H locs ls hR hS hl => lv_if_eq E.1 E.2.1 d ht (fun c => kt c H locs ls hR hS hl) (fun c => kf c H locs ls hR hS hl)
theorem j_if_ne (E : JE X own cc nL ws ret B E0 D l v mc ms) {x : Int32} {off : Int} {tgt : Nat} (d : decode cc pc = .ok (.ifCond .ne off, 3)) (ht : (pc : Int) + off = (tgt : Int)) (kt : ¬ x = 0 → J X B D nL Q h k n tgt L st) (kf : x = 0 → J X B D nL Q h k n (pc + 3) L st) : J X B D nL Q h k n pc L (.int x :: st) := fun H locs ls hR hS hl => lv_if_ne E.1 E.2.1 d ht (fun c => kt c H locs ls hR hS hl) (fun c => kf c H locs ls hR hS hl)
theorem j_if_lt (E : JE X own cc nL ws ret B E0 D l v mc ms) {x : Int32} {off : Int} {tgt : Nat} (d : decode cc pc = .ok (.ifCond .lt off, 3)) (ht : (pc : Int) + off = (tgt : Int)) (kt : x < 0 → J X B D nL Q h k n tgt L st) (kf : ¬ x < 0 → J X B D nL Q h k n (pc + 3) L st) : J X B D nL Q h k n pc L (.int x :: st) := fun H locs ls hR hS hl => lv_if_lt E.1 E.2.1 d ht (fun c => kt c H locs ls hR hS hl) (fun c => kf c H locs ls hR hS hl)
theorem j_if_ge (E : JE X own cc nL ws ret B E0 D l v mc ms) {x : Int32} {off : Int} {tgt : Nat} (d : decode cc pc = .ok (.ifCond .ge off, 3)) (ht : (pc : Int) + off = (tgt : Int)) (kt : 0 ≤ x → J X B D nL Q h k n tgt L st) (kf : ¬ 0 ≤ x → J X B D nL Q h k n (pc + 3) L st) : J X B D nL Q h k n pc L (.int x :: st) := fun H locs ls hR hS hl => lv_if_ge E.1 E.2.1 d ht (fun c => kt c H locs ls hR hS hl) (fun c => kf c H locs ls hR hS hl)
theorem j_if_gt (E : JE X own cc nL ws ret B E0 D l v mc ms) {x : Int32} {off : Int} {tgt : Nat} (d : decode cc pc = .ok (.ifCond .gt off, 3)) (ht : (pc : Int) + off = (tgt : Int)) (kt : 0 < x → J X B D nL Q h k n tgt L st) (kf : ¬ 0 < x → J X B D nL Q h k n (pc + 3) L st) : J X B D nL Q h k n pc L (.int x :: st) := fun H locs ls hR hS hl => lv_if_gt E.1 E.2.1 d ht (fun c => kt c H locs ls hR hS hl) (fun c => kf c H locs ls hR hS hl)
theorem j_if_le (E : JE X own cc nL ws ret B E0 D l v mc ms) {x : Int32} {off : Int} {tgt : Nat} (d : decode cc pc = .ok (.ifCond .le off, 3)) (ht : (pc : Int) + off = (tgt : Int)) (kt : x ≤ 0 → J X B D nL Q h k n tgt L st) (kf : ¬ x ≤ 0 → J X B D nL Q h k n (pc + 3) L st) : J X B D nL Q h k n pc L (.int x :: st) := fun H locs ls hR hS hl => lv_if_le E.1 E.2.1 d ht (fun c => kt c H locs ls hR hS hl) (fun c => kf c H locs ls hR hS hl)
theorem j_icmp_eq (E : JE X own cc nL ws ret B E0 D l v mc ms) {x y : Int32} {off : Int} {tgt : Nat} (d : decode cc pc = .ok (.if_icmp .eq off, 3)) (ht : (pc : Int) + off = (tgt : Int)) (kt : x = y → J X B D nL Q h k n tgt L st) (kf : ¬ x = y → J X B D nL Q h k n (pc + 3) L st) : J X B D nL Q h k n pc L (.int y :: .int x :: st) := fun H locs ls hR hS hl => lv_icmp_eq E.1 E.2.1 d ht (fun c => kt c H locs ls hR hS hl) (fun c => kf c H locs ls hR hS hl)
theorem j_icmp_ne (E : JE X own cc nL ws ret B E0 D l v mc ms) {x y : Int32} {off : Int} {tgt : Nat} (d : decode cc pc = .ok (.if_icmp .ne off, 3)) (ht : (pc : Int) + off = (tgt : Int)) (kt : ¬ x = y → J X B D nL Q h k n tgt L st) (kf : x = y → J X B D nL Q h k n (pc + 3) L st) : J X B D nL Q h k n pc L (.int y :: .int x :: st) := fun H locs ls hR hS hl => lv_icmp_ne E.1 E.2.1 d ht (fun c => kt c H locs ls hR hS hl) (fun c => kf c H locs ls hR hS hl)
theorem j_icmp_lt (E : JE X own cc nL ws ret B E0 D l v mc ms) {x y : Int32} {off : Int} {tgt : Nat} (d : decode cc pc = .ok (.if_icmp .lt off, 3)) (ht : (pc : Int) + off = (tgt : Int)) (kt : x < y → J X B D nL Q h k n tgt L st) (kf : ¬ x < y → J X B D nL Q h k n (pc + 3) L st) : J X B D nL Q h k n pc L (.int y :: .int x :: st) := fun H locs ls hR hS hl => lv_icmp_lt E.1 E.2.1 d ht (fun c => kt c H locs ls hR hS hl) (fun c => kf c H locs ls hR hS hl)
theorem j_icmp_ge (E : JE X own cc nL ws ret B E0 D l v mc ms) {x y : Int32} {off : Int} {tgt : Nat} (d : decode cc pc = .ok (.if_icmp .ge off, 3)) (ht : (pc : Int) + off = (tgt : Int)) (kt : y ≤ x → J X B D nL Q h k n tgt L st) (kf : ¬ y ≤ x → J X B D nL Q h k n (pc + 3) L st) : J X B D nL Q h k n pc L (.int y :: .int x :: st) := fun H locs ls hR hS hl => lv_icmp_ge E.1 E.2.1 d ht (fun c => kt c H locs ls hR hS hl) (fun c => kf c H locs ls hR hS hl)
theorem j_icmp_gt (E : JE X own cc nL ws ret B E0 D l v mc ms) {x y : Int32} {off : Int} {tgt : Nat} (d : decode cc pc = .ok (.if_icmp .gt off, 3)) (ht : (pc : Int) + off = (tgt : Int)) (kt : y < x → J X B D nL Q h k n tgt L st) (kf : ¬ y < x → J X B D nL Q h k n (pc + 3) L st) : J X B D nL Q h k n pc L (.int y :: .int x :: st) := fun H locs ls hR hS hl => lv_icmp_gt E.1 E.2.1 d ht (fun c => kt c H locs ls hR hS hl) (fun c => kf c H locs ls hR hS hl)
theorem j_icmp_le (E : JE X own cc nL ws ret B E0 D l v mc ms) {x y : Int32} {off : Int} {tgt : Nat} (d : decode cc pc = .ok (.if_icmp .le off, 3)) (ht : (pc : Int) + off = (tgt : Int)) (kt : x ≤ y → J X B D nL Q h k n tgt L st) (kf : ¬ x ≤ y → J X B D nL Q h k n (pc + 3) L st) : J X B D nL Q h k n pc L (.int y :: .int x :: st) := fun H locs ls hR hS hl => lv_icmp_le E.1 E.2.1 d ht (fun c => kt c H locs ls hR hS hl) (fun c => kf c H locs ls hR hS hl)
theorem j_ifnonnull (E : JE X own cc nL ws ret B E0 D l v mc ms) {x : Nat} {off : Int} {tgt : Nat} (d : decode cc pc = .ok (.ifnonnull off, 3)) (ht : (pc : Int) + off = (tgt : Int)) (kk : J X B D nL Q h k n tgt L st) : J X B D nL Q h k n pc L (.ref x :: st) := fun H locs ls hR hS hl => lv_ifnonnull E.1 E.2.1 d ht (kk H locs ls hR hS hl)
theorem j_ifnull (E : JE X own cc nL ws ret B E0 D l v mc ms) {x : Nat} {off : Int} (d : decode cc pc = .ok (.ifnull off, 3)) (kk : J X B D nL Q h k n (pc + 3) L st) : J X B D nL Q h k n pc L (.ref x :: st) := fun H locs ls hR hS hl => lv_ifnull E.1 E.2.1 d (kk H locs ls hR hS hl)
theorem j_ifnonnullN (E : JE X own cc nL ws ret B E0 D l v mc ms) {off : Int} (d : decode cc pc = .ok (.ifnonnull off, 3)) (kk : J X B D nL Q h k n (pc + 3) L st) : J X B D nL Q h k n pc L (.null :: st) := fun H locs ls hR hS hl => lv_ifnonnullN E.1 E.2.1 d (kk H locs ls hR hS hl)
theorem j_ifnullN (E : JE X own cc nL ws ret B E0 D l v mc ms) {off : Int} {tgt : Nat} (d : decode cc pc = .ok (.ifnull off, 3)) (ht : (pc : Int) + off = (tgt : Int)) (kk : J X B D nL Q h k n tgt L st) : J X B D nL Q h k n pc L (.null :: st) := fun H locs ls hR hS hl => lv_ifnullN E.1 E.2.1 d ht (kk H locs ls hR hS hl)
theorem j_acmp_ne (E : JE X own cc nL ws ret B E0 D l v mc ms) {x y : Nat} {off : Int} {tgt : Nat} (d : decode cc pc = .ok (.if_acmp .ne off, 3)) (ht : (pc : Int) + off = (tgt : Int)) (kt : ¬ x = y → J X B D nL Q h k n tgt L st) (kf : x = y → J X B D nL Q h k n (pc + 3) L st) : J X B D nL Q h k n pc L (.ref y :: .ref x :: st) := fun H locs ls hR hS hl => lv_acmp_ne (rx := some x) (ry := some y) E.1 E.2.1 d ht (fun c => kt (fun e => c (congrArg some e)) H locs ls hR hS hl) (fun c => kf (Option.some.inj c) H locs ls hR hS hl)
theorem j_acmp_eq (E : JE X own cc nL ws ret B E0 D l v mc ms) {x y : Nat} {off : Int} {tgt : Nat} (d : decode cc pc = .ok (.if_acmp .eq off, 3)) (ht : (pc : Int) + off = (tgt : Int)) (kt : x = y → J X B D nL Q h k n tgt L st) (kf : ¬ x = y → J X B D nL Q h k n (pc + 3) L st) : J X B D nL Q h k n pc L (.ref y :: .ref x :: st) := fun H locs ls hR hS hl => lv_acmp_eq (rx := some x) (ry := some y) E.1 E.2.1 d ht (fun c => kt (Option.some.inj c) H locs ls hR hS hl) (fun c => kf (fun e => c (congrArg some e)) H locs ls hR hS hl)
theorem j_table (E : JE X own cc nL ws ret B E0 D l v mc ms) {dflt lo hi : Int} {offs : Array Int} {len : Nat} {x : Int32} {off : Int} {tgt : Nat} (d : decode cc pc = .ok (.tableswitch dflt lo hi offs, len)) (h1 : ¬ x.toInt < lo) (h2 : ¬ hi < x.toInt) (ho : offs[(x.toInt - lo).toNat]? = some off) (ht : (pc : Int) + off = (tgt : Int)) (kk : J X B D nL Q h k n tgt L st) : J X B D nL Q h k n pc L (.int x :: st) := fun H locs ls hR hS hl => lv_tableIn E.1 E.2.1 d h1 h2 ho ht (kk H locs ls hR hS hl)
theorem j_tableD (E : JE X own cc nL ws ret B E0 D l v mc ms) {dflt lo hi : Int} {offs : Array Int} {len : Nat} {x : Int32} {tgt : Nat} (d : decode cc pc = .ok (.tableswitch dflt lo hi offs, len)) (h1 : x.toInt < lo ∨ hi < x.toInt) (ht : (pc : Int) + dflt = (tgt : Int)) (kk : J X B D nL Q h k n tgt L st) : J X B D nL Q h k n pc L (.int x :: st) := fun H locs ls hR hS hl => lv_tableOut E.1 E.2.1 d h1 ht (kk H locs ls hR hS hl)
theorem jx_at {E : JE X own cc nL ws ret B E0 D l v mc ms} {U : State} : True := trivial
theorem je_K (E : JE X own cc nL ws ret B E0 D l v mc ms) : va_K D vwCl [] (jx_s X) := E.2.2.2.2.2.2.2.1.1.2.1
theorem je_B (E : JE X own cc nL ws ret B E0 D l v mc ms) : B ≤ (jx_s X).heap.size := E.2.2.2.2.2.2.2.1.2.1
theorem je_R (E : JE X own cc nL ws ret B E0 D l v mc ms) : jx_R X = rmv v mc ms := E.2.2.2.2.2.2.2.2.1
theorem je_K1 (E : JE X own cc nL ws ret B E0 D l v mc ms) {cA : ClassId} {ty : FieldType} (h1 : ArrOfT (jx_s X) cA ty) (h2 : va_RA (jx_s X) cA ty) : va_K D vwCl [(cA, ty)] (jx_s X) := ⟨(je_K E).1, fun k q hk => by
  cases k with
  | zero => cases hk; exact ⟨h1, h2⟩
  | succ k => simp at hk⟩
theorem hm_P1 {D : va_G} {a : Nat} {e : va_E} {H : Heap} (h : va_at D vwCl (a, e) H) : va_P D vwCl [(a, e)] H := fun k q hk => by
  cases k with
  | zero => cases hk; exact h
  | succ k => simp at hk
theorem va_Sgrow {A : Nat → Prop} {H0 H H1 : Heap} {locs : List Loc} (hS : va_S A H0 H locs) (z : H.size ≤ H1.size) (hq : ∀ q : Nat, q < H.size → H1[q]? = H[q]?) : va_S A H0 H1 locs := ⟨Nat.le_trans hS.1 z, fun x h1 h2 => (hq x (Nat.lt_of_lt_of_le h1 hS.1)).trans (hS.2.1 x h1 h2), hS.2.2⟩
/-- getfield -/
theorem j_getfield (E : JE X own cc nL ws ret B E0 D l v mc ms) {ref C : String} {T : u_T} {N ci index a : Nat} {fs : List Value} {x : Value} (q : Nat) (d : decode cc pc = .ok (.getfield index, 3)) (hin : ∀ w ∈ u_ws C T N, w ∈ ws) (hc : vwCl[ci]? = some (C, T, N)) (hq : q < N) (hlink : Cond.fieldLink own index ref (T q).2.1 (T q).2.2.1 ∈ ws) (href : (T q).1 = ref) (ha : h a = some (hO ci fs)) (hx : fs[q]? = some x) (kk : J X B D nL Q h k n (pc + 3) L (x :: st)) : J X B D nL Q h k n pc L (.ref a :: st) := fun H locs ls hR hS hl =>
  va_get (D := D) (cl := vwCl) (tys := []) (ws := [(a, .inr (ci, fs))]) E.1 E.2.1 E.2.2.2.2.1 hin E.2.2.2.1 (je_K E) (hm_P1 (hR a _ ha).1) 0 rfl hc q hq (E.2.2.2.2.1 _ hlink) (by subst href; exact fun _ h9 => h9) hx d (kk H locs ls hR hS hl)
/-- .. a field inherited -/
theorem j_getfieldU (E : JE X own cc nL ws ret B E0 D l v mc ms) {ref C : String} {T : u_T} {N ci index a : Nat} {fs : List Value} {x : Value} (q : Nat) (d : decode cc pc = .ok (.getfield index, 3)) (hin : ∀ w ∈ u_ws C T N, w ∈ ws) (hc : vwCl[ci]? = some (C, T, N)) (hq : q < N) (hlink : Cond.fieldLink own index ref (T q).2.1 (T q).2.2.1 ∈ ws) (href : Cond.sameField ref (T q).1 (T q).2.1 (T q).2.2.1 ∈ ws) (ha : h a = some (hO ci fs)) (hx : fs[q]? = some x) (kk : J X B D nL Q h k n (pc + 3) L (x :: st)) : J X B D nL Q h k n pc L (.ref a :: st) := fun H locs ls hR hS hl =>
  va_get (D := D) (cl := vwCl) (tys := []) (ws := [(a, .inr (ci, fs))]) E.1 E.2.1 E.2.2.2.2.1 hin E.2.2.2.1 (je_K E) (hm_P1 (hR a _ ha).1) 0 rfl hc q hq (E.2.2.2.2.1 _ hlink) (u_same (E.2.2.2.2.1 _ href)) hx d (kk H locs ls hR hS hl)
/-- putfield -/
theorem j_put0 (E : JE X own cc nL ws ret B E0 D l v mc ms) {ref C : String} {T : u_T} {N ci index a : Nat} {fs : List Value} {x : Value} (q : Nat) (d : decode cc pc = .ok (.putfield index, 3)) (hin : ∀ w ∈ u_ws C T N, w ∈ ws) (ty0 : Nat → FieldType) (hty : ∀ k, k < N → parseFieldDescriptor (T k).2.2.1 = some (ty0 k)) (hnm : ∀ a, a < N → ∀ b, b < N → a ≠ b → (T a).2.1 ≠ (T b).2.1) (hc : vwCl[ci]? = some (C, T, N)) (hq : q < N) (hlink : Cond.fieldLink own index ref (T q).2.1 (T q).2.2.1 ∈ ws) (hsame : ∀ x, (jx_s X).fieldFound? (T q).1 (T q).2.1 (T q).2.2.1 = some x → (jx_s X).fieldFound? ref (T q).2.1 (T q).2.2.1 = some x) (hfin : (T q).2.2.2 = false) (hn : narrow (ty0 q) x = x) (hf : fits (ty0 q) x = true) (ha : h a = some (hO ci fs)) (hl0 : q < fs.length) (kk : J X B D nL Q (hput h a (hO ci (fs.set q x))) k n (pc + 3) L st) : J X B D nL Q h k n pc L (x :: .ref a :: st) := by
  intro H locs ls hR hS hl
  have hts := E.2.2.2.2.1
  have hap := va_apart (own := own) (D := D) (cl := vwCl) (tys := []) hts hin ty0 hty hnm (je_K E) hc
  obtain ⟨r, h1, cell, q1, q2, q3, q4⟩ := (hR a _ ha).1
  have hr : r = (C, T, N) := Option.some.inj (h1.symm.trans hc)
  subst hr
  obtain ⟨hSl, hfc, kC, hkC, hkind⟩ := (je_K E).1 ci _ hc
  obtain ⟨cf, kf, fi, f, hi, hsl⟩ := hSl q hq
  have hlay := hts _ (hin _ (u_in_lay hq))
  unfold u_lay at hlay
  rw [if_neg (by rw [hfin]; decide)] at hlay
  have hst := (u_facts hfc hkC (u_lays hts hin hq) hi).1
  have h6 := u_store hfc hkC hkind hlay hi (hty q hq) hn hf
  refine W.putK E.1 E.2.1 (f := f) ⟨E.2.2.2.1, hts _ hlink, ⟨_, _, _, hsame _ hi⟩, hst⟩ (by rw [q2]; exact h6) q1 q3 (by rw [hsl]; exact k2_hasslot (q4 q hq)) rfl rfl d fun H' e1 e2 e3 => ?_
  rw [hsl] at e1 ⊢
  have hB := hR.B ha
  exact kk H' _ ls (hR.set hB (show va_at D vwCl (a, .inr (ci, fs.set q x)) H' from ⟨_, hc, t_OB.to (V := updV (vp_V fs) q x) ⟨_, e1, q2, q3, t_set q4 hap hq x⟩ (fun j _ => vp_updV_set hl0 x j)⟩) e3) (hS.put e2 e3 hB) hl
theorem j_putfield (E : JE X own cc nL ws ret B E0 D l v mc ms) {ref C : String} {T : u_T} {N ci index a : Nat} {fs : List Value} {x : Value} (q : Nat) (d : decode cc pc = .ok (.putfield index, 3)) (hin : ∀ w ∈ u_ws C T N, w ∈ ws) (ty0 : Nat → FieldType) (hty : ∀ k, k < N → parseFieldDescriptor (T k).2.2.1 = some (ty0 k)) (hnm : ∀ a, a < N → ∀ b, b < N → a ≠ b → (T a).2.1 ≠ (T b).2.1) (hc : vwCl[ci]? = some (C, T, N)) (hq : q < N) (hlink : Cond.fieldLink own index ref (T q).2.1 (T q).2.2.1 ∈ ws) (href : (T q).1 = ref) (hfin : (T q).2.2.2 = false) (hn : narrow (ty0 q) x = x) (hf : fits (ty0 q) x = true) (ha : h a = some (hO ci fs)) (hl0 : q < fs.length) (kk : J X B D nL Q (hput h a (hO ci (fs.set q x))) k n (pc + 3) L st) : J X B D nL Q h k n pc L (x :: .ref a :: st) :=
  j_put0 E q d hin ty0 hty hnm hc hq hlink (by subst href; exact fun _ h9 => h9) hfin hn hf ha hl0 kk
theorem j_putfieldU (E : JE X own cc nL ws ret B E0 D l v mc ms) {ref C : String} {T : u_T} {N ci index a : Nat} {fs : List Value} {x : Value} (q : Nat) (d : decode cc pc = .ok (.putfield index, 3)) (hin : ∀ w ∈ u_ws C T N, w ∈ ws) (ty0 : Nat → FieldType) (hty : ∀ k, k < N → parseFieldDescriptor (T k).2.2.1 = some (ty0 k)) (hnm : ∀ a, a < N → ∀ b, b < N → a ≠ b → (T a).2.1 ≠ (T b).2.1) (hc : vwCl[ci]? = some (C, T, N)) (hq : q < N) (hlink : Cond.fieldLink own index ref (T q).2.1 (T q).2.2.1 ∈ ws) (href : Cond.sameField ref (T q).1 (T q).2.1 (T q).2.2.1 ∈ ws) (hfin : (T q).2.2.2 = false) (hn : narrow (ty0 q) x = x) (hf : fits (ty0 q) x = true) (ha : h a = some (hO ci fs)) (hl0 : q < fs.length) (kk : J X B D nL Q (hput h a (hO ci (fs.set q x))) k n (pc + 3) L st) : J X B D nL Q h k n pc L (x :: .ref a :: st) :=
  j_put0 E q d hin ty0 hty hnm hc hq hlink (u_same (E.2.2.2.2.1 _ href)) hfin hn hf ha hl0 kk
/-- .. of a final field, in the constructor -/
theorem j_putfin (E : JE X own cc nL ws ret B E0 D l v mc ms) {ref C : String} {T : u_T} {N ci index a : Nat} {fs : List Value} {x : Value} (q : Nat) (d : decode cc pc = .ok (.putfield index, 3)) (hin : ∀ w ∈ u_ws C T N, w ∈ ws) (ty0 : Nat → FieldType) (hty : ∀ k, k < N → parseFieldDescriptor (T k).2.2.1 = some (ty0 k)) (hnm : ∀ a, a < N → ∀ b, b < N → a ≠ b → (T a).2.1 ≠ (T b).2.1) (hc : vwCl[ci]? = some (C, T, N)) (hq : q < N) (hlink : Cond.fieldLink own index ref (T q).2.1 (T q).2.2.1 ∈ ws) (href : (T q).1 = ref) (hfin : (T q).2.2.2 = true) (hini : (jx_t X).name = "<init>") (hdecl : (T q).1 = own) (hn : narrow (ty0 q) x = x) (hf : fits (ty0 q) x = true) (ha : h a = some (hO ci fs)) (hl0 : q < fs.length) (kk : J X B D nL Q (hput h a (hO ci (fs.set q x))) k n (pc + 3) L st) : J X B D nL Q h k n pc L (x :: .ref a :: st) := by
  intro H locs ls hR hS hl
  have hts := E.2.2.2.2.1
  have hap := va_apart (own := own) (D := D) (cl := vwCl) (tys := []) hts hin ty0 hty hnm (je_K E) hc
  obtain ⟨r, h1, cell, q1, q2, q3, q4⟩ := (hR a _ ha).1
  have hr : r = (C, T, N) := Option.some.inj (h1.symm.trans hc)
  subst hr
  obtain ⟨hSl, hfc, kC, hkC, hkind⟩ := (je_K E).1 ci _ hc
  obtain ⟨cf, kf, fi, f, hi, hsl⟩ := hSl q hq
  have hlay := hts _ (hin _ (u_in_lay hq))
  unfold u_lay at hlay
  rw [if_pos hfin] at hlay
  have hst := (u_facts hfc hkC (u_lays hts hin hq) hi).1
  have hcf : (jx_m X).cls = cf := by
    obtain ⟨_, _, c', _, _, _, -, -, hf', -, -, -, hown2, -⟩ := Cond.laysFinal_spec hlay
    have e1 : c' = cf := by have := hi.symm.trans hf'; simp at this; exact this.1.symm
    rw [hdecl] at hown2
    rw [← e1]; exact Option.some.inj (E.2.2.2.1.symm.trans hown2)
  have h6 := u_fits hfc hkC hkind (Or.inr hlay) hi (hty q hq) hn hf
  refine W.putFinK E.1 E.2.1 E.2.2.2.1 (hts _ hlink) (by subst href; exact hi) hst hcf hini (by rw [q2]; exact h6) q1 q3 (by rw [hsl]; exact k2_hasslot (q4 q hq)) rfl rfl d fun H' e1 e2 e3 => ?_
  rw [hsl] at e1 ⊢
  have hB := hR.B ha
  exact kk H' _ ls (hR.set hB (show va_at D vwCl (a, .inr (ci, fs.set q x)) H' from ⟨_, hc, t_OB.to (V := updV (vp_V fs) q x) ⟨_, e1, q2, q3, t_set q4 hap hq x⟩ (fun j _ => vp_updV_set hl0 x j)⟩) e3) (hS.put e2 e3 hB) hl

theorem j_iaload (E : JE X own cc nL ws ret B E0 D l v mc ms) {a N : Nat} {f : Nat → Int32} {x : Int32} (i : Nat) (d : decode cc pc = .ok (.iaload, 1)) (ha : h a = some (hI N f)) (hx : x = nI i) (hi : i < N) (hN : N < 2 ^ 31) (kk : J X B D nL Q h k n (pc + 1) L (.int (f i) :: st)) : J X B D nL Q h k n pc L (.int x :: .ref a :: st) := by
  intro H locs ls hR hS hl
  obtain ⟨cA, k1, k2, k3⟩ := (hR a _ ha).1
  subst hx
  have hin : vp_in (nI i) N := vp_in_nI hi hN
  have key := kk H locs ls hR hS hl
  rw [← nI_clamp (n := i) (by omega)] at key
  exact va_iald (D := D) (cl := vwCl) (ws := [(a, .inl (cA, _))]) E.1 E.2.1 (je_K1 E k1 k2) (hm_P1 k3) 0 0 rfl rfl hin d key
theorem j_laload (E : JE X own cc nL ws ret B E0 D l v mc ms) {a N : Nat} {f : Nat → Int64} {x : Int32} (i : Nat) (d : decode cc pc = .ok (.laload, 1)) (ha : h a = some (hJ N f)) (hx : x = nI i) (hi : i < N) (hN : N < 2 ^ 31) (kk : J X B D nL Q h k n (pc + 1) L (.long (f i) :: st)) : J X B D nL Q h k n pc L (.int x :: .ref a :: st) := by
  intro H locs ls hR hS hl
  obtain ⟨cA, k1, k2, k3⟩ := (hR a _ ha).1
  subst hx
  have hin : vp_in (nI i) N := vp_in_nI hi hN
  have key := kk H locs ls hR hS hl
  rw [← nI_clamp (n := i) (by omega)] at key
  exact va_lald (D := D) (cl := vwCl) (ws := [(a, .inl (cA, _))]) E.1 E.2.1 (je_K1 E k1 k2) (hm_P1 k3) 0 0 rfl rfl hin d key
theorem j_zaload (E : JE X own cc nL ws ret B E0 D l v mc ms) {a N : Nat} {f : Nat → Int32} {x : Int32} (i : Nat) (d : decode cc pc = .ok (.baload, 1)) (ha : h a = some (hZ N f)) (hx : x = nI i) (hi : i < N) (hN : N < 2 ^ 31) (kk : J X B D nL Q h k n (pc + 1) L (.int (f i) :: st)) : J X B D nL Q h k n pc L (.int x :: .ref a :: st) := by
  intro H locs ls hR hS hl
  obtain ⟨cA, k1, k2, k3⟩ := (hR a _ ha).1
  subst hx
  have hin : vp_in (nI i) N := vp_in_nI hi hN
  have key := kk H locs ls hR hS hl
  rw [← nI_clamp (n := i) (by omega)] at key
  exact va_zald (D := D) (cl := vwCl) (ws := [(a, .inl (cA, _))]) E.1 E.2.1 (je_K1 E k1 k2) (hm_P1 k3) 0 0 rfl rfl hin d key
theorem j_aaload (E : JE X own cc nL ws ret B E0 D l v mc ms) {a N : Nat} {f : Nat → Option Nat} {x : Int32} {y : Option Nat} (i : Nat) (d : decode cc pc = .ok (.aaload, 1)) (ha : h a = some (hQ N f)) (hx : x = nI i) (hi : i < N) (hN : N < 2 ^ 31) (hy : f i = y) (kk : J X B D nL Q h k n (pc + 1) L (va_rf y :: st)) : J X B D nL Q h k n pc L (.int x :: .ref a :: st) := by
  intro H locs ls hR hS hl
  obtain ⟨cA, k1, k2, k3⟩ := (hR a _ ha).1
  subst hx hy
  have hin : vp_in (nI i) N := vp_in_nI hi hN
  have key := kk H locs ls hR hS hl
  rw [← nI_clamp (n := i) (by omega)] at key
  exact va_aldq (D := D) (cl := vwCl) (ws := [(a, .inl (cA, _))]) E.1 E.2.1 (je_K1 E k1 k2) (hm_P1 k3) 0 0 rfl rfl hin d key
theorem j_alen (E : JE X own cc nL ws ret B E0 D l v mc ms) {a N : Nat} {ty : FieldType} {f} (d : decode cc pc = .ok (.arraylength, 1)) (ha : h a = some (.inl (ty, (N, f)))) (kk : J X B D nL Q h k n (pc + 1) L (.int (nI N) :: st)) : J X B D nL Q h k n pc L (.ref a :: st) := by
  intro H locs ls hR hS hl
  obtain ⟨cA, k1, k2, k3⟩ := (hR a _ ha).1
  exact va_alen (D := D) (cl := vwCl) (ws := [(a, .inl (cA, _))]) E.1 E.2.1 (je_K1 E k1 k2) (hm_P1 k3) 0 0 rfl rfl rfl d (kk H locs ls hR hS hl)
theorem j_iastore (E : JE X own cc nL ws ret B E0 D l v mc ms) {a N : Nat} {f : Nat → Int32} {x : Int32} {y : Int32} (i : Nat) (d : decode cc pc = .ok (.iastore, 1)) (ha : h a = some (hI N f)) (hx : x = nI i) (hi : i < N) (hN : N < 2 ^ 31) (kk : J X B D nL Q (hput h a (hI N (upd f i y))) k n (pc + 1) L st) : J X B D nL Q h k n pc L (.int y :: .int x :: .ref a :: st) := by
  intro H locs ls hR hS hl
  obtain ⟨cA, k1, k2, k3⟩ := (hR a _ ha).1
  subst hx
  have hin : vp_in (nI i) N := vp_in_nI hi hN
  have ei : (nI i).toNatClampNeg = i := nI_clamp (by omega)
  have hB := hR.BA ha hi
  refine W.iast E.1 E.2.1 k3 (k1 N (fun j => .int (f j))) (fun q => by cases q) (by show ¬ (nI i < 0 ∨ (arrV _ _ _).slots.size ≤ _); rw [arrV_size]; exact hin) rfl rfl d fun H1 e z oq => ?_
  refine kk H1 _ ls (hR.set hB ⟨cA, k1, k2, ?_⟩ oq) (hS.put z oq hB) hl
  rw [e, ei]
  rw [vp_cell_i, vp_cell_i, arrV_store]
  congr 2
  funext q
  by_cases hq : q = i
  · subst hq
    simp [updV, upd]
  · simp [updV, upd, hq]
theorem j_lastore (E : JE X own cc nL ws ret B E0 D l v mc ms) {a N : Nat} {f : Nat → Int64} {x : Int32} {y : Int64} (i : Nat) (d : decode cc pc = .ok (.lastore, 1)) (ha : h a = some (hJ N f)) (hx : x = nI i) (hi : i < N) (hN : N < 2 ^ 31) (kk : J X B D nL Q (hput h a (hJ N (vp_updL f i y))) k n (pc + 1) L st) : J X B D nL Q h k n pc L (.long y :: .int x :: .ref a :: st) := by
  intro H locs ls hR hS hl
  obtain ⟨cA, k1, k2, k3⟩ := (hR a _ ha).1
  subst hx
  have hin : vp_in (nI i) N := vp_in_nI hi hN
  have ei : (nI i).toNatClampNeg = i := nI_clamp (by omega)
  have hB := hR.BA ha hi
  refine W.last E.1 E.2.1 k3 (k1 N (fun j => .long (f j))) (fun q => by cases q) (by show ¬ (nI i < 0 ∨ (arrV _ _ _).slots.size ≤ _); rw [arrV_size]; exact hin) rfl rfl d fun H1 e z oq => ?_
  refine kk H1 _ ls (hR.set hB ⟨cA, k1, k2, ?_⟩ oq) (hS.put z oq hB) hl
  rw [e, ei]
  rw [vp_cell_l, vp_cell_l, arrV_store]
  congr 2
  funext q
  by_cases hq : q = i
  · subst hq
    simp [updV, vp_updL]
  · simp [updV, vp_updL, hq]
theorem j_zastore (E : JE X own cc nL ws ret B E0 D l v mc ms) {a N : Nat} {f : Nat → Int32} {x y : Int32} (i : Nat) (d : decode cc pc = .ok (.bastore, 1)) (ha : h a = some (hZ N f)) (hx : x = nI i) (hi : i < N) (hN : N < 2 ^ 31) (hn : narrow .boolean (.int y) = .int y) (kk : J X B D nL Q (hput h a (hZ N (upd f i y))) k n (pc + 1) L st) : J X B D nL Q h k n pc L (.int y :: .int x :: .ref a :: st) := by
  intro H locs ls hR hS hl
  obtain ⟨cA, k1, k2, k3⟩ := (hR a _ ha).1
  subst hx
  have hin : vp_in (nI i) N := vp_in_nI hi hN
  have ei : (nI i).toNatClampNeg = i := nI_clamp (by omega)
  have hB := hR.BA ha hi
  refine W.zast E.1 E.2.1 k3 (k1 N (fun j => .int (f j))) (fun q => by cases q) (by show ¬ (nI i < 0 ∨ (arrV _ _ _).slots.size ≤ _); rw [arrV_size]; exact hin) rfl rfl d fun H1 e z oq => ?_
  refine kk H1 _ ls (hR.set hB ⟨cA, k1, k2, ?_⟩ oq) (hS.put z oq hB) hl
  rw [e, ei, hn]
  rw [vp_cell_i, vp_cell_i, arrV_store]
  congr 2
  funext q
  by_cases hq : q = i
  · subst hq
    simp [updV, upd]
  · simp [updV, upd, hq]
theorem j_aastore (E : JE X own cc nL ws ret B E0 D l v mc ms) {a N y ci : Nat} {fs : List Value} {r : vw_C} {f : Nat → Option Nat} {x : Int32} (i : Nat) (d : decode cc pc = .ok (.aastore, 1)) (ha : h a = some (hQ N f)) (hx : x = nI i) (hi : i < N) (hN : N < 2 ^ 31) (hy : h y = some (hO ci fs)) (hc : vwCl[ci]? = some r) (kk : J X B D nL Q (hput h a (hQ N (va_up f i (some y)))) k n (pc + 1) L st) : J X B D nL Q h k n pc L (.ref y :: .int x :: .ref a :: st) := by
  intro H locs ls hR hS hl
  obtain ⟨cA, k1, k2, k3⟩ := (hR a _ ha).1
  subst hx
  have ei : (nI i).toNatClampNeg = i := nI_clamp (by omega)
  have hB := hR.BA ha hi
  obtain ⟨r', hr', cellV, g1, g2, g3, -⟩ := (hR y _ hy).1
  cases hc.symm.trans hr'
  have hcls := ((je_K E).1 ci r hc).2
  obtain ⟨kA, comp, c1, c2, c3, c4⟩ := k2
  obtain ⟨kE, hkE, -⟩ := Vm.findClass_spec c3
  obtain ⟨c0, t1, f1, f2, f3⟩ := Cond.castable_spec (va_Nw.use (A := jx_a X) rfl (E.2.2.2.2.2.2.2.1.1.2.2.1 ci r hc))
  cases hcls.1.symm.trans f1
  cases c3.symm.trans f2
  obtain ⟨kC, hkC, -⟩ := hcls.2
  refine W.aast E.1 E.2.1 k3 (fun q h => by cases h) (fun h => by cases h) c1 c2 rfl hkE ⟨nI_pos (by omega), by show _ < (arrV _ _ _).slots.size; rw [arrV_size, ei]; exact hi⟩ g1 (fun q h => by rw [g3] at h; cases h) (by rw [g2]; exact hkC) (by rw [g2]; exact f3) rfl rfl d fun H1 e z oq => ?_
  refine kk H1 _ ls (hR.set hB ⟨cA, k1, ⟨kA, comp, c1, c2, c3, c4⟩, ?_⟩ oq) (hS.put z oq hB) hl
  rw [e, ei]
  rw [vp_cell_q, vp_cell_q, arrV_store]
  congr 2
  funext q
  by_cases hq : q = i
  · subst hq
    simp [updV, va_up, va_rf]
  · simp [updV, va_up, hq]
theorem j_aastoreN (E : JE X own cc nL ws ret B E0 D l v mc ms) {a N : Nat} {f : Nat → Option Nat} {x : Int32} (i : Nat) (d : decode cc pc = .ok (.aastore, 1)) (ha : h a = some (hQ N f)) (hx : x = nI i) (hi : i < N) (hN : N < 2 ^ 31) (kk : J X B D nL Q (hput h a (hQ N (va_up f i none))) k n (pc + 1) L st) : J X B D nL Q h k n pc L (.null :: .int x :: .ref a :: st) := by
  intro H locs ls hR hS hl
  obtain ⟨cA, k1, k2, k3⟩ := (hR a _ ha).1
  subst hx
  have hin : vp_in (nI i) N := vp_in_nI hi hN
  have ei : (nI i).toNatClampNeg = i := nI_clamp (by omega)
  have hB := hR.BA ha hi
  refine va_WaastN (C := "java/lang/Object") E.1 E.2.1 k3 (k1 N (fun j => va_rf (f j))) (fun h => by cases h) (by show ¬ (nI i < 0 ∨ (arrV _ _ _).slots.size ≤ _); rw [arrV_size]; exact hin) rfl rfl d fun H1 e z oq => ?_
  refine kk H1 _ ls (hR.set hB ⟨cA, k1, k2, ?_⟩ oq) (hS.put z oq hB) hl
  rw [e, ei]
  rw [vp_cell_q, vp_cell_q, arrV_store]
  congr 2
  funext q
  by_cases hq : q = i
  · subst hq
    simp [updV, va_up, va_rf]
  · simp [updV, va_up, hq]
theorem j_newI (E : JE X own cc nL ws ret B E0 D l v mc ms) {x : Int32} (N : Nat) (d : decode cc pc = .ok (.newarray .int, 2)) (hw : Cond.arrayClass .int ∈ ws) (hx : x = nI N) (hN : N < 1000000) (hk : k + 1 ≤ mc) (hs : n + N ≤ ms) (kk : ∀ q : Nat, h q = none → B ≤ q → J X B D nL Q (hput h q (hI N (fun _ => 0))) (k + 1) (n + N) (pc + 2) L (.ref q :: st)) : J X B D nL Q h k n pc L (.int x :: st) := by
  intro H locs ls hR hS hl
  subst hx
  have hBs : B ≤ H.size := Nat.le_trans (je_B E) hS.1
  refine va_newaK (atype := .int) E.1 E.2.1 (E.2.2.2.2.1 _ hw) rfl d rfl (nI_pos (by omega)) (N := N) (nI_clamp (by omega)) (Nat.le_trans (Nat.mul_le_mul_right _ (Nat.le_of_lt hN)) (by decide)) (by rw [je_R E]; exact hk) (by rw [je_R E]; exact hs) rfl fun H1 cA e1 z1 o1 hAr hNm => ?_
  refine kk H.size hR.none hBs H1 locs ls (hR.push hBs ⟨cA, hAr, hNm, ?_⟩ o1) (va_Sgrow hS (by omega) o1) hl
  rw [vp_cell_i]
  exact e1
theorem j_newJ (E : JE X own cc nL ws ret B E0 D l v mc ms) {x : Int32} (N : Nat) (d : decode cc pc = .ok (.newarray .long, 2)) (hw : Cond.arrayClass .long ∈ ws) (hx : x = nI N) (hN : N < 1000000) (hk : k + 1 ≤ mc) (hs : n + N ≤ ms) (kk : ∀ q : Nat, h q = none → B ≤ q → J X B D nL Q (hput h q (hJ N (fun _ => 0))) (k + 1) (n + N) (pc + 2) L (.ref q :: st)) : J X B D nL Q h k n pc L (.int x :: st) := by
  intro H locs ls hR hS hl
  subst hx
  have hBs : B ≤ H.size := Nat.le_trans (je_B E) hS.1
  refine va_newaK (atype := .long) E.1 E.2.1 (E.2.2.2.2.1 _ hw) rfl d rfl (nI_pos (by omega)) (N := N) (nI_clamp (by omega)) (Nat.le_trans (Nat.mul_le_mul_right _ (Nat.le_of_lt hN)) (by decide)) (by rw [je_R E]; exact hk) (by rw [je_R E]; exact hs) rfl fun H1 cA e1 z1 o1 hAr hNm => ?_
  refine kk H.size hR.none hBs H1 locs ls (hR.push hBs ⟨cA, hAr, hNm, ?_⟩ o1) (va_Sgrow hS (by omega) o1) hl
  rw [vp_cell_l]
  exact e1
theorem j_newZ (E : JE X own cc nL ws ret B E0 D l v mc ms) {x : Int32} (N : Nat) (d : decode cc pc = .ok (.newarray .boolean, 2)) (hw : Cond.arrayClass .boolean ∈ ws) (hx : x = nI N) (hN : N < 1000000) (hk : k + 1 ≤ mc) (hs : n + N ≤ ms) (kk : ∀ q : Nat, h q = none → B ≤ q → J X B D nL Q (hput h q (hZ N (fun _ => 0))) (k + 1) (n + N) (pc + 2) L (.ref q :: st)) : J X B D nL Q h k n pc L (.int x :: st) := by
  intro H locs ls hR hS hl
  subst hx
  have hBs : B ≤ H.size := Nat.le_trans (je_B E) hS.1
  refine va_newaK (atype := .boolean) E.1 E.2.1 (E.2.2.2.2.1 _ hw) rfl d rfl (nI_pos (by omega)) (N := N) (nI_clamp (by omega)) (Nat.le_trans (Nat.mul_le_mul_right _ (Nat.le_of_lt hN)) (by decide)) (by rw [je_R E]; exact hk) (by rw [je_R E]; exact hs) rfl fun H1 cA e1 z1 o1 hAr hNm => ?_
  refine kk H.size hR.none hBs H1 locs ls (hR.push hBs ⟨cA, hAr, hNm, ?_⟩ o1) (va_Sgrow hS (by omega) o1) hl
  rw [vp_cell_i]
  exact e1
theorem j_newQ (E : JE X own cc nL ws ret B E0 D l v mc ms) {x : Int32} {index : Nat} (N : Nat) (d : decode cc pc = .ok (.anewarray index, 3)) (hw : Cond.classLink own index "java/lang/Object" ∈ ws) (hx : x = nI N) (hN : N < 1000000) (hk : k + 1 ≤ mc) (hs : n + N ≤ ms) (kk : ∀ q : Nat, h q = none → B ≤ q → J X B D nL Q (hput h q (hQ N (fun _ => none))) (k + 1) (n + N) (pc + 3) L (.ref q :: st)) : J X B D nL Q h k n pc L (.int x :: st) := by
  intro H locs ls hR hS hl
  subst hx
  have hBs : B ≤ H.size := Nat.le_trans (je_B E) hS.1
  have ei : (nI N).toNatClampNeg = N := nI_clamp (by omega)
  refine W.anew E.1 E.2.1 E.2.2.2.1 (E.2.2.2.2.1 _ hw) (va_AO.use E.2.2.2.2.2.2.2.1.1.2.2.2.2.2.2.1) rfl d rfl (nI_pos (by omega)) (by rw [ei]; omega) (by rw [je_R E]; exact hk) (by rw [je_R E, ei]; exact hs) fun cA kA comp f1 f2 f3 f4 => ?_
  rw [ei]
  generalize hH1 : H.push ({ cls := cA, slots := Array.replicate N .null, vm := .none } : Cell) = H1
  have z1 : H1.size = H.size + 1 := by rw [← hH1, Array.size_push]
  have e1 : H1[H.size]? = some (arrV cA N (fun _ => .null)) := by rw [← hH1, Array.getElem?_push_size, ← arrV_new]
  have o1 : ∀ q : Nat, q < H.size → H1[q]? = H[q]? := fun q hq => by rw [← hH1, Array.getElem?_push, if_neg (Nat.ne_of_lt hq)]
  refine kk H.size hR.none hBs H1 locs ls (hR.push hBs ⟨cA, fun N z => ⟨(fun k h => by cases h), kA, f2, comp, f3⟩, ⟨kA, comp, f2, f3, f4, f1⟩, ?_⟩ o1) (va_Sgrow hS (by omega) o1) hl
  rw [vp_cell_q]
  exact e1
theorem j_new (E : JE X own cc nL ws ret B E0 D l v mc ms) {C : String} {T : u_T} {N ci index : Nat} (fs : List Value) (d : decode cc pc = .ok (.new index, 3)) (hin : ∀ w ∈ u_ws C T N, w ∈ ws) (ty : Nat → FieldType) (hty : ∀ k, k < N → parseFieldDescriptor (T k).2.2.1 = some (ty k)) (hcl : Cond.classLink own index C ∈ ws) (hinst : Cond.instantiable C N ∈ ws) (hini : Cond.initialized C ∈ ws) (hc : vwCl[ci]? = some (C, T, N)) (hfs : ∀ j, j < N → defaultValue (ty j) = vp_V fs j) (hk : k + 1 ≤ mc) (hs : n + N ≤ ms) (kk : ∀ q : Nat, h q = none → B ≤ q → J X B D nL Q (hput h q (hO ci fs)) (k + 1) (n + N) (pc + 3) L (.ref q :: st)) : J X B D nL Q h k n pc L st := by
  intro H locs ls hR hS hl
  have hts := E.2.2.2.2.1
  have hBs : B ≤ H.size := Nat.le_trans (je_B E) hS.1
  have hKn := (je_K E).1 ci _ hc
  refine W.newcK E.1 E.2.1 E.2.2.2.1 (hts _ hcl) (hts _ hinst) (hts _ hini) rfl d (by rw [je_R E]; exact hk) (by rw [je_R E]; exact hs) hKn.2.1 rfl fun H1 kC hkC e1 z1 o1 => ?_
  exact kk H.size hR.none hBs H1 locs ls (hR.push hBs (show va_at D vwCl (H.size, .inr (ci, fs)) H1 from ⟨_, hc, (u_born ty hts hin hKn hkC e1 hty).to hfs⟩) o1) (va_Sgrow hS (by omega) o1) hl
theorem j_getE0 (E : JE X own cc nL ws ret B E0 D l v mc ms) {index : Nat} (d : decode cc pc = .ok (.getstatic index, 3)) (hlink : Cond.fieldLink own index "java/util/ArrayList" "DEFAULTCAPACITY_EMPTY_ELEMENTDATA" "[Ljava/lang/Object;" ∈ ws) (kk : J X B D nL Q h k n (pc + 3) L (.ref E0 :: st)) : J X B D nL Q h k n pc L st := fun H locs ls hR hS hl =>
  va_gets E.1 E.2.1 E.2.2.2.2.2.2.2.1.2.2.1 hS E.2.2.2.1 (E.2.2.2.2.1 _ hlink) (fun _ h => h) d (kk H locs ls hR hS hl)
theorem j_cast (E : JE X own cc nL ws ret B E0 D l v mc ms) {C : String} {T : u_T} {N ci index a : Nat} {fs : List Value} (d : decode cc pc = .ok (.checkcast index, 3)) (hlink : Cond.classLink own index C ∈ ws) (hc : vwCl[ci]? = some (C, T, N)) (ha : h a = some (hO ci fs)) (kk : J X B D nL Q h k n (pc + 3) L (.ref a :: st)) : J X B D nL Q h k n pc L (.ref a :: st) := fun H locs ls hR hS hl =>
  va_castS E.1 E.2.1 E.2.2.2.1 (E.2.2.2.2.1 _ hlink) ((je_K E).1 ci _ hc).2 (va_recv (q := (C, T, N)) (je_K E) (hm_P1 (a := a) (e := .inr (ci, fs)) (hR a _ ha).1) hc (q0 := 0) rfl) d (kk H locs ls hR hS hl)
theorem j_castQ (E : JE X own cc nL ws ret B E0 D l v mc ms) {N index a : Nat} {f : Nat → Option Nat} (d : decode cc pc = .ok (.checkcast index, 3)) (hlink : Cond.classLink own index "[Ljava/lang/Object;" ∈ ws) (ha : h a = some (hQ N f)) (kk : J X B D nL Q h k n (pc + 3) L (.ref a :: st)) : J X B D nL Q h k n pc L (.ref a :: st) := by
  intro H locs ls hR hS hl
  obtain ⟨cA, k1, k2, k3⟩ := (hR a _ ha).1
  exact va_castA E.1 E.2.1 E.2.2.2.1 (E.2.2.2.2.1 _ hlink) (D := D) (cl := vwCl) (ws := [(a, .inl (cA, _))]) (hm_P1 k3) 0 rfl (va_nmO (C := "java/lang/Object") k2 (by decide)) d (kk H locs ls hR hS hl)
theorem j_objInit (E : JE X own cc nL ws ret B E0 D l v mc ms) {index a : Nat} (d : decode cc pc = .ok (.invokespecial index, 3)) (hlink : Cond.methodLink own index Lib.objectInit ∈ ws) (hi : Cond.instanceMethod Lib.objectInit ∈ ws) (hcode : Cond.code Lib.objectInit ⟨#[0xb1]⟩ 1 none ∈ ws) (hv : 1 ≤ v) (hcat : (st.map fun x => x.category).sum ≤ 8) (kk : J X B D nL Q h k n (pc + 3) L st) : J X B D nL Q h k n pc L (.ref a :: st) := by
  intro H locs ls hR hS hl
  have hts := E.2.2.2.2.1
  refine W.objInit E.1 E.2.1 E.2.2.2.1 (hts _ hlink) (hts _ hi) (hts _ hcode) rfl (by rw [E.2.2.1]; exact hl.1) rfl d (by rw [je_R E]; exact hv) (by rw [je_R E]; show 2 * 0 + _ + 12 ≤ 64 * v; omega) ?_
  exact W.eq (g2 := F0 (jx_m X) (pc + 3) ls st) rfl (kk H locs ls hR hS hl)
theorem j_mmaxl (E : JE X own cc nL ws ret B E0 D l v mc ms) {index : Nat} {x y : Int64} (d : decode cc pc = .ok (.invokestatic index, 3)) (hlink : Cond.methodLink own index Lib.MathLoose.max_long.x ∈ ws) (hstat : Cond.static Lib.MathLoose.max_long.x ∈ ws) (hini : Cond.initialized "java/lang/Math" ∈ ws) (hcode : Cond.code Lib.MathLoose.max_long.x Lib.MathLoose.max_long.code 4 (some .long) ∈ ws) (hv : 1 ≤ v) (hcat : (st.map fun x => x.category).sum ≤ 8) (hk : k ≤ mc) (hs : n ≤ ms) (kk : J X B D nL Q h k n (pc + 3) L (.long (if y < x then x else y) :: st)) : J X B D nL Q h k n pc L (.long y :: .long x :: st) := by
  intro H locs ls hR hS hl
  have hts := E.2.2.2.2.1
  exact va_mmax_long E.1 E.2.1 (by rw [E.2.2.1]; exact hl.1.symm) E.2.2.2.1 (hts _ hlink) (hts _ hstat) (hts _ hini) (hts _ hcode) (by rw [je_R E]; exact hv) (by rw [je_R E]; show _ + 15 ≤ 64 * v; omega) (by rw [je_R E]; exact hk) (by rw [je_R E]; exact hs) d (kk H locs ls hR hS hl)
theorem j_mminl (E : JE X own cc nL ws ret B E0 D l v mc ms) {index : Nat} {x y : Int64} (d : decode cc pc = .ok (.invokestatic index, 3)) (hlink : Cond.methodLink own index Lib.MathLoose.min_long.x ∈ ws) (hstat : Cond.static Lib.MathLoose.min_long.x ∈ ws) (hini : Cond.initialized "java/lang/Math" ∈ ws) (hcode : Cond.code Lib.MathLoose.min_long.x Lib.MathLoose.min_long.code 4 (some .long) ∈ ws) (hv : 1 ≤ v) (hcat : (st.map fun x => x.category).sum ≤ 8) (hk : k ≤ mc) (hs : n ≤ ms) (kk : J X B D nL Q h k n (pc + 3) L (.long (if y < x then y else x) :: st)) : J X B D nL Q h k n pc L (.long y :: .long x :: st) := by
  intro H locs ls hR hS hl
  have hts := E.2.2.2.2.1
  exact va_mmin_long E.1 E.2.1 (by rw [E.2.2.1]; exact hl.1.symm) E.2.2.2.1 (hts _ hlink) (hts _ hstat) (hts _ hini) (hts _ hcode) (by rw [je_R E]; exact hv) (by rw [je_R E]; show _ + 15 ≤ 64 * v; omega) (by rw [je_R E]; exact hk) (by rw [je_R E]; exact hs) d (kk H locs ls hR hS hl)
theorem j_mmax (E : JE X own cc nL ws ret B E0 D l v mc ms) {index : Nat} {x y : Int32} (d : decode cc pc = .ok (.invokestatic index, 3)) (hlink : Cond.methodLink own index Lib.Math.max.name ∈ ws) (hstat : Cond.static Lib.Math.max.name ∈ ws) (hini : Cond.initialized "java/lang/Math" ∈ ws) (hcode : Cond.code Lib.Math.max.name Lib.Math.max.code 2 (some .int) ∈ ws) (hv : 1 ≤ v) (hcat : (st.map fun x => x.category).sum ≤ 8) (hk : k ≤ mc) (hs : n ≤ ms) (kk : J X B D nL Q h k n (pc + 3) L (.int (if x < y then y else x) :: st)) : J X B D nL Q h k n pc L (.int y :: .int x :: st) := by
  intro H locs ls hR hS hl
  have hts := E.2.2.2.2.1
  exact va_mmax E.1 E.2.1 (by rw [E.2.2.1]; exact hl.1.symm) E.2.2.2.1 (hts _ hlink) (hts _ hstat) (hts _ hini) (hts _ hcode) (by rw [je_R E]; exact hv) (by rw [je_R E]; show _ + 13 ≤ 64 * v; omega) (by rw [je_R E]; exact hk) (by rw [je_R E]; exact hs) d (kk H locs ls hR hS hl)
theorem j_mmin (E : JE X own cc nL ws ret B E0 D l v mc ms) {index : Nat} {x y : Int32} (d : decode cc pc = .ok (.invokestatic index, 3)) (hlink : Cond.methodLink own index Lib.Math.min.name ∈ ws) (hstat : Cond.static Lib.Math.min.name ∈ ws) (hini : Cond.initialized "java/lang/Math" ∈ ws) (hcode : Cond.code Lib.Math.min.name Lib.Math.min.code 2 (some .int) ∈ ws) (hv : 1 ≤ v) (hcat : (st.map fun x => x.category).sum ≤ 8) (hk : k ≤ mc) (hs : n ≤ ms) (kk : J X B D nL Q h k n (pc + 3) L (.int (if y < x then y else x) :: st)) : J X B D nL Q h k n pc L (.int y :: .int x :: st) := by
  intro H locs ls hR hS hl
  have hts := E.2.2.2.2.1
  exact va_mmin E.1 E.2.1 (by rw [E.2.2.1]; exact hl.1.symm) E.2.2.2.1 (hts _ hlink) (hts _ hstat) (hts _ hini) (hts _ hcode) (by rw [je_R E]; exact hv) (by rw [je_R E]; show _ + 13 ≤ 64 * v; omega) (by rw [je_R E]; exact hk) (by rw [je_R E]; exact hs) d (kk H locs ls hR hS hl)
/-- behind a call that returned -/
theorem j_ofRun (E : JE X own cc nL ws ret B E0 D l v mc ms) {mc' ms' : Nat} {post : Option Value → HM → Prop} {a : Array Value} {st st2 : List Value}
    (hr : ∀ (H : Heap) (locs : List Loc) (ls : Array Slot), hm_R (jx_s X) B D h H → va_S (fun q => B ≤ q) (jx_s X).heap H locs → lv_has ls nL L → va_Run (jx_p X) (jx_l X) (jx_e X) (jx_R X) (jx_s X) (jx_m X) (jx_a X) (jx_b X) (jx_t X) (jx_c X) H locs k n mc' ms' (F0 (jx_m X) pc ls st) st2 (cQ B D post a) (fun q => B ≤ q))
    (kk : ∀ (r : Option Value) (h1 : HM), post r h1 → J X B D nL Q h1 (k + mc') (n + ms') (pc + 3) L (r.toList ++ st2)) : J X B D nL Q h k n pc L st := by
  intro H locs ls hR hS hl T hT X0
  obtain ⟨r, st₀, t, T', Lc, h0, X', hL, e1, e2, ⟨⟨r', h1, hv, hp, hb⟩, hz, hk⟩, stp⟩ := hr H locs ls hR hS hl T hT X0
  cases hv
  rw [h0] at hz hk
  have hal : t.vm.Alike (jx_s X).vm := by rw [← e2]; exact X'.warmed.alike.symm
  have hRn : hm_R (jx_s X) B D h1 T'.heap := by rw [e1]; exact hb.moved hal
  have hSn : va_S (fun q => B ≤ q) (jx_s X).heap T'.heap (locs ++ Lc) := ⟨Nat.le_trans hS.1 (by rw [e1]; exact hz), fun q h1 h2 => by rw [e1, hk q (Nat.lt_of_lt_of_le h1 hS.1) h2]; exact hS.2.1 q h1 h2, fun q hq => by
      rcases List.mem_append.mp hq with h | h
      · exact hS.2.2 q h
      · exact hL q h⟩
  obtain ⟨t2, a1, b1⟩ := kk r h1 hp T'.heap (locs ++ Lc) ls hRn hSn hl T' rfl X'
  exact ⟨t2, stp t2 a1, b1⟩
theorem je_P (E : JE X own cc nL ws ret B E0 D l v mc ms) {As : List Value} {H : Heap} {locs : List Loc} (hR : hm_R (jx_s X) B D h H) (hS : va_S (fun q => B ≤ q) (jx_s X).heap H locs) : ∀ U : State, U.heap = H → (jx_s X).WarmedH U.vm → cP l B E0 D As h As.toArray U := by
  intro U hU hW
  have hp := E.2.2.2.2.2.2.2.1
  exact ⟨rfl, ⟨PWv.warm hW hp.1, by rw [hU]; exact Nat.le_trans hp.2.1 hS.1, by rw [hU]; exact (hp.2.2.kept hS.2.1).moved hW.alike⟩, by rw [hU]; exact hR.moved hW.alike⟩
theorem jx_cr {index n0 maxL v' : Nat} (hv : v' + 1 ≤ v) (hm : maxL ≤ 45) : v' + 1 ≤ v ∧ 8 + (maxL + 11) + 64 * v' ≤ 64 * v := ⟨hv, by omega⟩
theorem j_callV (E : JE X own cc nL ws ret B E0 D l v mc ms) {C : String} {T : u_T} {N ci index np maxL v' mc' ms' b : Nat} {y : MethodName} {wsy ws' : List Cond} {cy : ByteArray} {ry : Option FieldType} {As st2 st : List Value} {fs : List Value} {post : Option Value → HM → Prop}
    (hM : CM l B E0 D y wsy v' mc' ms' (.ref b :: As) h post) (hG : GoodIn ws (wsV own index C y wsy)) (hw : wsy = Cond.code y cy maxL ry :: ws') (hd : y.cls = C ∧ y.cls ≠ "java/lang/invoke/MethodHandle" ∧ y.cls ≠ "java/lang/invoke/VarHandle" ∧ (parseMethodDescriptor y.desc).map (fun d => d.parameters.length) = some np) (d : decode cc pc = .ok (.invokevirtual index, 3)) (hv : v' + 1 ≤ v) (hm : maxL ≤ 45) (hc : vwCl[ci]? = some (C, T, N)) (hb : h b = some (hO ci fs)) (hn : As.length = np) (hst : st = As.reverse ++ .ref b :: st2) (hcat : (st2.map fun x => x.category).sum ≤ 8) (hk : k + mc' ≤ mc) (hs : n + ms' ≤ ms)
    (kk : ∀ (r : Option Value) (h1 : HM), post r h1 → J X B D nL Q h1 (k + mc') (n + ms') (pc + 3) L (r.toList ++ st2)) : J X B D nL Q h k n pc L st := by
  refine j_ofRun (a := (Value.ref b :: As).toArray) E (fun H locs ls hR hS hl => ?_) kk
  have hM' : Met (jx_l X) y wsy (rmv v' mc' ms') (cP l B E0 D (.ref b :: As) h) (cQ B D post) mc' ms' (fun q => B ≤ q) := by rw [E.2.2.2.2.2.2.2.2.2]; exact hM
  exact va_runV ⟨E.1, E.2.1, E.2.2.1, E.2.2.2.1, E.2.2.2.2.1⟩ hM' (cwV np E.2.2.2.2.1 hG hw rfl rfl hd (by rw [je_R E]; exact jx_cr (index := 0) (n0 := 0) hv hm)) ⟨cP_blind, va_recv (q := (C, T, N)) (je_K E) (hm_P1 (a := b) (e := .inr (ci, fs)) (hR b _ hb).1) hc (q0 := 0) rfl, je_P E hR hS⟩ rfl hn hl.1 hst (lv_room hcat) d (by rw [je_R E]; exact ⟨hk, hs⟩)
theorem j_callS (E : JE X own cc nL ws ret B E0 D l v mc ms) {index np maxL v' mc' ms' : Nat} {y : MethodName} {wsy ws' : List Cond} {cy : ByteArray} {ry : Option FieldType} {As st2 st : List Value} {post : Option Value → HM → Prop}
    (hM : CM l B E0 D y wsy v' mc' ms' As h post) (hG : GoodIn ws (va_wsS own index y wsy)) (hw : wsy = Cond.code y cy maxL ry :: ws') (hd : y.cls ≠ "java/lang/invoke/MethodHandle" ∧ y.cls ≠ "java/lang/invoke/VarHandle" ∧ (parseMethodDescriptor y.desc).map (fun d => d.parameters.length) = some np) (d : decode cc pc = .ok (.invokestatic index, 3)) (hv : v' + 1 ≤ v) (hm : maxL ≤ 45) (hn : As.length = np) (hst : st = As.reverse ++ st2) (hcat : (st2.map fun x => x.category).sum ≤ 8) (hk : k + mc' ≤ mc) (hs : n + ms' ≤ ms)
    (kk : ∀ (r : Option Value) (h1 : HM), post r h1 → J X B D nL Q h1 (k + mc') (n + ms') (pc + 3) L (r.toList ++ st2)) : J X B D nL Q h k n pc L st := by
  refine j_ofRun (a := As.toArray) E (fun H locs ls hR hS hl => ?_) kk
  have hM' : Met (jx_l X) y wsy (rmv v' mc' ms') (cP l B E0 D As h) (cQ B D post) mc' ms' (fun q => B ≤ q) := by rw [E.2.2.2.2.2.2.2.2.2]; exact hM
  exact va_runS ⟨E.1, E.2.1, E.2.2.1, E.2.2.2.1, E.2.2.2.2.1⟩ hM' (va_cwS np E.2.2.2.2.1 hG hw rfl rfl hd (by rw [je_R E]; exact jx_cr (index := 0) (n0 := 0) hv hm)) ⟨cP_blind, je_P E hR hS⟩ rfl hn hl.1 hst (lv_room hcat) d (by rw [je_R E]; exact ⟨hk, hs⟩)
theorem j_callI (E : JE X own cc nL ws ret B E0 D l v mc ms) {index np maxL v' mc' ms' b : Nat} {y : MethodName} {wsy ws' : List Cond} {cy : ByteArray} {As st2 st : List Value} {post : Option Value → HM → Prop}
    (hM : CM l B E0 D y wsy v' mc' ms' (.ref b :: As) h post) (hG : GoodIn ws wsy) (hw : wsy = Cond.code y cy maxL none :: ws') (hini : Cond.initialized y.cls ∈ ws) (hlk : Cond.methodLink own index y ∈ ws) (him : Cond.instanceMethod y ∈ ws) (hy1 : y.name = "<init>") (hd : y.cls ≠ "java/lang/invoke/MethodHandle" ∧ y.cls ≠ "java/lang/invoke/VarHandle" ∧ (parseMethodDescriptor y.desc).map (fun d => d.parameters.length) = some np) (d : decode cc pc = .ok (.invokespecial index, 3)) (hv : v' + 1 ≤ v) (hm : maxL ≤ 45) (hn : As.length = np) (hst : st = As.reverse ++ .ref b :: st2) (hcat : (st2.map fun x => x.category).sum ≤ 8) (hk : k + mc' ≤ mc) (hs : n + ms' ≤ ms)
    (kk : ∀ (r : Option Value) (h1 : HM), post r h1 → J X B D nL Q h1 (k + mc') (n + ms') (pc + 3) L (r.toList ++ st2)) : J X B D nL Q h k n pc L st := by
  refine j_ofRun (a := (Value.ref b :: As).toArray) E (fun H locs ls hR hS hl => ?_) kk
  have hM' : Met (jx_l X) y wsy (rmv v' mc' ms') (cP l B E0 D (.ref b :: As) h) (cQ B D post) mc' ms' (fun q => B ≤ q) := by rw [E.2.2.2.2.2.2.2.2.2]; exact hM
  have hts := E.2.2.2.2.1
  exact va_runI ⟨E.1, E.2.1, E.2.2.1, E.2.2.2.1, E.2.2.2.2.1⟩ hM' (cwI np hts hG hw rfl rfl (hts _ hini) (hts _ hlk) (hts _ him) hy1 hd (by rw [je_R E]; exact jx_cr (index := 0) (n0 := 0) hv hm)) ⟨cP_blind, je_P E hR hS⟩ rfl hn hl.1 hst (lv_room hcat) d (by rw [je_R E]; exact ⟨hk, hs⟩)
theorem j_callIN (E : JE X own cc nL ws ret B E0 D l v mc ms) {host : String} {index np maxL v' mc' ms' b : Nat} {y : MethodName} {wsy ws' : List Cond} {cy : ByteArray} {As st2 st : List Value} {post : Option Value → HM → Prop}
    (hM : CM l B E0 D y wsy v' mc' ms' (.ref b :: As) h post) (hG : GoodIn ws wsy) (hw : wsy = Cond.code y cy maxL none :: ws') (hini : Cond.initialized y.cls ∈ ws) (hlk : va_Nw (.methodLinkNest own index y host) (jx_s X)) (him : Cond.instanceMethod y ∈ ws) (hy1 : y.name = "<init>") (hd : y.cls ≠ "java/lang/invoke/MethodHandle" ∧ y.cls ≠ "java/lang/invoke/VarHandle" ∧ (parseMethodDescriptor y.desc).map (fun d => d.parameters.length) = some np) (d : decode cc pc = .ok (.invokespecial index, 3)) (hv : v' + 1 ≤ v) (hm : maxL ≤ 45) (hn : As.length = np) (hst : st = As.reverse ++ .ref b :: st2) (hcat : (st2.map fun x => x.category).sum ≤ 8) (hk : k + mc' ≤ mc) (hs : n + ms' ≤ ms)
    (kk : ∀ (r : Option Value) (h1 : HM), post r h1 → J X B D nL Q h1 (k + mc') (n + ms') (pc + 3) L (r.toList ++ st2)) : J X B D nL Q h k n pc L st := by
  refine j_ofRun (a := (Value.ref b :: As).toArray) E (fun H locs ls hR hS hl => ?_) kk
  have hM' : Met (jx_l X) y wsy (rmv v' mc' ms') (cP l B E0 D (.ref b :: As) h) (cQ B D post) mc' ms' (fun q => B ≤ q) := by rw [E.2.2.2.2.2.2.2.2.2]; exact hM
  have hts := E.2.2.2.2.1
  exact va_runIN ⟨E.1, E.2.1, E.2.2.1, E.2.2.2.1, E.2.2.2.2.1⟩ hM' ⟨va_cnB np hts hG hw rfl rfl hlk (hts _ hini) hd (by rw [je_R E]; exact jx_cr (index := 0) (n0 := 0) hv hm), hy1, hts _ him⟩ ⟨cP_blind, je_P E hR hS⟩ rfl hn hl.1 hst (lv_room hcat) d (by rw [je_R E]; exact ⟨hk, hs⟩)
/-- thrown over the frame at pc -/
def JT (X : JC) (B : Nat) (D : va_G) (nL : Nat) (Q : State → Prop) (E : String) (h : HM) (k n pc : Nat) (L : List (Nat × Value)) (st : List Value) : Prop :=
  ∀ (H : Heap) (locs : List Loc) (ls : Array Slot) (q : Addr) (ce : Cell), hm_R (jx_s X) B D h H → va_S (fun q => B ≤ q) (jx_s X).heap H locs → lv_has ls nL L → H[q]? = some ce → ce.vm = .none → (jx_s X).vm.findClass E = some ce.cls →
    vx_W (jx_p X) (jx_l X) (jx_e X) (jx_R X) (jx_s X) (jx_m X) (jx_a X) (jx_b X) (jx_t X) (jx_c X) H locs k n Q (F0 (jx_m X) pc ls st) q
/-- a call of a method that returns or throws -/
theorem j_callX (E : JE X own cc nL ws ret B E0 D l v mc ms) {C : String} {T : u_T} {N ci index np maxL v' mc' ms' b : Nat} {y : MethodName} {wsy ws' : List Cond} {cy : ByteArray} {ry : Option FieldType} {As st2 st : List Value} {fs : List Value} {post : Option Value → HM → Prop} {px : String → HM → Prop}
    (hM : CX l B E0 D y wsy v' mc' ms' (.ref b :: As) h post px) (hG : GoodIn ws (wsV own index C y wsy)) (hw : wsy = Cond.code y cy maxL ry :: ws') (hd : y.cls = C ∧ y.cls ≠ "java/lang/invoke/MethodHandle" ∧ y.cls ≠ "java/lang/invoke/VarHandle" ∧ (parseMethodDescriptor y.desc).map (fun d => d.parameters.length) = some np) (d : decode cc pc = .ok (.invokevirtual index, 3)) (hv : v' + 1 ≤ v) (hm : maxL ≤ 45) (hc : vwCl[ci]? = some (C, T, N)) (hb : h b = some (hO ci fs)) (hn : As.length = np) (hst : st = As.reverse ++ .ref b :: st2) (hcat : (st2.map fun x => x.category).sum ≤ 8) (hk : k + mc' ≤ mc) (hs : n + ms' ≤ ms)
    (kx : ∀ (Ex : String) (h1 : HM), px Ex h1 → JT X B D nL Q Ex h1 (k + mc') (n + ms') pc L st2)
    (kk : ∀ (r : Option Value) (h1 : HM), post r h1 → J X B D nL Q h1 (k + mc') (n + ms') (pc + 3) L (r.toList ++ st2)) : J X B D nL Q h k n pc L st := by
  intro H locs ls hR hS hl T0 hT X0
  have hM' : vx_Met (jx_l X) y wsy (rmv v' mc' ms') (cP l B E0 D (.ref b :: As) h) (cQ B D post) (cX B D px) mc' ms' (fun q => B ≤ q) := by rw [E.2.2.2.2.2.2.2.2.2]; exact hM
  have hr := vx_runV (p := jx_p X) (l := jx_l X) (e := jx_e X) (R := jx_R X) (s := jx_s X) (m := jx_m X) (args := jx_a X) (below := jx_b X) (meth := jx_t X) (c := jx_c X) (H := H) (rest := st2) (locs := locs) (cells := k) (slots := n) (g := F0 (jx_m X) pc ls st) ⟨E.1, E.2.1, E.2.2.1, E.2.2.2.1, E.2.2.2.2.1⟩ hM' (cwV np E.2.2.2.2.1 hG hw rfl rfl hd (by rw [je_R E]; exact jx_cr (index := 0) (n0 := 0) hv hm)) ⟨cP_blind, va_recv (q := (C, T, N)) (je_K E) (hm_P1 (a := b) (e := .inr (ci, fs)) (hR b _ hb).1) hc (q0 := 0) rfl, je_P E hR hS⟩ rfl hn hl.1 hst (lv_room hcat) d (by rw [je_R E]; exact ⟨hk, hs⟩)
  rcases hr T0 hT X0 with ⟨r, st₀, t, T', Lc, h0, X', hL, e1, e2, ⟨⟨r', h1, hv2, hp, hb2⟩, hz, hk2⟩, stp⟩ | ⟨q, st₀, t, T', Lc, Ex, ce, h0, X', hL, e1, e2, ⟨⟨h1, hp, hb2⟩, hz, hk2⟩, hce, hcv, hcl, stp⟩
  · cases hv2
    rw [h0] at hz hk2
    have hal : t.vm.Alike (jx_s X).vm := by rw [← e2]; exact X'.warmed.alike.symm
    have hSn : va_S (fun q => B ≤ q) (jx_s X).heap T'.heap (locs ++ Lc) := ⟨Nat.le_trans hS.1 (by rw [e1]; exact hz), fun q h1 h2 => by rw [e1, hk2 q (Nat.lt_of_lt_of_le h1 hS.1) h2]; exact hS.2.1 q h1 h2, fun q hq => by
      rcases List.mem_append.mp hq with h | h
      · exact hS.2.2 q h
      · exact hL q h⟩
    obtain ⟨t2, a1, b1⟩ := kk r h1 hp T'.heap (locs ++ Lc) ls (by rw [e1]; exact hb2.moved hal) hSn hl T' rfl X'
    exact ⟨t2, stp t2 a1, b1⟩
  · rw [h0] at hz hk2
    have hal : t.vm.Alike (jx_s X).vm := by rw [← e2]; exact X'.warmed.alike.symm
    have hSn : va_S (fun q => B ≤ q) (jx_s X).heap T'.heap (locs ++ Lc) := ⟨Nat.le_trans hS.1 (by rw [e1]; exact hz), fun q h1 h2 => by rw [e1, hk2 q (Nat.lt_of_lt_of_le h1 hS.1) h2]; exact hS.2.1 q h1 h2, fun q hq => by
      rcases List.mem_append.mp hq with h | h
      · exact hS.2.2 q h
      · exact hL q h⟩
    obtain ⟨t2, a1, b1⟩ := kx Ex h1 hp T'.heap (locs ++ Lc) ls q ce (by rw [e1]; exact hb2.moved hal) hSn hl (by rw [e1]; exact hce) hcv hcl T' rfl X'
    exact ⟨t2, stp.trans a1, b1⟩
/-- what was thrown goes on to the caller -/
theorem j_out (E : JE X own cc nL ws ret B E0 D l v mc ms) (htab : ∀ x ∈ (jx_c X).exceptionTable.toList, False) {post : Option Value → HM → Prop} {px : String → HM → Prop} {Ex : String} (hp : px Ex h) (hk : k ≤ mc) (hs : n ≤ ms) : JT X B D nL (jX X B D mc ms post px) Ex h k n pc L st := by
  intro H locs ls q ce hR hS hl hce hcv hcl
  exact vx_out (fun x hx => (htab x hx).elim) E.2.2.2.2.2.1 hce hcv hcl (fun t ht hal => ⟨⟨h, hp, by rw [ht]; exact hR.moved hal⟩, hS.F ht⟩) hS.2.2 hk hs
/-- returns -/
theorem j_iret (E : JE X own cc nL ws ret B E0 D l v mc ms) {post : Option Value → HM → Prop} {x : Int32} (d : decode cc pc = .ok (.ireturn, 1)) {ty : FieldType} (hret : ret = some ty) (hn : narrow ty (.int x) = .int x) (hk : k ≤ mc) (hs : n ≤ ms) (hp : post (some (.int x)) h) : J X B D nL (jQ X B D mc ms post) h k n pc L [.int x] := fun H locs ls hR hS hl =>
  W.widen hk hs (W.zret E.1 E.2.1 (E.2.2.2.2.2.2.1.trans hret) hn (fun t ht hW => ⟨⟨_, h, rfl, hp, by rw [ht]; exact hR.moved hW.alike⟩, hS.F ht⟩) hS.2.2 d E.2.2.2.2.2.1)
theorem j_lret (E : JE X own cc nL ws ret B E0 D l v mc ms) {post : Option Value → HM → Prop} {x : Int64} (d : decode cc pc = .ok (.lreturn, 1)) (hret : ret = some .long) (hk : k ≤ mc) (hs : n ≤ ms) (hp : post (some (.long x)) h) : J X B D nL (jQ X B D mc ms post) h k n pc L [.long x] := fun H locs ls hR hS hl =>
  W.widen hk hs (W.lret E.1 E.2.1 (E.2.2.2.2.2.2.1.trans hret) (fun t ht hW => ⟨⟨_, h, rfl, hp, by rw [ht]; exact hR.moved hW.alike⟩, hS.F ht⟩) hS.2.2 d E.2.2.2.2.2.1)
theorem j_aret (E : JE X own cc nL ws ret B E0 D l v mc ms) {post : Option Value → HM → Prop} {x : Nat} {rt : FieldType} (d : decode cc pc = .ok (.areturn, 1)) (hret : ret = some rt) (hrt : (∃ n, rt = .object n) ∨ ∃ t, rt = .array t) (hk : k ≤ mc) (hs : n ≤ ms) (hp : post (some (.ref x)) h) : J X B D nL (jQ X B D mc ms post) h k n pc L [.ref x] := fun H locs ls hR hS hl =>
  W.widen hk hs (W.aret E.1 E.2.1 (E.2.2.2.2.2.2.1.trans hret) hrt (Or.inr ⟨_, rfl⟩) (fun t ht hW => ⟨⟨_, h, rfl, hp, by rw [ht]; exact hR.moved hW.alike⟩, hS.F ht⟩) hS.2.2 d E.2.2.2.2.2.1)
theorem j_vret (E : JE X own cc nL ws ret B E0 D l v mc ms) {post : Option Value → HM → Prop} (d : decode cc pc = .ok (.return_, 1)) (hret : ret = none) (hk : k ≤ mc) (hs : n ≤ ms) (hp : post none h) : J X B D nL (jQ X B D mc ms post) h k n pc L [] := fun H locs ls hR hS hl =>
  W.widen hk hs (W.vret E.1 E.2.1 (E.2.2.2.2.2.2.1.trans hret) (fun t ht hW => ⟨⟨_, h, rfl, hp, by rw [ht]; exact hR.moved hW.alike⟩, hS.F ht⟩) hS.2.2 d E.2.2.2.2.2.1)
/-- a return in a method that may throw -/
theorem j_x {post : Option Value → HM → Prop} {px : String → HM → Prop} (kk : J X B D nL (jQ X B D mc ms post) h k n pc L st) : J X B D nL (jX X B D mc ms post px) h k n pc L st := fun H locs ls hR hS hl => vx_ret (kk H locs ls hR hS hl)
/-- throw new Ex("text"), in a method of ColourParts -/
theorem j_throw (E : JE X "ColourParts" cc nL ws ret B E0 D l v mc ms) (htab : ∀ x ∈ (jx_c X).exceptionTable.toList, False) {post : Option Value → HM → Prop} {px : String → HM → Prop} {cls text : String} {ik is ic : Nat}
    (d0 : decode cc pc = .ok (.new ik, 3)) (d3 : decode cc (pc + 3) = .ok (.dup, 1)) (d4 : decode cc (pc + 4) = .ok (.ldc is, 2)) (d6 : decode cc (pc + 6) = .ok (.invokespecial ic, 3)) (d9 : decode cc (pc + 9) = .ok (.athrow, 1))
    (hcls : Bundle.fit cls = true) (hk0 : Cond.classLink "ColourParts" ik cls ∈ ws) (hini : Cond.initialized cls ∈ ws) (hstr : (is, text) ∈ jstr) (hat : ∀ w ∈ vx_atS "ColourParts" ic cls ["java/lang/RuntimeException", "java/lang/Exception"], w ∈ ws) (hgood : ∀ w ∈ Cond.classLink "ColourParts" ik cls :: Cond.initialized cls :: vx_atS "ColourParts" ic cls ["java/lang/RuntimeException", "java/lang/Exception"], vx_ot w = true)
    (hv : 6 ≤ v) (hcat : (st.map fun x => x.category).sum ≤ 8) (hk : k + 1 ≤ mc) (hs : n + 6 ≤ ms) (hp : px cls h) : J X B D nL (jX X B D mc ms post px) h k n pc L st := by
  intro H locs ls hR hS hl
  have hts := E.2.2.2.2.1
  have hpw := E.2.2.2.2.2.2.2.1
  obtain ⟨sa, hsa⟩ := hpw.1.2.2.2.1 _ hstr
  exact vx_throwS (names := ["java/lang/RuntimeException", "java/lang/Exception"]) (sa := sa) (text := text) E.1 E.2.1 (by rw [E.2.2.2.2.2.2.2.2.2]; exact hpw.1.1) E.2.2.2.1 hcls (by decide) (hts _ hk0) (hts _ hini) hsa (fun w hw => hts _ (hat w hw)) hgood hpw.2.2.2.1 hpw.2.2.2.2 hS (hl.1.trans E.2.2.1.symm) d0 d3 d4 d6 d9 (fun x hx => (htab x hx).elim) (by rw [je_R E]; show 2 + 3 < v; omega) (by rw [je_R E]; show _ + (13 * (2 + 1) + 43) ≤ 64 * v; omega) (by rw [je_R E]; show k + 1 ≤ mc; omega) (by rw [je_R E]; show n + 6 ≤ ms; omega) E.2.2.2.2.2.1 (fun t hal hz hq => ⟨⟨h, hp, (hR.grow hq).moved hal⟩, Nat.le_trans hS.1 hz, fun q h1 h2 => (hq q (Nat.lt_of_lt_of_le h1 hS.1)).trans (hS.2.1 q h1 h2)⟩) hS.2.2 hk hs
theorem j_aaloadS (E : JE X own cc nL ws ret B E0 D l v mc ms) {a N y : Nat} {f : Nat → Option Nat} {x : Int32} (i : Nat) (d : decode cc pc = .ok (.aaload, 1)) (ha : h a = some (hQ N f)) (hx : x = nI i) (hi : i < N) (hN : N < 2 ^ 31) (hy : f i = some y) (kk : J X B D nL Q h k n (pc + 1) L (.ref y :: st)) : J X B D nL Q h k n pc L (.int x :: .ref a :: st) := j_aaload E i d ha hx hi hN hy kk
theorem j_ldcM (E : JE X own cc nL ws ret B E0 D l v mc ms) {index : Nat} (d : decode cc pc = .ok (.ldc index, 2)) (hlink : Cond.classLink own index "[Ljava/lang/Object;" ∈ ws) (kk : J X B D nL Q h k n (pc + 2) L (.ref (D.2 99 0) :: st)) : J X B D nL Q h k n pc L st := fun H locs ls hR hS hl =>
  va_ldcM E.1 E.2.1 E.2.2.2.1 (E.2.2.2.2.1 _ hlink) E.2.2.2.2.2.2.2.1.1.2.2.2.2.1 d (kk H locs ls hR hS hl)
abbrev gcName : MethodName := ⟨"java/lang/Object", "getClass", "()Ljava/lang/Class;"⟩
theorem j_getC (E : JE X own cc nL ws ret B E0 D l v mc ms) {index a N : Nat} {f : Nat → Option Nat} (d : decode cc pc = .ok (.invokevirtual index, 3)) (hlink : Cond.methodLink own index gcName ∈ ws) (hsel : Cond.selects "[Ljava/lang/Object;" gcName gcName ∈ ws) (hinst : Cond.instanceMethod gcName ∈ ws) (hnat : Cond.native gcName ∈ ws) (hv : 1 ≤ v) (hcat : (st.map fun x => x.category).sum ≤ 8) (ha : h a = some (hQ N f)) (kk : J X B D nL Q h k n (pc + 3) L (.ref (D.2 99 0) :: st)) : J X B D nL Q h k n pc L (.ref a :: st) := by
  intro H locs ls hR hS hl
  have hts := E.2.2.2.2.1
  obtain ⟨cA, k1, k2, k3⟩ := (hR a _ ha).1
  have hpx := E.2.2.2.2.2.2.2.1.1.2.2.2.2
  exact va_getC E.1 E.2.1 (by rw [E.2.2.1]; exact hl.1.symm) E.2.2.2.1 (hts _ hlink) (va_Dc.use hpx.2.1) (hts _ hsel) (hts _ hinst) (hts _ hnat) hpx.1 ⟨_, k3, rfl, va_nmO (C := "java/lang/Object") k2 (by decide)⟩ (by rw [je_R E]; exact hv) (by rw [je_R E]; show _ + 14 ≤ 64 * v; omega) d (kk H locs ls hR hS hl)
/-- System.arraycopy(a0, 0, a1, 0, m) of two arrays of references -/
theorem j_copyQ (E : JE X own cc nL ws ret B E0 D l v mc ms) {index a0 a1 n0 n1 : Nat} {f g : Nat → Option Nat} (M : Nat) (d : decode cc pc = .ok (.invokestatic index, 3)) (hlink : Cond.methodLink own index arraycopyName ∈ ws) (hnat : Cond.native arraycopyName ∈ ws) (hstat : Cond.static arraycopyName ∈ ws) (hini : Cond.initialized "java/lang/System" ∈ ws) (hv : 1 ≤ v) (hcat : (st.map fun x => x.category).sum ≤ 8) (ha0 : h a0 = some (hQ n0 f)) (ha1 : h a1 = some (hQ n1 g)) (hB : B ≤ a1) (h4 : M ≤ n0) (h5 : M ≤ n1) (hM : M < 2 ^ 31) (hel : ∀ i : Nat, i < M → ∀ y : Nat, f i = some y → ∃ ci fs r, h y = some (hO ci fs) ∧ vwCl[ci]? = some r) (kk : J X B D nL Q (hput h a1 (hQ n1 (va_cpy f g 0 0 M))) k n (pc + 3) L st) : J X B D nL Q h k n pc L (.int (nI M) :: .int 0 :: .ref a1 :: .int 0 :: .ref a0 :: st) := by
  intro H locs ls hR hS hl
  have hts := E.2.2.2.2.1
  obtain ⟨c0, p1, p2, hc0⟩ := (hR a0 _ ha0).1
  obtain ⟨c1, r1, r2, hc1⟩ := (hR a1 _ ha1).1
  obtain ⟨-, k0, hk0, cm0, hkk0⟩ := p1 n0 (fun j => va_rf (f j))
  obtain ⟨-, k1, hk1, cm1, hkk1⟩ := r1 n1 (fun j => va_rf (g j))
  have eM : (nI M).toNatClampNeg = M := nI_clamp hM
  have e0 : (0 : Int32).toNatClampNeg = 0 := by decide
  have eT : (nI M).toInt = (M : Int) := nI_toInt hM
  have eA : ∀ ci fs r y, h y = some (hO ci fs) → vwCl[ci]? = some r → va_Any "java/lang/Object" (jx_s X) H y := by
    intro ci fs r y hy hc
    refine va_rAny (je_K E) (hm_P1 (a := y) (e := .inr (ci, fs)) (hR y _ hy).1) (q0 := 0) rfl hc (fun comp cq g1 g2 => ?_)
    obtain ⟨t0, t1, f1, f2, f3⟩ := Cond.castable_spec (va_Nw.use (A := jx_a X) rfl (E.2.2.2.2.2.2.2.1.1.2.2.1 ci r hc))
    cases g2.symm.trans f1
    cases g1.symm.trans f2
    exact f3
  intro T hT X0
  obtain ⟨vm', X', step⟩ := X0.arraycopy E.1 E.2.2.2.1 (hts _ hlink) (hts _ hnat) (hts _ hstat) (hts _ hini) (src := a0) (dst := a1) (cs := vp_cell c0 (n0, .inr (.inr (.inr (.inr f))))) (cd := vp_cell c1 (n1, .inr (.inr (.inr (.inr g))))) (srcPos := 0) (destPos := 0) (n := nI M) (by rw [hT]; exact hc0) (by rw [hT]; exact hc1)
    (fun _ h => by cases h) (fun _ h => by cases h) (fun h => by cases h) (fun h => by cases h) hk0 hk1 hkk0 hkk1 rfl (by decide) (by decide) (nI_pos hM)
    (by rw [eT]; show ¬ (0 : Int) + _ > ((arrV c0 n0 (fun j => va_rf (f j))).slots.size : Int); rw [arrV_size]; omega)
    (by rw [eT]; show ¬ (0 : Int) + _ > ((arrV c1 n1 (fun j => va_rf (g j))).slots.size : Int); rw [arrV_size]; omega)
    (fun vm₁ hal i hi => by
      rw [eM] at hi
      have e : (vp_cell c0 (n0, .inr (.inr (.inr (.inr f))))).slots.getD ((0 : Int32).toNatClampNeg + i) .null = va_rf (f i) := by
        rw [e0, Nat.zero_add]
        show (arrV c0 n0 (fun j => va_rf (f j))).slots.getD _ _ = _
        rw [Array.getD_eq_getD_getElem?, arrV_read _ _ (by omega)]
        rfl
      rw [e]
      cases hy : f i with
      | none => exact ⟨rfl, trivial⟩
      | some y =>
        obtain ⟨ci, fs, rr, hy1, hy2⟩ := hel i hi y hy
        obtain ⟨cellV, g1, g2, ⟨kC, hkC⟩, hasg⟩ := eA ci fs rr y hy1 hy2
        obtain ⟨kA, comp, s1, s2, s3, -⟩ := r2
        cases hk1.symm.trans s1
        cases hkk1.symm.trans s2
        obtain ⟨kE, hkE, -⟩ := Vm.findClass_spec s3
        obtain ⟨kC', hkC', -⟩ := hal.2.2 _ _ hkC
        obtain ⟨kE', hkE', -⟩ := hal.2.2 _ _ hkE
        refine ⟨rfl, cellV, (show T.heap[y]? = some cellV by rw [hT]; exact g1), (fun q h => by rw [h] at g2; cases g2), ⟨kC', hkC'⟩, ?_, ?_⟩
        · exact ⟨kE', hkE'⟩
        · show vm₁.assignable _ _ = true
          rw [hal.assignable]
          exact hasg _ s3)
    (g := F0 (jx_m X) pc ls (.int (nI M) :: .int 0 :: .ref a1 :: .int 0 :: .ref a0 :: st)) rfl (by rw [E.2.2.1]; exact hl.1) (rest := st) rfl (by rw [E.2.1]; exact d) (by rw [je_R E]; exact hv) (by rw [je_R E]; show 2 * 0 + _ + (nativeFrameWords "java/lang/System" "arraycopy" 5 + 11) ≤ 64 * v; have hw : nativeFrameWords "java/lang/System" "arraycopy" 5 ≤ 20 := (by decide); omega)
  have e1 : copied (vp_cell c0 (n0, .inr (.inr (.inr (.inr f))))) (vp_cell c1 (n1, .inr (.inr (.inr (.inr g))))) 0 0 (nI M) = vp_cell c1 (n1, .inr (.inr (.inr (.inr (va_cpy f g 0 0 M))))) := by
    have key := va_copied (fun z => va_rf z) c0 c1 (n0 := n0) (n1 := n1) (sp := 0) (dp := 0) (n := M) f g (by omega)
    rw [vp_cell_q, vp_cell_q, vp_cell_q]
    unfold copied
    rw [eM, e0]
    exact key
  rw [e1] at X' step
  have hl0 : a1 < H.size := (Array.getElem?_eq_some_iff.mp hc1).1
  have hheap : ((T.setVm vm').setCell a1 (vp_cell c1 (n1, .inr (.inr (.inr (.inr (va_cpy f g 0 0 M))))))).heap = H.setIfInBounds a1 (vp_cell c1 (n1, .inr (.inr (.inr (.inr (va_cpy f g 0 0 M)))))) := by rw [← hT]; rfl
  have oq : ∀ q : Nat, q ≠ a1 → (H.setIfInBounds a1 (vp_cell c1 (n1, .inr (.inr (.inr (.inr (va_cpy f g 0 0 M)))))))[q]? = H[q]? := fun q hq => by simp [Array.getElem?_setIfInBounds, Ne.symm hq]
  obtain ⟨t, a9, b9⟩ := kk _ _ ls (hR.set hB ⟨c1, r1, r2, (show (H.setIfInBounds a1 _)[a1]? = some _ by simp [Array.getElem?_setIfInBounds, hl0])⟩ oq) ⟨by simp; exact hS.1, fun q g1 g2 => by
      rw [oq q (fun e => g2 (by rw [e]; exact hB))]
      exact hS.2.1 q g1 g2, fun q hq => by
      rcases List.mem_append.mp hq with h | h
      · exact hS.2.2 q h
      · obtain ⟨z, -, hz⟩ := List.mem_map.mp h
        rw [← hz]
        exact hB⟩ hl _ hheap X'
  exact ⟨t, step t a9, b9⟩
end JR
end
section
/-! ArrayList's members -/
def hOb (h : HM) (y : Nat) : Prop := ∃ ci fs r, h y = some (hO ci fs) ∧ vwCl[ci]? = some r
/-- the list at a, its array at e, holds els -/
def AL (E0 : Nat) (h : HM) (a e : Nat) (els : List Nat) : Prop := ∃ (m : Int32) (cap : Nat) (f : Nat → Option Nat), h a = some (hO 0 [.int m, .ref e, .int (nI els.length)]) ∧ h e = some (hQ cap f) ∧ els.length ≤ cap ∧ ((cap = 0 ∧ e = E0) ∨ cap = 10 ∨ cap = 15) ∧ ∀ i, i < els.length → f i = els[i]?
theorem hm_ne {h : HM} {a b : Nat} {o1 o2 : HO} (h1 : h a = some o1) (h2 : h b = some o2) (hn : o1 ≠ o2) : a ≠ b := fun e => hn (Option.some.inj (by rw [← h1, ← h2, e]))
theorem hm_neN {h : HM} {a b : Nat} {o : HO} (h1 : h a = some o) (h2 : h b = none) : a ≠ b := fun e => by rw [e, h2] at h1; cases h1
theorem AL.keep {E0 : Nat} {h h1 : HM} {a e : Nat} {els : List Nat} (H : AL E0 h a e els) (ha : h1 a = h a) (he : h1 e = h e) : AL E0 h1 a e els := by
  obtain ⟨m, cap, f, g1, g2, g3⟩ := H
  exact ⟨m, cap, f, ha.trans g1, he.trans g2, g3⟩
theorem AL.ne {E0 : Nat} {h : HM} {a e : Nat} {els : List Nat} (H : AL E0 h a e els) : a ≠ e := by
  obtain ⟨m, cap, f, g1, g2, -⟩ := H
  exact hm_ne g1 g2 (by intro z; cases z)
/-- nothing else is written -/
def FR (h h1 : HM) (M : Nat → Prop) : Prop := ∀ q, h q ≠ none → ¬ M q → h1 q = h q
theorem hput_hput (h : HM) (a : Nat) (o1 o2 : HO) : hput (hput h a o1) a o2 = hput h a o2 := by
  funext q; by_cases e : q = a <;> simp [hput, e]
theorem hput_none {h : HM} {a q : Nat} {o : HO} (z : hput h a o q = none) : h q = none ∧ q ≠ a := by
  by_cases w : q = a
  · rw [w, hput_eq] at z; cases z
  · rw [hput_ne _ w] at z; exact ⟨z, w⟩
theorem hput_comm (h : HM) {a b : Nat} (o1 o2 : HO) (hn : a ≠ b) : hput (hput h a o1) b o2 = hput (hput h b o2) a o1 := by
  funext q
  by_cases e : q = a
  · by_cases e2 : q = b
    · exact absurd (e.symm.trans e2) hn
    · simp [hput, e, hn]
  · by_cases e2 : q = b
    · subst e2; simp [hput, e]
    · simp [hput, e, e2]
section LISTS
variable {l : Launch} {B E0 : Nat} {D : va_G} {h : HM}
theorem iw_Jx4a65c_size_8abf5_Jx4a65c : ∀ w ∈ u_ws RJx4a65c TJx4a65c 3, w ∈ wsJx4a65c_size_8abf5 := by decide +kernel
theorem c_size (v : Nat) {a e : Nat} {els : List Nat} (H : AL E0 h a e els) : CM l B E0 D yJx4a65c_size_8abf5 wsJx4a65c_size_8abf5 (v + 1) 0 0 [.ref a] h (fun r h1 => r = some (.int (nI els.length)) ∧ h1 = h) := by
  obtain ⟨m, cap, f, ha, he, hc, hk, hf⟩ := H
  refine CM.of (cc := cJx4a65c_size_8abf5) (maxL := 1) (ret := (some .int)) (by decide) rfl (Nat.le_of_ble_eq_true rfl) (fun X E hin => ?_)
  show J X B D 1 _ h 0 0 0 [(0, .ref a)] []
  refine j_aload_n E dJx4a65c_size_8abf5_0 rfl ?_
  refine j_getfield (ref := "java/util/ArrayList") (C := RJx4a65c) (T := TJx4a65c) (N := 3) (ci := 0) E 2 dJx4a65c_size_8abf5_1 iw_Jx4a65c_size_8abf5_Jx4a65c rfl (by decide) (by decide +kernel) rfl (by first | with_reducible assumption | exact hput_eq _ _ _ | exact (hput_ne _ (by first | assumption | exact Ne.symm (by assumption))).trans (by assumption) | exact (hput_ne _ (by first | assumption | exact Ne.symm (by assumption))).trans (hput_eq _ _ _) | exact (hput_ne _ (by first | assumption | exact Ne.symm (by assumption))).trans ((hput_ne _ (by first | assumption | exact Ne.symm (by assumption))).trans (by assumption)) | exact (hput_ne _ (by first | assumption | exact Ne.symm (by assumption))).trans ((hput_ne _ (by first | assumption | exact Ne.symm (by assumption))).trans (hput_eq _ _ _))) rfl ?_
  exact j_iret E dJx4a65c_size_8abf5_4 rfl rfl (by omega) (by omega) ⟨rfl, rfl⟩
theorem iw_Jx4a65c_isEmpty_aae02_Jx4a65c : ∀ w ∈ u_ws RJx4a65c TJx4a65c 3, w ∈ wsJx4a65c_isEmpty_aae02 := by decide +kernel
theorem c_isEmpty (v : Nat) {a e : Nat} {els : List Nat} (H : AL E0 h a e els) (hlen : els.length < 1000) : CM l B E0 D yJx4a65c_isEmpty_aae02 wsJx4a65c_isEmpty_aae02 (v + 1) 0 0 [.ref a] h (fun r h1 => r = some (.int (if els = [] then 1 else 0)) ∧ h1 = h) := by
  obtain ⟨m, cap, f, ha, he, hc, hk, hf⟩ := H
  refine CM.of (cc := cJx4a65c_isEmpty_aae02) (maxL := 1) (ret := (some .boolean)) (by decide) rfl (Nat.le_of_ble_eq_true rfl) (fun X E hin => ?_)
  show J X B D 1 _ h 0 0 0 [(0, .ref a)] []
  refine j_aload_n E dJx4a65c_isEmpty_aae02_0 rfl ?_
  refine j_getfield (ref := "java/util/ArrayList") (C := RJx4a65c) (T := TJx4a65c) (N := 3) (ci := 0) E 2 dJx4a65c_isEmpty_aae02_1 iw_Jx4a65c_isEmpty_aae02_Jx4a65c rfl (by decide) (by decide +kernel) rfl (by first | with_reducible assumption | exact hput_eq _ _ _ | exact (hput_ne _ (by first | assumption | exact Ne.symm (by assumption))).trans (by assumption) | exact (hput_ne _ (by first | assumption | exact Ne.symm (by assumption))).trans (hput_eq _ _ _) | exact (hput_ne _ (by first | assumption | exact Ne.symm (by assumption))).trans ((hput_ne _ (by first | assumption | exact Ne.symm (by assumption))).trans (by assumption)) | exact (hput_ne _ (by first | assumption | exact Ne.symm (by assumption))).trans ((hput_ne _ (by first | assumption | exact Ne.symm (by assumption))).trans (hput_eq _ _ _))) rfl ?_
  refine j_if_ne E (tgt := 11) dJx4a65c_isEmpty_aae02_4 (by decide) (fun c => ?_) (fun c => ?_)
  · have hn : els ≠ [] := fun z => c (by rw [z]; rfl)
    rw [if_neg hn]
    refine j_iconst (x := 0) E dJx4a65c_isEmpty_aae02_11 (by decide) ?_
    exact j_iret E dJx4a65c_isEmpty_aae02_12 rfl rfl (by omega) (by omega) ⟨rfl, rfl⟩
  · have hn : els = [] := by
      cases els with
      | nil => rfl
      | cons x t => exact absurd c (nI_ne0 (Nat.succ_pos _) (by omega))
    rw [if_pos hn]
    refine j_iconst (x := 1) E dJx4a65c_isEmpty_aae02_7 (by decide) ?_
    refine j_goto E (tgt := 12) dJx4a65c_isEmpty_aae02_8 (by decide) ?_
    exact j_iret E dJx4a65c_isEmpty_aae02_12 rfl rfl (by omega) (by omega) ⟨rfl, rfl⟩
theorem c_checkIndex3 (v : Nat) {i n : Nat} {z : Value} (hi : i < n) (hn : n < 2 ^ 31) : CM l B E0 D yJ3_checkIndex_8e157 wsJ3_checkIndex_8e157 (v + 1) 0 0 [.int (nI i), .int (nI n), .null] h (fun r h1 => r = some (.int (nI i)) ∧ h1 = h) := by
  refine CM.of (cc := cJ3_checkIndex_8e157) (maxL := 3) (ret := (some .int)) (by decide) rfl (Nat.le_of_ble_eq_true rfl) (fun X E hin => ?_)
  show J X B D 3 _ h 0 0 0 [(0, .int (nI i)), (1, .int (nI n)), (2, .null)] []
  refine j_iload_n E dJ3_checkIndex_8e157_0 rfl ?_
  refine j_if_lt E (tgt := 9) dJ3_checkIndex_8e157_1 (by decide) (fun c => ?_) (fun c => ?_)
  · exact absurd c (nI_pos (by omega))
  ·
    refine j_iload_n E dJ3_checkIndex_8e157_4 rfl ?_
    refine j_iload_n E dJ3_checkIndex_8e157_5 rfl ?_
    refine j_icmp_lt E (tgt := 16) dJ3_checkIndex_8e157_6 (by decide) (fun c => ?_) (fun c => ?_)
    ·
      refine j_iload_n E dJ3_checkIndex_8e157_16 rfl ?_
      exact j_iret E dJ3_checkIndex_8e157_17 rfl rfl (by omega) (by omega) ⟨rfl, rfl⟩
    · exact absurd (nI_lt hi hn) c
theorem c_checkIndex (v : Nat) {i n : Nat} (hi : i < n) (hn : n < 2 ^ 31) : CM l B E0 D yJ15_checkIndex_7cf53 wsJ15_checkIndex_7cf53 (v + 2) 0 0 [.int (nI i), .int (nI n)] h (fun r h1 => r = some (.int (nI i)) ∧ h1 = h) := by
  refine CM.of (cc := cJ15_checkIndex_7cf53) (maxL := 2) (ret := (some .int)) (by decide) rfl (Nat.le_of_ble_eq_true rfl) (fun X E hin => ?_)
  show J X B D 2 _ h 0 0 0 [(0, .int (nI i)), (1, .int (nI n))] []
  refine j_iload_n E dJ15_checkIndex_7cf53_0 rfl ?_
  refine j_iload_n E dJ15_checkIndex_7cf53_1 rfl ?_
  refine j_null E dJ15_checkIndex_7cf53_2 ?_
  refine j_callS (np := 3) E (c_checkIndex3 v (z := .null) hi hn) gJ15_checkIndex_7cf53_J3_checkIndex_8e157 rfl ⟨by decide, by decide, by decide +kernel⟩ dJ15_checkIndex_7cf53_3 (by omega) (by decide) rfl rfl (Nat.le_of_ble_eq_true rfl) (by omega) (by omega) (fun r h1 p => ?_)
  obtain ⟨rfl, rfl⟩ := p
  exact j_iret E dJ15_checkIndex_7cf53_6 rfl rfl (by omega) (by omega) ⟨rfl, rfl⟩
theorem iw_Jx4a65c_elementData_915e3_Jx4a65c : ∀ w ∈ u_ws RJx4a65c TJx4a65c 3, w ∈ wsJx4a65c_elementData_915e3 := by decide +kernel
theorem c_elementData (v : Nat) {a e i : Nat} {els : List Nat} (H : AL E0 h a e els) (hi : i < els.length) (hlen : els.length < 1000) : CM l B E0 D yJx4a65c_elementData_915e3 wsJx4a65c_elementData_915e3 (v + 1) 0 0 [.ref a, .int (nI i)] h (fun r h1 => r = some (.ref els[i]) ∧ h1 = h) := by
  obtain ⟨m, cap, f, ha, he, hc, hk, hf⟩ := H
  have hN : cap < 2 ^ 31 := by omega
  refine CM.of (cc := cJx4a65c_elementData_915e3) (maxL := 2) (ret := (some (.object "java/lang/Object"))) (by decide) rfl (Nat.le_of_ble_eq_true rfl) (fun X E hin => ?_)
  show J X B D 2 _ h 0 0 0 [(0, .ref a), (1, .int (nI i))] []
  refine j_aload_n E dJx4a65c_elementData_915e3_0 rfl ?_
  refine j_getfield (ref := "java/util/ArrayList") (C := RJx4a65c) (T := TJx4a65c) (N := 3) (ci := 0) E 1 dJx4a65c_elementData_915e3_1 iw_Jx4a65c_elementData_915e3_Jx4a65c rfl (by decide) (by decide +kernel) rfl (by first | with_reducible assumption | exact hput_eq _ _ _ | exact (hput_ne _ (by first | assumption | exact Ne.symm (by assumption))).trans (by assumption) | exact (hput_ne _ (by first | assumption | exact Ne.symm (by assumption))).trans (hput_eq _ _ _) | exact (hput_ne _ (by first | assumption | exact Ne.symm (by assumption))).trans ((hput_ne _ (by first | assumption | exact Ne.symm (by assumption))).trans (by assumption)) | exact (hput_ne _ (by first | assumption | exact Ne.symm (by assumption))).trans ((hput_ne _ (by first | assumption | exact Ne.symm (by assumption))).trans (hput_eq _ _ _))) rfl ?_
  refine j_iload_n E dJx4a65c_elementData_915e3_4 rfl ?_
  refine j_aaloadS E (y := els[i]) i dJx4a65c_elementData_915e3_5 he rfl (by omega) hN ((hf i hi).trans (List.getElem?_eq_getElem hi)) ?_
  exact j_aret E dJx4a65c_elementData_915e3_6 rfl (Or.inl ⟨_, rfl⟩) (by omega) (by omega) ⟨rfl, rfl⟩
theorem iw_Jx4a65c_get_915e3_Jx4a65c : ∀ w ∈ u_ws RJx4a65c TJx4a65c 3, w ∈ wsJx4a65c_get_915e3 := by decide +kernel
theorem c_get (v : Nat) {a e i : Nat} {els : List Nat} (H : AL E0 h a e els) (hi : i < els.length) (hlen : els.length < 1000) : CM l B E0 D yJx4a65c_get_915e3 wsJx4a65c_get_915e3 (v + 3) 0 0 [.ref a, .int (nI i)] h (fun r h1 => r = some (.ref els[i]) ∧ h1 = h) := by
  have H0 := H
  obtain ⟨m, cap, f, ha, he, hc, hk, hf⟩ := H
  refine CM.of (cc := cJx4a65c_get_915e3) (maxL := 2) (ret := (some (.object "java/lang/Object"))) (by decide) rfl (Nat.le_of_ble_eq_true rfl) (fun X E hin => ?_)
  show J X B D 2 _ h 0 0 0 [(0, .ref a), (1, .int (nI i))] []
  refine j_iload_n E dJx4a65c_get_915e3_0 rfl ?_
  refine j_aload_n E dJx4a65c_get_915e3_1 rfl ?_
  refine j_getfield (ref := "java/util/ArrayList") (C := RJx4a65c) (T := TJx4a65c) (N := 3) (ci := 0) E 2 dJx4a65c_get_915e3_2 iw_Jx4a65c_get_915e3_Jx4a65c rfl (by decide) (by decide +kernel) rfl (by first | with_reducible assumption | exact hput_eq _ _ _ | exact (hput_ne _ (by first | assumption | exact Ne.symm (by assumption))).trans (by assumption) | exact (hput_ne _ (by first | assumption | exact Ne.symm (by assumption))).trans (hput_eq _ _ _) | exact (hput_ne _ (by first | assumption | exact Ne.symm (by assumption))).trans ((hput_ne _ (by first | assumption | exact Ne.symm (by assumption))).trans (by assumption)) | exact (hput_ne _ (by first | assumption | exact Ne.symm (by assumption))).trans ((hput_ne _ (by first | assumption | exact Ne.symm (by assumption))).trans (hput_eq _ _ _))) rfl ?_
  refine j_callS (np := 2) E (c_checkIndex v hi (by omega)) gJx4a65c_get_915e3_J15_checkIndex_7cf53 rfl ⟨by decide, by decide, by decide +kernel⟩ dJx4a65c_get_915e3_5 (by omega) (by decide) rfl rfl (Nat.le_of_ble_eq_true rfl) (by omega) (by omega) (fun r h1 p => ?_)
  obtain ⟨rfl, rfl⟩ := p
  refine j_pop E dJx4a65c_get_915e3_8 rfl ?_
  refine j_aload_n E dJx4a65c_get_915e3_9 rfl ?_
  refine j_iload_n E dJx4a65c_get_915e3_10 rfl ?_
  refine j_callV (np := 1) (C := RJx4a65c) (T := TJx4a65c) (N := 3) (ci := 0) E (c_elementData v H0 hi hlen) gJx4a65c_get_915e3_Jx4a65c_elementData_915e3 rfl ⟨rfl, by decide, by decide, by decide +kernel⟩ dJx4a65c_get_915e3_11 (by omega) (by decide) rfl (by first | with_reducible assumption | exact hput_eq _ _ _ | exact (hput_ne _ (by first | assumption | exact Ne.symm (by assumption))).trans (by assumption) | exact (hput_ne _ (by first | assumption | exact Ne.symm (by assumption))).trans (hput_eq _ _ _) | exact (hput_ne _ (by first | assumption | exact Ne.symm (by assumption))).trans ((hput_ne _ (by first | assumption | exact Ne.symm (by assumption))).trans (by assumption)) | exact (hput_ne _ (by first | assumption | exact Ne.symm (by assumption))).trans ((hput_ne _ (by first | assumption | exact Ne.symm (by assumption))).trans (hput_eq _ _ _))) rfl rfl (Nat.le_of_ble_eq_true rfl) (by omega) (by omega) (fun r h1 p => ?_)
  obtain ⟨rfl, rfl⟩ := p
  exact j_aret E dJx4a65c_get_915e3_14 rfl (Or.inl ⟨_, rfl⟩) (by omega) (by omega) ⟨rfl, rfl⟩
theorem c_acInit (v : Nat) {a ci : Nat} {fs : List Value} (ha : h a = some (hO ci fs)) : CM l B E0 D yJxa1e45_init_da8c8 wsJxa1e45_init_da8c8 (v + 1) 0 0 [.ref a] h (fun r h1 => r = none ∧ h1 = h) := by
  refine CM.of (cc := cJxa1e45_init_da8c8) (maxL := 1) (ret := none) (by decide) rfl (Nat.le_of_ble_eq_true rfl) (fun X E hin => ?_)
  show J X B D 1 _ h 0 0 0 [(0, .ref a)] []
  refine j_aload_n E dJxa1e45_init_da8c8_0 rfl ?_
  refine j_objInit E dJxa1e45_init_da8c8_1 (by decide +kernel) (by decide +kernel) (by decide +kernel) (by omega) (Nat.le_of_ble_eq_true rfl) ?_
  exact j_vret E dJxa1e45_init_da8c8_4 rfl (by omega) (by omega) ⟨rfl, rfl⟩
theorem iw_Jxc12de_init_da8c8_Jx4a65c : ∀ w ∈ u_ws RJx4a65c TJx4a65c 3, w ∈ wsJxc12de_init_da8c8 := by decide +kernel
theorem c_alInit0 (v : Nat) {a : Nat} {m : Int32} {x y : Value} (ha : h a = some (hO 0 [.int m, x, y])) : CM l B E0 D yJxc12de_init_da8c8 wsJxc12de_init_da8c8 (v + 2) 0 0 [.ref a] h (fun r h1 => r = none ∧ h1 = hput h a (hO 0 [.int 0, x, y])) := by
  refine CM.of (cc := cJxc12de_init_da8c8) (maxL := 1) (ret := none) (by decide) rfl (Nat.le_of_ble_eq_true rfl) (fun X E hin => ?_)
  show J X B D 1 _ h 0 0 0 [(0, .ref a)] []
  refine j_aload_n E dJxc12de_init_da8c8_0 rfl ?_
  refine j_callI (np := 0) E (c_acInit v ha) gJxc12de_init_da8c8_Jxa1e45_init_da8c8 rfl (by decide +kernel) (by decide +kernel) (by decide +kernel) rfl ⟨by decide, by decide, by decide +kernel⟩ dJxc12de_init_da8c8_1 (by omega) (by decide) rfl rfl (Nat.le_of_ble_eq_true rfl) (by omega) (by omega) (fun r h1 p => ?_)
  obtain ⟨rfl, rfl⟩ := p
  refine j_aload_n E dJxc12de_init_da8c8_4 rfl ?_
  refine j_iconst (x := 0) E dJxc12de_init_da8c8_5 (by decide) ?_
  refine j_putfield (ref := "java/util/AbstractList") (C := RJx4a65c) (T := TJx4a65c) (N := 3) (ci := 0) E 0 dJxc12de_init_da8c8_6 iw_Jxc12de_init_da8c8_Jx4a65c tyJx4a65c tyJx4a65c_ok nmJx4a65c rfl (by decide) (by decide +kernel) rfl rfl rfl rfl (by first | with_reducible assumption | exact hput_eq _ _ _ | exact (hput_ne _ (by first | assumption | exact Ne.symm (by assumption))).trans (by assumption) | exact (hput_ne _ (by first | assumption | exact Ne.symm (by assumption))).trans (hput_eq _ _ _) | exact (hput_ne _ (by first | assumption | exact Ne.symm (by assumption))).trans ((hput_ne _ (by first | assumption | exact Ne.symm (by assumption))).trans (by assumption)) | exact (hput_ne _ (by first | assumption | exact Ne.symm (by assumption))).trans ((hput_ne _ (by first | assumption | exact Ne.symm (by assumption))).trans (hput_eq _ _ _))) (Nat.le_of_ble_eq_true rfl) ?_
  exact j_vret E dJxc12de_init_da8c8_9 rfl (by omega) (by omega) ⟨rfl, rfl⟩
theorem iw_Jx4a65c_init_da8c8_Jx4a65c : ∀ w ∈ u_ws RJx4a65c TJx4a65c 3, w ∈ wsJx4a65c_init_da8c8 := by decide +kernel
theorem c_alInit (v : Nat) {a : Nat} {m : Int32} {x y : Value} (ha : h a = some (hO 0 [.int m, x, y])) : CM l B E0 D yJx4a65c_init_da8c8 wsJx4a65c_init_da8c8 (v + 3) 0 0 [.ref a] h (fun r h1 => r = none ∧ h1 = hput h a (hO 0 [.int 0, .ref E0, y])) := by
  refine CM.of (cc := cJx4a65c_init_da8c8) (maxL := 1) (ret := none) (by decide) rfl (Nat.le_of_ble_eq_true rfl) (fun X E hin => ?_)
  show J X B D 1 _ h 0 0 0 [(0, .ref a)] []
  refine j_aload_n E dJx4a65c_init_da8c8_0 rfl ?_
  refine j_callI (np := 0) E (c_alInit0 v ha) gJx4a65c_init_da8c8_Jxc12de_init_da8c8 rfl (by decide +kernel) (by decide +kernel) (by decide +kernel) rfl ⟨by decide, by decide, by decide +kernel⟩ dJx4a65c_init_da8c8_1 (by omega) (by decide) rfl rfl (Nat.le_of_ble_eq_true rfl) (by omega) (by omega) (fun r h1 p => ?_)
  obtain ⟨rfl, rfl⟩ := p
  refine j_aload_n E dJx4a65c_init_da8c8_4 rfl ?_
  refine j_getE0 E dJx4a65c_init_da8c8_5 (by decide +kernel) ?_
  refine j_putfield (ref := "java/util/ArrayList") (C := RJx4a65c) (T := TJx4a65c) (N := 3) (ci := 0) E 1 dJx4a65c_init_da8c8_8 iw_Jx4a65c_init_da8c8_Jx4a65c tyJx4a65c tyJx4a65c_ok nmJx4a65c rfl (by decide) (by decide +kernel) rfl rfl rfl rfl (by first | with_reducible assumption | exact hput_eq _ _ _ | exact (hput_ne _ (by first | assumption | exact Ne.symm (by assumption))).trans (by assumption) | exact (hput_ne _ (by first | assumption | exact Ne.symm (by assumption))).trans (hput_eq _ _ _) | exact (hput_ne _ (by first | assumption | exact Ne.symm (by assumption))).trans ((hput_ne _ (by first | assumption | exact Ne.symm (by assumption))).trans (by assumption)) | exact (hput_ne _ (by first | assumption | exact Ne.symm (by assumption))).trans ((hput_ne _ (by first | assumption | exact Ne.symm (by assumption))).trans (hput_eq _ _ _))) (Nat.le_of_ble_eq_true rfl) ?_
  exact j_vret E dJx4a65c_init_da8c8_11 rfl (by omega) (by omega) ⟨rfl, by funext q; by_cases e : q = a <;> simp [hput, e]⟩
theorem c_newLength (v : Nat) : CM l B E0 D yJ8_newLength_cabcc wsJ8_newLength_cabcc (v + 1) 0 0 [.int 10, .int 1, .int 5] h (fun r h1 => r = some (.int 15) ∧ h1 = h) := by
  refine CM.of (cc := cJ8_newLength_cabcc) (maxL := 4) (ret := (some .int)) (by decide) rfl (Nat.le_of_ble_eq_true rfl) (fun X E hin => ?_)
  show J X B D 4 _ h 0 0 0 [(0, .int 10), (1, .int 1), (2, .int 5)] []
  refine j_iload_n E dJ8_newLength_cabcc_0 rfl ?_
  refine j_iload_n E dJ8_newLength_cabcc_1 rfl ?_
  refine j_iload_n E dJ8_newLength_cabcc_2 rfl ?_
  refine j_mmax E dJ8_newLength_cabcc_3 (by decide +kernel) (by decide +kernel) (by decide +kernel) (by decide +kernel) (by omega) (Nat.le_of_ble_eq_true rfl) (by omega) (by omega) ?_
  refine J.topi (x' := 5) (by decide) ?_
  refine j_iadd E dJ8_newLength_cabcc_6 ?_
  refine J.topi (x' := 15) (by decide) ?_
  refine j_istore_n E dJ8_newLength_cabcc_7 (by decide) ?_
  refine j_iconst (x := 0) E dJ8_newLength_cabcc_8 (by decide) ?_
  refine j_iload_n E dJ8_newLength_cabcc_9 rfl ?_
  refine j_icmp_ge E (tgt := 21) dJ8_newLength_cabcc_10 (by decide) (fun c => ?_) (fun c => ?_)
  · exact absurd c (by decide)
  ·
    refine j_iload_n E dJ8_newLength_cabcc_13 rfl ?_
    refine j_ldc E (x := 2147483639) dJ8_newLength_cabcc_14 (by decide +kernel) ?_
    refine j_icmp_gt E (tgt := 21) dJ8_newLength_cabcc_16 (by decide) (fun c => ?_) (fun c => ?_)
    · exact absurd c (by decide)
    ·
      refine j_iload_n E dJ8_newLength_cabcc_19 rfl ?_
      exact j_iret E dJ8_newLength_cabcc_20 rfl rfl (by omega) (by omega) ⟨rfl, rfl⟩
theorem c_copyOf3 (v : Nat) {a n n0 : Nat} {f : Nat → Option Nat} (ha : h a = some (hQ n0 f)) (hn : n0 ≤ n) (hN : n < 1000) (hel : ∀ i : Nat, i < n0 → ∀ y : Nat, f i = some y → hOb h y) : CM l B E0 D yJ7_copyOf_6403c wsJ7_copyOf_6403c (v + 1) 1 n [.ref a, .int (nI n), .ref (D.2 99 0)] h (fun r h1 => ∃ (q : Nat) (g : Nat → Option Nat), r = some (.ref q) ∧ h q = none ∧ B ≤ q ∧ h1 = hput h q (hQ n g) ∧ ∀ i, i < n0 → g i = f i) := by
  refine CM.of (cc := cJ7_copyOf_6403c) (maxL := 4) (ret := (some (.array (.object "java/lang/Object")))) (by decide) rfl (Nat.le_of_ble_eq_true rfl) (fun X E hin => ?_)
  show J X B D 4 _ h 0 0 0 [(0, .ref a), (1, .int (nI n)), (2, .ref (D.2 99 0))] []
  refine j_aload_n E dJ7_copyOf_6403c_0 rfl ?_
  refine j_ldcM E dJ7_copyOf_6403c_1 (by decide +kernel) ?_
  refine j_acmp_ne E (tgt := 13) dJ7_copyOf_6403c_3 (by decide) (fun c => ?_) (fun c => ?_)
  · exact absurd rfl c
  ·
    refine j_iload_n E dJ7_copyOf_6403c_6 rfl ?_
    refine j_newQ E n dJ7_copyOf_6403c_7 (by decide +kernel) rfl (by omega) (by omega) (by omega) (fun q nq bq => ?_)
    refine j_goto E (tgt := 24) dJ7_copyOf_6403c_10 (by decide) ?_
    have haq : a ≠ q := hm_neN ha nq
    refine j_astore_n E dJ7_copyOf_6403c_24 (by decide) ?_
    refine j_aload_n E dJ7_copyOf_6403c_25 rfl ?_
    refine j_iconst (x := 0) E dJ7_copyOf_6403c_26 (by decide) ?_
    refine j_aload_n E dJ7_copyOf_6403c_27 rfl ?_
    refine j_iconst (x := 0) E dJ7_copyOf_6403c_28 (by decide) ?_
    refine j_aload_n E dJ7_copyOf_6403c_29 rfl ?_
    refine j_alen E dJ7_copyOf_6403c_30 (by first | with_reducible assumption | exact hput_eq _ _ _ | exact (hput_ne _ (by first | assumption | exact Ne.symm (by assumption))).trans (by assumption) | exact (hput_ne _ (by first | assumption | exact Ne.symm (by assumption))).trans (hput_eq _ _ _) | exact (hput_ne _ (by first | assumption | exact Ne.symm (by assumption))).trans ((hput_ne _ (by first | assumption | exact Ne.symm (by assumption))).trans (by assumption)) | exact (hput_ne _ (by first | assumption | exact Ne.symm (by assumption))).trans ((hput_ne _ (by first | assumption | exact Ne.symm (by assumption))).trans (hput_eq _ _ _))) ?_
    refine j_iload_n E dJ7_copyOf_6403c_31 rfl ?_
    refine j_mmin E dJ7_copyOf_6403c_32 (by decide +kernel) (by decide +kernel) (by decide +kernel) (by decide +kernel) (by omega) (Nat.le_of_ble_eq_true rfl) (by omega) (by omega) ?_
    refine J.topi (x' := nI n0) (if_neg (nI_nlt hn (by omega))) ?_
    refine j_copyQ E n0 dJ7_copyOf_6403c_35 (by decide +kernel) (by decide +kernel) (by decide +kernel) (by decide +kernel) (by omega) (Nat.le_of_ble_eq_true rfl) ((hput_ne _ haq).trans ha) (hput_eq _ _ _) bq (Nat.le_refl _) hn (by omega) ?_ ?_
    · intro i hi y hy
      obtain ⟨ci, fs, rr, h1, h2⟩ := hel i hi y hy
      exact ⟨ci, fs, rr, (hput_ne _ (hm_neN h1 nq)).trans h1, h2⟩
    · refine J.hp (hput_hput _ _ _ _) ?_
      refine j_aload_n E dJ7_copyOf_6403c_38 rfl ?_
      exact j_aret E dJ7_copyOf_6403c_39 rfl (Or.inr ⟨_, rfl⟩) (by omega) (by omega) ⟨q, _, rfl, nq, bq, rfl, fun i hi => by rw [pk_cpy_in (Nat.zero_le _) (by omega), Nat.zero_add, Nat.sub_zero]⟩
theorem c_copyOf2 (v : Nat) {a n n0 : Nat} {f : Nat → Option Nat} (ha : h a = some (hQ n0 f)) (hn : n0 ≤ n) (hN : n < 1000) (hel : ∀ i : Nat, i < n0 → ∀ y : Nat, f i = some y → hOb h y) : CM l B E0 D yJ7_copyOf_1904c wsJ7_copyOf_1904c (v + 2) 1 n [.ref a, .int (nI n)] h (fun r h1 => ∃ (q : Nat) (g : Nat → Option Nat), r = some (.ref q) ∧ h q = none ∧ B ≤ q ∧ h1 = hput h q (hQ n g) ∧ ∀ i, i < n0 → g i = f i) := by
  refine CM.of (cc := cJ7_copyOf_1904c) (maxL := 2) (ret := (some (.array (.object "java/lang/Object")))) (by decide) rfl (Nat.le_of_ble_eq_true rfl) (fun X E hin => ?_)
  show J X B D 2 _ h 0 0 0 [(0, .ref a), (1, .int (nI n))] []
  refine j_aload_n E dJ7_copyOf_1904c_0 rfl ?_
  refine j_iload_n E dJ7_copyOf_1904c_1 rfl ?_
  refine j_aload_n E dJ7_copyOf_1904c_2 rfl ?_
  refine j_getC E dJ7_copyOf_1904c_3 (by decide +kernel) (by decide +kernel) (by decide +kernel) (by decide +kernel) (by omega) (Nat.le_of_ble_eq_true rfl) ha ?_
  refine j_callS (np := 3) E (c_copyOf3 v ha hn hN hel) gJ7_copyOf_1904c_J7_copyOf_6403c rfl ⟨by decide, by decide, by decide +kernel⟩ dJ7_copyOf_1904c_6 (by omega) (by decide) rfl rfl (Nat.le_of_ble_eq_true rfl) (by omega) (by omega) (fun r h1 p => ?_)
  obtain ⟨q, g, rfl, p2, p3, rfl, p5⟩ := p
  exact j_aret E dJ7_copyOf_1904c_9 rfl (Or.inr ⟨_, rfl⟩) (by omega) (by omega) ⟨q, g, rfl, p2, p3, rfl, p5⟩
theorem iw_Jx4a65c_grow_92f84_Jx4a65c : ∀ w ∈ u_ws RJx4a65c TJx4a65c 3, w ∈ wsJx4a65c_grow_92f84 := by decide +kernel
theorem c_growI (v : Nat) {a e n : Nat} {m : Int32} {f : Nat → Option Nat} (ha : h a = some (hO 0 [.int m, .ref e, .int (nI n)])) (he : h e = some (hQ n f)) (hn : (n = 0 ∧ e = E0) ∨ n = 10) (hel : ∀ i : Nat, i < n → ∀ y : Nat, f i = some y → hOb h y) : CM l B E0 D yJx4a65c_grow_92f84 wsJx4a65c_grow_92f84 (v + 3) 1 15 [.ref a, .int (nI (n + 1))] h (fun r h1 => ∃ (q : Nat) (g : Nat → Option Nat) (cap : Nat), r = some (.ref q) ∧ h q = none ∧ B ≤ q ∧ (cap = 10 ∨ cap = 15) ∧ n < cap ∧ h1 = hput (hput h q (hQ cap g)) a (hO 0 [.int m, .ref q, .int (nI n)]) ∧ ∀ i, i < n → g i = f i) := by
  have hae : a ≠ e := hm_ne ha he (by intro z; cases z)
  refine CM.of (cc := cJx4a65c_grow_92f84) (maxL := 4) (ret := (some (.array (.object "java/lang/Object")))) (by decide) rfl (Nat.le_of_ble_eq_true rfl) (fun X E hin => ?_)
  show J X B D 4 _ h 0 0 0 [(0, .ref a), (1, .int (nI (n + 1)))] []
  rcases hn with ⟨rfl, rfl⟩ | rfl
  ·
    refine j_aload_n E dJx4a65c_grow_92f84_0 rfl ?_
    refine j_getfield (ref := "java/util/ArrayList") (C := RJx4a65c) (T := TJx4a65c) (N := 3) (ci := 0) E 1 dJx4a65c_grow_92f84_1 iw_Jx4a65c_grow_92f84_Jx4a65c rfl (by decide) (by decide +kernel) rfl (by first | with_reducible assumption | exact hput_eq _ _ _ | exact (hput_ne _ (by first | assumption | exact Ne.symm (by assumption))).trans (by assumption) | exact (hput_ne _ (by first | assumption | exact Ne.symm (by assumption))).trans (hput_eq _ _ _) | exact (hput_ne _ (by first | assumption | exact Ne.symm (by assumption))).trans ((hput_ne _ (by first | assumption | exact Ne.symm (by assumption))).trans (by assumption)) | exact (hput_ne _ (by first | assumption | exact Ne.symm (by assumption))).trans ((hput_ne _ (by first | assumption | exact Ne.symm (by assumption))).trans (hput_eq _ _ _))) rfl ?_
    refine j_alen E dJx4a65c_grow_92f84_4 (by first | with_reducible assumption | exact hput_eq _ _ _ | exact (hput_ne _ (by first | assumption | exact Ne.symm (by assumption))).trans (by assumption) | exact (hput_ne _ (by first | assumption | exact Ne.symm (by assumption))).trans (hput_eq _ _ _) | exact (hput_ne _ (by first | assumption | exact Ne.symm (by assumption))).trans ((hput_ne _ (by first | assumption | exact Ne.symm (by assumption))).trans (by assumption)) | exact (hput_ne _ (by first | assumption | exact Ne.symm (by assumption))).trans ((hput_ne _ (by first | assumption | exact Ne.symm (by assumption))).trans (hput_eq _ _ _))) ?_
    refine j_istore_n E dJx4a65c_grow_92f84_5 (by decide) ?_
    refine j_iload_n E dJx4a65c_grow_92f84_6 rfl ?_
    refine j_if_gt E (tgt := 20) dJx4a65c_grow_92f84_7 (by decide) (fun c => ?_) (fun c => ?_)
    · exact absurd c (by decide)
    ·
      refine j_aload_n E dJx4a65c_grow_92f84_10 rfl ?_
      refine j_getfield (ref := "java/util/ArrayList") (C := RJx4a65c) (T := TJx4a65c) (N := 3) (ci := 0) E 1 dJx4a65c_grow_92f84_11 iw_Jx4a65c_grow_92f84_Jx4a65c rfl (by decide) (by decide +kernel) rfl (by first | with_reducible assumption | exact hput_eq _ _ _ | exact (hput_ne _ (by first | assumption | exact Ne.symm (by assumption))).trans (by assumption) | exact (hput_ne _ (by first | assumption | exact Ne.symm (by assumption))).trans (hput_eq _ _ _) | exact (hput_ne _ (by first | assumption | exact Ne.symm (by assumption))).trans ((hput_ne _ (by first | assumption | exact Ne.symm (by assumption))).trans (by assumption)) | exact (hput_ne _ (by first | assumption | exact Ne.symm (by assumption))).trans ((hput_ne _ (by first | assumption | exact Ne.symm (by assumption))).trans (hput_eq _ _ _))) rfl ?_
      refine j_getE0 E dJx4a65c_grow_92f84_14 (by decide +kernel) ?_
      refine j_acmp_eq E (tgt := 45) dJx4a65c_grow_92f84_17 (by decide) (fun c => ?_) (fun c => ?_)
      ·
        refine j_aload_n E dJx4a65c_grow_92f84_45 rfl ?_
        refine j_bipush (x := 10) E dJx4a65c_grow_92f84_46 (by decide) ?_
        refine j_iload_n E dJx4a65c_grow_92f84_48 rfl ?_
        refine j_mmax E dJx4a65c_grow_92f84_49 (by decide +kernel) (by decide +kernel) (by decide +kernel) (by decide +kernel) (by omega) (Nat.le_of_ble_eq_true rfl) (by omega) (by omega) ?_
        refine J.topi (x' := nI 10) (by decide) ?_
        refine j_newQ E 10 dJx4a65c_grow_92f84_52 (by decide +kernel) rfl (by omega) (by omega) (by omega) (fun q nq bq => ?_)
        have haq : a ≠ q := hm_neN ha nq
        refine j_dup_x1 E dJx4a65c_grow_92f84_55 rfl rfl ?_
        refine j_putfield (ref := "java/util/ArrayList") (C := RJx4a65c) (T := TJx4a65c) (N := 3) (ci := 0) E 1 dJx4a65c_grow_92f84_56 iw_Jx4a65c_grow_92f84_Jx4a65c tyJx4a65c tyJx4a65c_ok nmJx4a65c rfl (by decide) (by decide +kernel) rfl rfl rfl rfl (by first | with_reducible assumption | exact hput_eq _ _ _ | exact (hput_ne _ (by first | assumption | exact Ne.symm (by assumption))).trans (by assumption) | exact (hput_ne _ (by first | assumption | exact Ne.symm (by assumption))).trans (hput_eq _ _ _) | exact (hput_ne _ (by first | assumption | exact Ne.symm (by assumption))).trans ((hput_ne _ (by first | assumption | exact Ne.symm (by assumption))).trans (by assumption)) | exact (hput_ne _ (by first | assumption | exact Ne.symm (by assumption))).trans ((hput_ne _ (by first | assumption | exact Ne.symm (by assumption))).trans (hput_eq _ _ _))) (Nat.le_of_ble_eq_true rfl) ?_
        refine J.wide (k' := 1) (n' := 15) (by omega) (by omega) ?_
        exact j_aret E dJx4a65c_grow_92f84_59 rfl (Or.inr ⟨_, rfl⟩) (by omega) (by omega) ⟨q, _, 10, rfl, nq, bq, Or.inl rfl, by decide, rfl, fun i hi => absurd hi (Nat.not_lt_zero i)⟩
      · exact absurd rfl c
  ·
    refine j_aload_n E dJx4a65c_grow_92f84_0 rfl ?_
    refine j_getfield (ref := "java/util/ArrayList") (C := RJx4a65c) (T := TJx4a65c) (N := 3) (ci := 0) E 1 dJx4a65c_grow_92f84_1 iw_Jx4a65c_grow_92f84_Jx4a65c rfl (by decide) (by decide +kernel) rfl (by first | with_reducible assumption | exact hput_eq _ _ _ | exact (hput_ne _ (by first | assumption | exact Ne.symm (by assumption))).trans (by assumption) | exact (hput_ne _ (by first | assumption | exact Ne.symm (by assumption))).trans (hput_eq _ _ _) | exact (hput_ne _ (by first | assumption | exact Ne.symm (by assumption))).trans ((hput_ne _ (by first | assumption | exact Ne.symm (by assumption))).trans (by assumption)) | exact (hput_ne _ (by first | assumption | exact Ne.symm (by assumption))).trans ((hput_ne _ (by first | assumption | exact Ne.symm (by assumption))).trans (hput_eq _ _ _))) rfl ?_
    refine j_alen E dJx4a65c_grow_92f84_4 (by first | with_reducible assumption | exact hput_eq _ _ _ | exact (hput_ne _ (by first | assumption | exact Ne.symm (by assumption))).trans (by assumption) | exact (hput_ne _ (by first | assumption | exact Ne.symm (by assumption))).trans (hput_eq _ _ _) | exact (hput_ne _ (by first | assumption | exact Ne.symm (by assumption))).trans ((hput_ne _ (by first | assumption | exact Ne.symm (by assumption))).trans (by assumption)) | exact (hput_ne _ (by first | assumption | exact Ne.symm (by assumption))).trans ((hput_ne _ (by first | assumption | exact Ne.symm (by assumption))).trans (hput_eq _ _ _))) ?_
    refine j_istore_n E dJx4a65c_grow_92f84_5 (by decide) ?_
    refine j_iload_n E dJx4a65c_grow_92f84_6 rfl ?_
    refine j_if_gt E (tgt := 20) dJx4a65c_grow_92f84_7 (by decide) (fun c => ?_) (fun c => ?_)
    ·
      refine j_iload_n E dJx4a65c_grow_92f84_20 rfl ?_
      refine j_iload_n E dJx4a65c_grow_92f84_21 rfl ?_
      refine j_iload_n E dJx4a65c_grow_92f84_22 rfl ?_
      refine j_isub E dJx4a65c_grow_92f84_23 ?_
      refine j_iload_n E dJx4a65c_grow_92f84_24 rfl ?_
      refine j_iconst (x := 1) E dJx4a65c_grow_92f84_25 (by decide) ?_
      refine j_ishr E dJx4a65c_grow_92f84_26 ?_
      refine J.stk (st' := [.int 5, .int 1, .int 10]) (by decide) ?_
      refine j_callS (np := 3) E (c_newLength v) gJx4a65c_grow_92f84_J8_newLength_cabcc rfl ⟨by decide, by decide, by decide +kernel⟩ dJx4a65c_grow_92f84_27 (by omega) (by decide) rfl rfl (Nat.le_of_ble_eq_true rfl) (by omega) (by omega) (fun r h1 p => ?_)
      obtain ⟨rfl, rfl⟩ := p
      refine j_istore_n E dJx4a65c_grow_92f84_30 (by decide) ?_
      refine j_aload_n E dJx4a65c_grow_92f84_31 rfl ?_
      refine j_aload_n E dJx4a65c_grow_92f84_32 rfl ?_
      refine j_getfield (ref := "java/util/ArrayList") (C := RJx4a65c) (T := TJx4a65c) (N := 3) (ci := 0) E 1 dJx4a65c_grow_92f84_33 iw_Jx4a65c_grow_92f84_Jx4a65c rfl (by decide) (by decide +kernel) rfl (by first | with_reducible assumption | exact hput_eq _ _ _ | exact (hput_ne _ (by first | assumption | exact Ne.symm (by assumption))).trans (by assumption) | exact (hput_ne _ (by first | assumption | exact Ne.symm (by assumption))).trans (hput_eq _ _ _) | exact (hput_ne _ (by first | assumption | exact Ne.symm (by assumption))).trans ((hput_ne _ (by first | assumption | exact Ne.symm (by assumption))).trans (by assumption)) | exact (hput_ne _ (by first | assumption | exact Ne.symm (by assumption))).trans ((hput_ne _ (by first | assumption | exact Ne.symm (by assumption))).trans (hput_eq _ _ _))) rfl ?_
      refine j_iload_n E dJx4a65c_grow_92f84_36 rfl ?_
      refine j_callS (np := 2) E (c_copyOf2 (n := 15) v he (by decide) (by decide) hel) gJx4a65c_grow_92f84_J7_copyOf_1904c rfl ⟨by decide, by decide, by decide +kernel⟩ dJx4a65c_grow_92f84_37 (by omega) (by decide) rfl rfl (Nat.le_of_ble_eq_true rfl) (by omega) (by omega) (fun r h1 p => ?_)
      obtain ⟨q, g, rfl, p2, p3, rfl, p5⟩ := p
      have haq : a ≠ q := hm_neN ha p2
      refine j_dup_x1 E dJx4a65c_grow_92f84_40 rfl rfl ?_
      refine j_putfield (ref := "java/util/ArrayList") (C := RJx4a65c) (T := TJx4a65c) (N := 3) (ci := 0) E 1 dJx4a65c_grow_92f84_41 iw_Jx4a65c_grow_92f84_Jx4a65c tyJx4a65c tyJx4a65c_ok nmJx4a65c rfl (by decide) (by decide +kernel) rfl rfl rfl rfl (by first | with_reducible assumption | exact hput_eq _ _ _ | exact (hput_ne _ (by first | assumption | exact Ne.symm (by assumption))).trans (by assumption) | exact (hput_ne _ (by first | assumption | exact Ne.symm (by assumption))).trans (hput_eq _ _ _) | exact (hput_ne _ (by first | assumption | exact Ne.symm (by assumption))).trans ((hput_ne _ (by first | assumption | exact Ne.symm (by assumption))).trans (by assumption)) | exact (hput_ne _ (by first | assumption | exact Ne.symm (by assumption))).trans ((hput_ne _ (by first | assumption | exact Ne.symm (by assumption))).trans (hput_eq _ _ _))) (Nat.le_of_ble_eq_true rfl) ?_
      exact j_aret E dJx4a65c_grow_92f84_44 rfl (Or.inr ⟨_, rfl⟩) (by omega) (by omega) ⟨q, g, 15, rfl, p2, p3, Or.inr rfl, by decide, rfl, p5⟩
    · exact absurd (by decide) c
theorem iw_Jx4a65c_grow_d5877_Jx4a65c : ∀ w ∈ u_ws RJx4a65c TJx4a65c 3, w ∈ wsJx4a65c_grow_d5877 := by decide +kernel
theorem c_grow0 (v : Nat) {a e n : Nat} {m : Int32} {f : Nat → Option Nat} (ha : h a = some (hO 0 [.int m, .ref e, .int (nI n)])) (he : h e = some (hQ n f)) (hn : (n = 0 ∧ e = E0) ∨ n = 10) (hel : ∀ i : Nat, i < n → ∀ y : Nat, f i = some y → hOb h y) : CM l B E0 D yJx4a65c_grow_d5877 wsJx4a65c_grow_d5877 (v + 4) 1 15 [.ref a] h (fun r h1 => ∃ (q : Nat) (g : Nat → Option Nat) (cap : Nat), r = some (.ref q) ∧ h q = none ∧ B ≤ q ∧ (cap = 10 ∨ cap = 15) ∧ n < cap ∧ h1 = hput (hput h q (hQ cap g)) a (hO 0 [.int m, .ref q, .int (nI n)]) ∧ ∀ i, i < n → g i = f i) := by
  refine CM.of (cc := cJx4a65c_grow_d5877) (maxL := 1) (ret := (some (.array (.object "java/lang/Object")))) (by decide) rfl (Nat.le_of_ble_eq_true rfl) (fun X E hin => ?_)
  show J X B D 1 _ h 0 0 0 [(0, .ref a)] []
  refine j_aload_n E dJx4a65c_grow_d5877_0 rfl ?_
  refine j_aload_n E dJx4a65c_grow_d5877_1 rfl ?_
  refine j_getfield (ref := "java/util/ArrayList") (C := RJx4a65c) (T := TJx4a65c) (N := 3) (ci := 0) E 2 dJx4a65c_grow_d5877_2 iw_Jx4a65c_grow_d5877_Jx4a65c rfl (by decide) (by decide +kernel) rfl (by first | with_reducible assumption | exact hput_eq _ _ _ | exact (hput_ne _ (by first | assumption | exact Ne.symm (by assumption))).trans (by assumption) | exact (hput_ne _ (by first | assumption | exact Ne.symm (by assumption))).trans (hput_eq _ _ _) | exact (hput_ne _ (by first | assumption | exact Ne.symm (by assumption))).trans ((hput_ne _ (by first | assumption | exact Ne.symm (by assumption))).trans (by assumption)) | exact (hput_ne _ (by first | assumption | exact Ne.symm (by assumption))).trans ((hput_ne _ (by first | assumption | exact Ne.symm (by assumption))).trans (hput_eq _ _ _))) rfl ?_
  refine j_iconst (x := 1) E dJx4a65c_grow_d5877_5 (by decide) ?_
  refine j_iadd E dJx4a65c_grow_d5877_6 ?_
  refine J.topi (x' := nI (n + 1)) (nI_1 n) ?_
  refine j_callV (np := 1) (C := RJx4a65c) (T := TJx4a65c) (N := 3) (ci := 0) E (c_growI v ha he hn hel) gJx4a65c_grow_d5877_Jx4a65c_grow_92f84 rfl ⟨rfl, by decide, by decide, by decide +kernel⟩ dJx4a65c_grow_d5877_7 (by omega) (by decide) rfl (by first | with_reducible assumption | exact hput_eq _ _ _ | exact (hput_ne _ (by first | assumption | exact Ne.symm (by assumption))).trans (by assumption) | exact (hput_ne _ (by first | assumption | exact Ne.symm (by assumption))).trans (hput_eq _ _ _) | exact (hput_ne _ (by first | assumption | exact Ne.symm (by assumption))).trans ((hput_ne _ (by first | assumption | exact Ne.symm (by assumption))).trans (by assumption)) | exact (hput_ne _ (by first | assumption | exact Ne.symm (by assumption))).trans ((hput_ne _ (by first | assumption | exact Ne.symm (by assumption))).trans (hput_eq _ _ _))) rfl rfl (Nat.le_of_ble_eq_true rfl) (by omega) (by omega) (fun r h1 p => ?_)
  obtain ⟨q, g, cap, rfl, p2, p3, p4, p5, rfl, p6⟩ := p
  exact j_aret E dJx4a65c_grow_d5877_10 rfl (Or.inr ⟨_, rfl⟩) (by omega) (by omega) ⟨q, g, cap, rfl, p2, p3, p4, p5, rfl, p6⟩
/-- behind add: the list, what else stayed -/
def addP (E0 : Nat) (h : HM) (a e : Nat) (els : List Nat) (y : Nat) (h1 : HM) : Prop := ∃ e1 : Nat, AL E0 h1 a e1 (els ++ [y]) ∧ FR h h1 (fun q => q = a ∨ (q = e ∧ q ≠ E0)) ∧ (e1 = e ∨ h e1 = none)
theorem al_put {a e n cap y : Nat} {els : List Nat} {m : Int32} {f : Nat → Option Nat} (hlen : els.length = n) (hc : n < cap) (hcap : cap = 10 ∨ cap = 15) (hf : ∀ i, i < n → f i = els[i]?) (ha : h a = some (hO 0 [.int m, .ref e, .int (nI (n + 1))])) (he : h e = some (hQ cap (va_up f n (some y)))) : AL E0 h a e (els ++ [y]) := by
  refine ⟨m, cap, _, ?_, he, ?_, Or.inr hcap, ?_⟩
  · rw [List.length_append, hlen]; exact ha
  · rw [List.length_append, hlen]; exact hc
  · intro i hi
    rw [List.length_append, hlen, List.length_singleton] at hi
    by_cases e1 : i = n
    · rw [e1, va_up_self, List.getElem?_append_right (by omega), hlen, Nat.sub_self]; rfl
    · rw [va_up_ne _ _ e1, List.getElem?_append_left (by omega)]; exact hf i (by omega)
theorem iw_Jx4a65c_add_72be8_Jx4a65c : ∀ w ∈ u_ws RJx4a65c TJx4a65c 3, w ∈ wsJx4a65c_add_72be8 := by decide +kernel
theorem c_add3 (v : Nat) {a e y n cap : Nat} {els : List Nat} {m : Int32} {f f0 : Nat → Option Nat} (hlen : els.length = n) (hE : h E0 = some (hQ 0 f0)) (ha : h a = some (hO 0 [.int m, .ref e, .int (nI n)])) (he : h e = some (hQ cap f)) (hn : n ≤ cap) (hc : (cap = 0 ∧ e = E0) ∨ cap = 10 ∨ cap = 15) (h12 : n < 12) (hf : ∀ i, i < n → f i = els[i]?) (hel : ∀ z ∈ els, hOb h z) (hy : hOb h y) : CM l B E0 D yJx4a65c_add_72be8 wsJx4a65c_add_72be8 (v + 5) 1 15 [.ref a, .ref y, .ref e, .int (nI n)] h (fun r h1 => r = none ∧ addP E0 h a e els y h1) := by
  have hae : a ≠ e := hm_ne ha he (by intro z; cases z)
  have hcap : cap < 100 := by omega
  obtain ⟨yc, yf, yr, hy1, hy2⟩ := hy
  have hye : y ≠ e := hm_ne hy1 he (by intro z; cases z)
  refine CM.of (cc := cJx4a65c_add_72be8) (maxL := 4) (ret := none) (by decide) rfl (Nat.le_of_ble_eq_true rfl) (fun X E hin => ?_)
  show J X B D 4 _ h 0 0 0 [(0, .ref a), (1, .ref y), (2, .ref e), (3, .int (nI n))] []
  refine j_iload_n E dJx4a65c_add_72be8_0 rfl ?_
  refine j_aload_n E dJx4a65c_add_72be8_1 rfl ?_
  refine j_alen E dJx4a65c_add_72be8_2 (by first | with_reducible assumption | exact hput_eq _ _ _ | exact (hput_ne _ (by first | assumption | exact Ne.symm (by assumption))).trans (by assumption) | exact (hput_ne _ (by first | assumption | exact Ne.symm (by assumption))).trans (hput_eq _ _ _) | exact (hput_ne _ (by first | assumption | exact Ne.symm (by assumption))).trans ((hput_ne _ (by first | assumption | exact Ne.symm (by assumption))).trans (by assumption)) | exact (hput_ne _ (by first | assumption | exact Ne.symm (by assumption))).trans ((hput_ne _ (by first | assumption | exact Ne.symm (by assumption))).trans (hput_eq _ _ _))) ?_
  refine j_icmp_ne E (tgt := 11) dJx4a65c_add_72be8_3 (by decide) (fun c => ?_) (fun c => ?_)
  · have hlt : n < cap := by
      rcases Nat.lt_or_ge n cap with z | z
      · exact z
      · exact absurd (by rw [show n = cap by omega]) c
    have heE : e ≠ E0 := hm_ne he hE (by intro z; cases z; omega)
    refine j_aload_n E dJx4a65c_add_72be8_11 rfl ?_
    refine j_iload_n E dJx4a65c_add_72be8_12 rfl ?_
    refine j_aload_n E dJx4a65c_add_72be8_13 rfl ?_
    refine j_aastore E n dJx4a65c_add_72be8_14 he rfl hlt (by omega) hy1 hy2 ?_
    refine j_aload_n E dJx4a65c_add_72be8_15 rfl ?_
    refine j_iload_n E dJx4a65c_add_72be8_16 rfl ?_
    refine j_iconst (x := 1) E dJx4a65c_add_72be8_17 (by decide) ?_
    refine j_iadd E dJx4a65c_add_72be8_18 ?_
    refine J.topi (x' := nI (n + 1)) (nI_1 n) ?_
    refine j_putfield (ref := "java/util/ArrayList") (C := RJx4a65c) (T := TJx4a65c) (N := 3) (ci := 0) E 2 dJx4a65c_add_72be8_19 iw_Jx4a65c_add_72be8_Jx4a65c tyJx4a65c tyJx4a65c_ok nmJx4a65c rfl (by decide) (by decide +kernel) rfl rfl rfl rfl (by first | with_reducible assumption | exact hput_eq _ _ _ | exact (hput_ne _ (by first | assumption | exact Ne.symm (by assumption))).trans (by assumption) | exact (hput_ne _ (by first | assumption | exact Ne.symm (by assumption))).trans (hput_eq _ _ _) | exact (hput_ne _ (by first | assumption | exact Ne.symm (by assumption))).trans ((hput_ne _ (by first | assumption | exact Ne.symm (by assumption))).trans (by assumption)) | exact (hput_ne _ (by first | assumption | exact Ne.symm (by assumption))).trans ((hput_ne _ (by first | assumption | exact Ne.symm (by assumption))).trans (hput_eq _ _ _))) (Nat.le_of_ble_eq_true rfl) ?_
    exact j_vret E dJx4a65c_add_72be8_22 rfl (by omega) (by omega) ⟨rfl, e, al_put hlen hlt (by omega) hf (hput_eq _ _ _) ((hput_ne _ hae.symm).trans (hput_eq _ _ _)), fun q h1 h2 => (hput_ne _ (fun z => h2 (Or.inl z))).trans (hput_ne _ (fun z => h2 (Or.inr ⟨z, by rw [z]; exact heE⟩))), Or.inl rfl⟩
  · have hce : n = cap := (nI_eq (by omega) (by omega)).mp c
    subst hce
    refine j_aload_n E dJx4a65c_add_72be8_6 rfl ?_
    refine j_callV (np := 0) (C := RJx4a65c) (T := TJx4a65c) (N := 3) (ci := 0) E (c_grow0 v ha he (by omega) (fun i hi z hz => hel z (List.mem_of_getElem? ((hf i hi).symm.trans hz)))) gJx4a65c_add_72be8_Jx4a65c_grow_d5877 rfl ⟨rfl, by decide, by decide, by decide +kernel⟩ dJx4a65c_add_72be8_7 (by omega) (by decide) rfl (by first | with_reducible assumption | exact hput_eq _ _ _ | exact (hput_ne _ (by first | assumption | exact Ne.symm (by assumption))).trans (by assumption) | exact (hput_ne _ (by first | assumption | exact Ne.symm (by assumption))).trans (hput_eq _ _ _) | exact (hput_ne _ (by first | assumption | exact Ne.symm (by assumption))).trans ((hput_ne _ (by first | assumption | exact Ne.symm (by assumption))).trans (by assumption)) | exact (hput_ne _ (by first | assumption | exact Ne.symm (by assumption))).trans ((hput_ne _ (by first | assumption | exact Ne.symm (by assumption))).trans (hput_eq _ _ _))) rfl rfl (Nat.le_of_ble_eq_true rfl) (by omega) (by omega) (fun r h1 p => ?_)
    obtain ⟨q, g, cap, rfl, p2, p3, p4, p5, rfl, p6⟩ := p
    have haq : a ≠ q := hm_neN ha p2
    have hyq : y ≠ q := hm_neN hy1 p2
    have hg : ∀ i, i < n → g i = els[i]? := fun i hi => (p6 i hi).trans (hf i hi)
    refine j_astore_n E dJx4a65c_add_72be8_10 (by decide) ?_
    refine j_aload_n E dJx4a65c_add_72be8_11 rfl ?_
    refine j_iload_n E dJx4a65c_add_72be8_12 rfl ?_
    refine j_aload_n E dJx4a65c_add_72be8_13 rfl ?_
    by_cases hya : y = a
    · refine j_aastore E n dJx4a65c_add_72be8_14 ((hput_ne _ haq.symm).trans (hput_eq _ _ _)) rfl p5 (by omega) (by rw [hya]; exact hput_eq _ _ _) rfl ?_
      refine j_aload_n E dJx4a65c_add_72be8_15 rfl ?_
      refine j_iload_n E dJx4a65c_add_72be8_16 rfl ?_
      refine j_iconst (x := 1) E dJx4a65c_add_72be8_17 (by decide) ?_
      refine j_iadd E dJx4a65c_add_72be8_18 ?_
      refine J.topi (x' := nI (n + 1)) (nI_1 n) ?_
      refine j_putfield (ref := "java/util/ArrayList") (C := RJx4a65c) (T := TJx4a65c) (N := 3) (ci := 0) E 2 dJx4a65c_add_72be8_19 iw_Jx4a65c_add_72be8_Jx4a65c tyJx4a65c tyJx4a65c_ok nmJx4a65c rfl (by decide) (by decide +kernel) rfl rfl rfl rfl (by first | with_reducible assumption | exact hput_eq _ _ _ | exact (hput_ne _ (by first | assumption | exact Ne.symm (by assumption))).trans (by assumption) | exact (hput_ne _ (by first | assumption | exact Ne.symm (by assumption))).trans (hput_eq _ _ _) | exact (hput_ne _ (by first | assumption | exact Ne.symm (by assumption))).trans ((hput_ne _ (by first | assumption | exact Ne.symm (by assumption))).trans (by assumption)) | exact (hput_ne _ (by first | assumption | exact Ne.symm (by assumption))).trans ((hput_ne _ (by first | assumption | exact Ne.symm (by assumption))).trans (hput_eq _ _ _))) (Nat.le_of_ble_eq_true rfl) ?_
      exact j_vret E dJx4a65c_add_72be8_22 rfl (by omega) (by omega) ⟨rfl, q, al_put hlen p5 p4 hg (hput_eq _ _ _) ((hput_ne _ haq.symm).trans (hput_eq _ _ _)), fun z h1 h2 => (hput_ne _ (fun w => h2 (Or.inl w))).trans ((hput_ne _ (fun w => h1 (by rw [w]; exact p2))).trans ((hput_ne _ (fun w => h2 (Or.inl w))).trans (hput_ne _ (fun w => h1 (by rw [w]; exact p2))))), Or.inr p2⟩
    · refine j_aastore E n dJx4a65c_add_72be8_14 ((hput_ne _ haq.symm).trans (hput_eq _ _ _)) rfl p5 (by omega) ((hput_ne _ hya).trans ((hput_ne _ hyq).trans hy1)) hy2 ?_
      refine j_aload_n E dJx4a65c_add_72be8_15 rfl ?_
      refine j_iload_n E dJx4a65c_add_72be8_16 rfl ?_
      refine j_iconst (x := 1) E dJx4a65c_add_72be8_17 (by decide) ?_
      refine j_iadd E dJx4a65c_add_72be8_18 ?_
      refine J.topi (x' := nI (n + 1)) (nI_1 n) ?_
      refine j_putfield (ref := "java/util/ArrayList") (C := RJx4a65c) (T := TJx4a65c) (N := 3) (ci := 0) E 2 dJx4a65c_add_72be8_19 iw_Jx4a65c_add_72be8_Jx4a65c tyJx4a65c tyJx4a65c_ok nmJx4a65c rfl (by decide) (by decide +kernel) rfl rfl rfl rfl (by first | with_reducible assumption | exact hput_eq _ _ _ | exact (hput_ne _ (by first | assumption | exact Ne.symm (by assumption))).trans (by assumption) | exact (hput_ne _ (by first | assumption | exact Ne.symm (by assumption))).trans (hput_eq _ _ _) | exact (hput_ne _ (by first | assumption | exact Ne.symm (by assumption))).trans ((hput_ne _ (by first | assumption | exact Ne.symm (by assumption))).trans (by assumption)) | exact (hput_ne _ (by first | assumption | exact Ne.symm (by assumption))).trans ((hput_ne _ (by first | assumption | exact Ne.symm (by assumption))).trans (hput_eq _ _ _))) (Nat.le_of_ble_eq_true rfl) ?_
      exact j_vret E dJx4a65c_add_72be8_22 rfl (by omega) (by omega) ⟨rfl, q, al_put hlen p5 p4 hg (hput_eq _ _ _) ((hput_ne _ haq.symm).trans (hput_eq _ _ _)), fun z h1 h2 => (hput_ne _ (fun w => h2 (Or.inl w))).trans ((hput_ne _ (fun w => h1 (by rw [w]; exact p2))).trans ((hput_ne _ (fun w => h2 (Or.inl w))).trans (hput_ne _ (fun w => h1 (by rw [w]; exact p2))))), Or.inr p2⟩
theorem iw_Jx4a65c_add_9ea2d_Jx4a65c : ∀ w ∈ u_ws RJx4a65c TJx4a65c 3, w ∈ wsJx4a65c_add_9ea2d := by decide +kernel
theorem c_add (v : Nat) {a e y : Nat} {els : List Nat} {f0 : Nat → Option Nat} (H : AL E0 h a e els) (hE : h E0 = some (hQ 0 f0)) (h12 : els.length < 12) (hel : ∀ z ∈ els, hOb h z) (hy : hOb h y) : CM l B E0 D yJx4a65c_add_9ea2d wsJx4a65c_add_9ea2d (v + 6) 1 15 [.ref a, .ref y] h (fun r h1 => r = some (.int 1) ∧ addP E0 h a e els y h1) := by
  obtain ⟨m, cap, f, ha, he, hc, hk, hf⟩ := H
  have hae : a ≠ e := hm_ne ha he (by intro z; cases z)
  have haE : a ≠ E0 := hm_ne ha hE (by intro z; cases z)
  refine CM.of (cc := cJx4a65c_add_9ea2d) (maxL := 2) (ret := (some .boolean)) (by decide) rfl (Nat.le_of_ble_eq_true rfl) (fun X E hin => ?_)
  show J X B D 2 _ h 0 0 0 [(0, .ref a), (1, .ref y)] []
  refine j_aload_n E dJx4a65c_add_9ea2d_0 rfl ?_
  refine j_dup E dJx4a65c_add_9ea2d_1 rfl ?_
  refine j_getfieldU (ref := "java/util/ArrayList") (C := RJx4a65c) (T := TJx4a65c) (N := 3) (ci := 0) E 0 dJx4a65c_add_9ea2d_2 iw_Jx4a65c_add_9ea2d_Jx4a65c rfl (by decide) (by decide +kernel) (by decide +kernel) (by first | with_reducible assumption | exact hput_eq _ _ _ | exact (hput_ne _ (by first | assumption | exact Ne.symm (by assumption))).trans (by assumption) | exact (hput_ne _ (by first | assumption | exact Ne.symm (by assumption))).trans (hput_eq _ _ _) | exact (hput_ne _ (by first | assumption | exact Ne.symm (by assumption))).trans ((hput_ne _ (by first | assumption | exact Ne.symm (by assumption))).trans (by assumption)) | exact (hput_ne _ (by first | assumption | exact Ne.symm (by assumption))).trans ((hput_ne _ (by first | assumption | exact Ne.symm (by assumption))).trans (hput_eq _ _ _))) rfl ?_
  refine j_iconst (x := 1) E dJx4a65c_add_9ea2d_5 (by decide) ?_
  refine j_iadd E dJx4a65c_add_9ea2d_6 ?_
  refine j_putfieldU (ref := "java/util/ArrayList") (C := RJx4a65c) (T := TJx4a65c) (N := 3) (ci := 0) E 0 dJx4a65c_add_9ea2d_7 iw_Jx4a65c_add_9ea2d_Jx4a65c tyJx4a65c tyJx4a65c_ok nmJx4a65c rfl (by decide) (by decide +kernel) (by decide +kernel) rfl rfl rfl (by first | with_reducible assumption | exact hput_eq _ _ _ | exact (hput_ne _ (by first | assumption | exact Ne.symm (by assumption))).trans (by assumption) | exact (hput_ne _ (by first | assumption | exact Ne.symm (by assumption))).trans (hput_eq _ _ _) | exact (hput_ne _ (by first | assumption | exact Ne.symm (by assumption))).trans ((hput_ne _ (by first | assumption | exact Ne.symm (by assumption))).trans (by assumption)) | exact (hput_ne _ (by first | assumption | exact Ne.symm (by assumption))).trans ((hput_ne _ (by first | assumption | exact Ne.symm (by assumption))).trans (hput_eq _ _ _))) (Nat.le_of_ble_eq_true rfl) ?_
  refine j_aload_n E dJx4a65c_add_9ea2d_10 rfl ?_
  refine j_aload_n E dJx4a65c_add_9ea2d_11 rfl ?_
  refine j_aload_n E dJx4a65c_add_9ea2d_12 rfl ?_
  refine j_getfield (ref := "java/util/ArrayList") (C := RJx4a65c) (T := TJx4a65c) (N := 3) (ci := 0) E 1 dJx4a65c_add_9ea2d_13 iw_Jx4a65c_add_9ea2d_Jx4a65c rfl (by decide) (by decide +kernel) rfl (by first | with_reducible assumption | exact hput_eq _ _ _ | exact (hput_ne _ (by first | assumption | exact Ne.symm (by assumption))).trans (by assumption) | exact (hput_ne _ (by first | assumption | exact Ne.symm (by assumption))).trans (hput_eq _ _ _) | exact (hput_ne _ (by first | assumption | exact Ne.symm (by assumption))).trans ((hput_ne _ (by first | assumption | exact Ne.symm (by assumption))).trans (by assumption)) | exact (hput_ne _ (by first | assumption | exact Ne.symm (by assumption))).trans ((hput_ne _ (by first | assumption | exact Ne.symm (by assumption))).trans (hput_eq _ _ _))) rfl ?_
  refine j_aload_n E dJx4a65c_add_9ea2d_16 rfl ?_
  refine j_getfield (ref := "java/util/ArrayList") (C := RJx4a65c) (T := TJx4a65c) (N := 3) (ci := 0) E 2 dJx4a65c_add_9ea2d_17 iw_Jx4a65c_add_9ea2d_Jx4a65c rfl (by decide) (by decide +kernel) rfl (by first | with_reducible assumption | exact hput_eq _ _ _ | exact (hput_ne _ (by first | assumption | exact Ne.symm (by assumption))).trans (by assumption) | exact (hput_ne _ (by first | assumption | exact Ne.symm (by assumption))).trans (hput_eq _ _ _) | exact (hput_ne _ (by first | assumption | exact Ne.symm (by assumption))).trans ((hput_ne _ (by first | assumption | exact Ne.symm (by assumption))).trans (by assumption)) | exact (hput_ne _ (by first | assumption | exact Ne.symm (by assumption))).trans ((hput_ne _ (by first | assumption | exact Ne.symm (by assumption))).trans (hput_eq _ _ _))) rfl ?_
  generalize hh : hput h a (hO 0 (List.set [.int m, .ref e, .int (nI els.length)] 0 (.int (m + 1)))) = h2
  have hob : ∀ z, hOb h z → hOb h2 z := by
    intro z hz
    by_cases hza : z = a
    · exact ⟨0, _, _, by rw [← hh, hza]; exact hput_eq _ _ _, rfl⟩
    · obtain ⟨ci, fs, rr, g1, g2⟩ := hz
      exact ⟨ci, fs, rr, by rw [← hh]; exact (hput_ne _ hza).trans g1, g2⟩
  refine j_callV (np := 3) (C := RJx4a65c) (T := TJx4a65c) (N := 3) (ci := 0) E (c_add3 (m := m + 1) v rfl (by rw [← hh]; exact (hput_ne _ haE.symm).trans hE) (by rw [← hh]; exact hput_eq _ _ _) (by rw [← hh]; exact (hput_ne _ hae.symm).trans he) hc hk h12 hf (fun z hz => hob z (hel z hz)) (hob y hy)) gJx4a65c_add_9ea2d_Jx4a65c_add_72be8 rfl ⟨rfl, by decide, by decide, by decide +kernel⟩ dJx4a65c_add_9ea2d_20 (by omega) (by decide) rfl (by rw [← hh]; exact hput_eq _ _ _) rfl rfl (Nat.le_of_ble_eq_true rfl) (by omega) (by omega) (fun r h1 p => ?_)
  obtain ⟨rfl, e1, p1, p2, p3⟩ := p
  refine j_iconst (x := 1) E dJx4a65c_add_9ea2d_23 (by decide) ?_
  exact j_iret E dJx4a65c_add_9ea2d_24 rfl rfl (by omega) (by omega) ⟨rfl, e1, p1, fun q h1 h2 => (p2 q (by rw [← hh, hput_ne _ (fun z => h2 (Or.inl z))]; exact h1) h2).trans (by rw [← hh]; exact hput_ne _ (fun z => h2 (Or.inl z))), p3.elim Or.inl (fun z => Or.inr (by rw [← hh] at z; exact (hput_none z).1))⟩
theorem iw_Jx4a65c_clear_da8c8_Jx4a65c : ∀ w ∈ u_ws RJx4a65c TJx4a65c 3, w ∈ wsJx4a65c_clear_da8c8 := by decide +kernel
theorem c_alClear (v : Nat) {a e : Nat} {els : List Nat} {f0 : Nat → Option Nat} (H : AL E0 h a e els) (hE : h E0 = some (hQ 0 f0)) : CM l B E0 D yJx4a65c_clear_da8c8 wsJx4a65c_clear_da8c8 (v + 1) 0 0 [.ref a] h (fun r h1 => r = none ∧ AL E0 h1 a e [] ∧ FR h h1 (fun q => q = a ∨ (q = e ∧ q ≠ E0))) := by
  obtain ⟨m, cap, f, ha, he, hc, hk, hf⟩ := H
  have hae : a ≠ e := hm_ne ha he (by intro z; cases z)
  have hcap : cap < 100 := by omega
  refine CM.of (cc := cJx4a65c_clear_da8c8) (maxL := 4) (ret := none) (by decide) rfl (Nat.le_of_ble_eq_true rfl) (fun X E hin => ?_)
  show J X B D 4 _ h 0 0 0 [(0, .ref a)] []
  refine j_aload_n E dJx4a65c_clear_da8c8_0 rfl ?_
  refine j_dup E dJx4a65c_clear_da8c8_1 rfl ?_
  refine j_getfieldU (ref := "java/util/ArrayList") (C := RJx4a65c) (T := TJx4a65c) (N := 3) (ci := 0) E 0 dJx4a65c_clear_da8c8_2 iw_Jx4a65c_clear_da8c8_Jx4a65c rfl (by decide) (by decide +kernel) (by decide +kernel) (by first | with_reducible assumption | exact hput_eq _ _ _ | exact (hput_ne _ (by first | assumption | exact Ne.symm (by assumption))).trans (by assumption) | exact (hput_ne _ (by first | assumption | exact Ne.symm (by assumption))).trans (hput_eq _ _ _) | exact (hput_ne _ (by first | assumption | exact Ne.symm (by assumption))).trans ((hput_ne _ (by first | assumption | exact Ne.symm (by assumption))).trans (by assumption)) | exact (hput_ne _ (by first | assumption | exact Ne.symm (by assumption))).trans ((hput_ne _ (by first | assumption | exact Ne.symm (by assumption))).trans (hput_eq _ _ _))) rfl ?_
  refine j_iconst (x := 1) E dJx4a65c_clear_da8c8_5 (by decide) ?_
  refine j_iadd E dJx4a65c_clear_da8c8_6 ?_
  refine j_putfieldU (ref := "java/util/ArrayList") (C := RJx4a65c) (T := TJx4a65c) (N := 3) (ci := 0) E 0 dJx4a65c_clear_da8c8_7 iw_Jx4a65c_clear_da8c8_Jx4a65c tyJx4a65c tyJx4a65c_ok nmJx4a65c rfl (by decide) (by decide +kernel) (by decide +kernel) rfl rfl rfl (by first | with_reducible assumption | exact hput_eq _ _ _ | exact (hput_ne _ (by first | assumption | exact Ne.symm (by assumption))).trans (by assumption) | exact (hput_ne _ (by first | assumption | exact Ne.symm (by assumption))).trans (hput_eq _ _ _) | exact (hput_ne _ (by first | assumption | exact Ne.symm (by assumption))).trans ((hput_ne _ (by first | assumption | exact Ne.symm (by assumption))).trans (by assumption)) | exact (hput_ne _ (by first | assumption | exact Ne.symm (by assumption))).trans ((hput_ne _ (by first | assumption | exact Ne.symm (by assumption))).trans (hput_eq _ _ _))) (Nat.le_of_ble_eq_true rfl) ?_
  refine j_aload_n E dJx4a65c_clear_da8c8_10 rfl ?_
  refine j_getfield (ref := "java/util/ArrayList") (C := RJx4a65c) (T := TJx4a65c) (N := 3) (ci := 0) E 1 dJx4a65c_clear_da8c8_11 iw_Jx4a65c_clear_da8c8_Jx4a65c rfl (by decide) (by decide +kernel) rfl (by first | with_reducible assumption | exact hput_eq _ _ _ | exact (hput_ne _ (by first | assumption | exact Ne.symm (by assumption))).trans (by assumption) | exact (hput_ne _ (by first | assumption | exact Ne.symm (by assumption))).trans (hput_eq _ _ _) | exact (hput_ne _ (by first | assumption | exact Ne.symm (by assumption))).trans ((hput_ne _ (by first | assumption | exact Ne.symm (by assumption))).trans (by assumption)) | exact (hput_ne _ (by first | assumption | exact Ne.symm (by assumption))).trans ((hput_ne _ (by first | assumption | exact Ne.symm (by assumption))).trans (hput_eq _ _ _))) rfl ?_
  refine j_astore_n E dJx4a65c_clear_da8c8_14 (by decide) ?_
  refine j_aload_n E dJx4a65c_clear_da8c8_15 rfl ?_
  refine j_getfield (ref := "java/util/ArrayList") (C := RJx4a65c) (T := TJx4a65c) (N := 3) (ci := 0) E 2 dJx4a65c_clear_da8c8_16 iw_Jx4a65c_clear_da8c8_Jx4a65c rfl (by decide) (by decide +kernel) rfl (by first | with_reducible assumption | exact hput_eq _ _ _ | exact (hput_ne _ (by first | assumption | exact Ne.symm (by assumption))).trans (by assumption) | exact (hput_ne _ (by first | assumption | exact Ne.symm (by assumption))).trans (hput_eq _ _ _) | exact (hput_ne _ (by first | assumption | exact Ne.symm (by assumption))).trans ((hput_ne _ (by first | assumption | exact Ne.symm (by assumption))).trans (by assumption)) | exact (hput_ne _ (by first | assumption | exact Ne.symm (by assumption))).trans ((hput_ne _ (by first | assumption | exact Ne.symm (by assumption))).trans (hput_eq _ _ _))) rfl ?_
  refine j_istore_n E dJx4a65c_clear_da8c8_19 (by decide) ?_
  refine j_aload_n E dJx4a65c_clear_da8c8_20 rfl ?_
  refine j_iconst (x := 0) E dJx4a65c_clear_da8c8_21 (by decide) ?_
  refine j_dup_x1 E dJx4a65c_clear_da8c8_22 rfl rfl ?_
  refine j_putfield (ref := "java/util/ArrayList") (C := RJx4a65c) (T := TJx4a65c) (N := 3) (ci := 0) E 2 dJx4a65c_clear_da8c8_23 iw_Jx4a65c_clear_da8c8_Jx4a65c tyJx4a65c tyJx4a65c_ok nmJx4a65c rfl (by decide) (by decide +kernel) rfl rfl rfl rfl (by first | with_reducible assumption | exact hput_eq _ _ _ | exact (hput_ne _ (by first | assumption | exact Ne.symm (by assumption))).trans (by assumption) | exact (hput_ne _ (by first | assumption | exact Ne.symm (by assumption))).trans (hput_eq _ _ _) | exact (hput_ne _ (by first | assumption | exact Ne.symm (by assumption))).trans ((hput_ne _ (by first | assumption | exact Ne.symm (by assumption))).trans (by assumption)) | exact (hput_ne _ (by first | assumption | exact Ne.symm (by assumption))).trans ((hput_ne _ (by first | assumption | exact Ne.symm (by assumption))).trans (hput_eq _ _ _))) (Nat.le_of_ble_eq_true rfl) ?_
  refine j_istore_n E dJx4a65c_clear_da8c8_26 (by decide) ?_
  generalize hn : els.length = n at hc
  have key : ∀ (j i : Nat) (g : Nat → Option Nat) (hx : HM), i + j = n → hx a = some (hO 0 [.int (m + 1), .ref e, .int 0]) → hx e = some (hQ cap g) → FR h hx (fun q => q = a ∨ (q = e ∧ q ≠ E0)) → J X B D 4 (jQ X B D 0 0 (fun r h1 => r = none ∧ AL E0 h1 a e [] ∧ FR h h1 (fun q => q = a ∨ (q = e ∧ q ≠ E0)))) hx 0 0 27 [(3, .int (nI i)), (2, .int (nI n)), (1, .ref e), (0, .ref a)] [] := by
    intro j
    induction j with
    | zero =>
      intro i g hx hi hxa hxe hfr
      refine j_iload_n E dJx4a65c_clear_da8c8_27 rfl ?_
      refine j_iload_n E dJx4a65c_clear_da8c8_28 rfl ?_
      refine j_icmp_ge E (tgt := 42) dJx4a65c_clear_da8c8_29 (by decide) (fun c => ?_) (fun c => ?_)
      ·
        exact j_vret E dJx4a65c_clear_da8c8_42 rfl (by omega) (by omega) ⟨rfl, ⟨m + 1, cap, g, hxa, hxe, Nat.zero_le _, hk, fun i hi => absurd hi (Nat.not_lt_zero i)⟩, hfr⟩
      · exact absurd (nI_le (show n ≤ i by omega) (by omega)) c
    | succ j ih =>
      intro i g hx hi hxa hxe hfr
      have heE : e ≠ E0 := fun z => by rw [z] at he; have := he.symm.trans hE; cases this; omega
      refine j_iload_n E dJx4a65c_clear_da8c8_27 rfl ?_
      refine j_iload_n E dJx4a65c_clear_da8c8_28 rfl ?_
      refine j_icmp_ge E (tgt := 42) dJx4a65c_clear_da8c8_29 (by decide) (fun c => ?_) (fun c => ?_)
      · exact absurd c (nI_ge (show i < n by omega) (by omega))
      ·
        refine j_aload_n E dJx4a65c_clear_da8c8_32 rfl ?_
        refine j_iload_n E dJx4a65c_clear_da8c8_33 rfl ?_
        refine j_null E dJx4a65c_clear_da8c8_34 ?_
        refine j_aastoreN E i dJx4a65c_clear_da8c8_35 hxe rfl (by omega) (by omega) ?_
        refine j_iinc E dJx4a65c_clear_da8c8_36 rfl (nI_1 i) (by decide) ?_
        refine j_goto E (tgt := 27) dJx4a65c_clear_da8c8_39 (by decide) ?_
        refine J.sub [(3, .int (nI (i + 1))), (2, .int (nI n)), (1, .ref e), (0, .ref a)] ⟨rfl, rfl, rfl, rfl, trivial⟩ ?_
        exact ih (i + 1) _ _ (by omega) ((hput_ne _ hae).trans hxa) (hput_eq _ _ _) (fun q h1 h2 => (hput_ne _ (fun z => h2 (Or.inr ⟨z, by rw [z]; exact heE⟩))).trans (hfr q h1 h2))
  refine J.sub [(3, .int (nI 0)), (2, .int (nI n)), (1, .ref e), (0, .ref a)] ⟨rfl, by rw [← hn]; rfl, rfl, rfl, trivial⟩ ?_
  exact key n 0 f _ (by omega) (by rw [hput_hput]; exact hput_eq _ _ _) (by rw [hput_hput]; exact (hput_ne _ hae.symm).trans he) (fun q h1 h2 => by rw [hput_hput]; exact hput_ne _ (fun z => h2 (Or.inl z)))
end LISTS
end
