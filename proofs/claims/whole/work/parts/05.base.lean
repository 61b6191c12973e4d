/-! THE CLEAN LAYER. hm_R: a map h from addresses to what the cells hold; J: the machine, at pc with locals L and stack st, comes to Q. One row an instruction. -/
abbrev JC : Type := Program × Launch × Env × Room × State × MethodId × Array Value × List Frame × Method × Code
def jx_p (X : JC) : Program := X.1
def jx_l (X : JC) : Launch := X.2.1
def jx_e (X : JC) : Env := X.2.2.1
def jx_R (X : JC) : Room := X.2.2.2.1
def jx_s (X : JC) : State := X.2.2.2.2.1
def jx_m (X : JC) : MethodId := X.2.2.2.2.2.1
def jx_a (X : JC) : Array Value := X.2.2.2.2.2.2.1
def jx_b (X : JC) : List Frame := X.2.2.2.2.2.2.2.1
def jx_t (X : JC) : Method := X.2.2.2.2.2.2.2.2.1
def jx_c (X : JC) : Code := X.2.2.2.2.2.2.2.2.2
abbrev HO : Type := (FieldType × vp_A) ⊕ (Nat × List Value)
abbrev HM : Type := Nat → Option HO
abbrev hI (n : Nat) (f : Nat → Int32) : HO := .inl (.int, (n, .inl f))
abbrev hJ (n : Nat) (f : Nat → Int64) : HO := .inl (.long, (n, .inr (.inl f)))
abbrev hZ (n : Nat) (f : Nat → Int32) : HO := .inl (.boolean, (n, .inl f))
abbrev hQ (n : Nat) (f : Nat → Option Nat) : HO := .inl (.object "java/lang/Object", (n, .inr (.inr (.inr (.inr f)))))
abbrev hO (ci : Nat) (fs : List Value) : HO := .inr (ci, fs)
def hput (h : HM) (a : Nat) (o : HO) : HM := fun q => if q = a then some o else h q
theorem hput_eq (h : HM) (a : Nat) (o : HO) : hput h a o a = some o := if_pos rfl
theorem hput_ne {h : HM} {a q : Nat} (o : HO) (hq : q ≠ a) : hput h a o q = h q := if_neg hq
def hm_at (U : State) (D : va_G) (a : Nat) (o : HO) (H : Heap) : Prop := match o with
  | .inl x => (∃ cA : ClassId, ArrOfT U cA x.1 ∧ va_RA U cA x.1 ∧ H[a]? = some (vp_cell cA x.2)) ∨ (x.2.1 = 0 ∧ ∃ cell : Cell, H[a]? = some cell ∧ U.isArrayOf cell x.1 ∧ cell.slots.size.toInt32 = 0)
  | .inr x => va_at D vwCl (a, .inr x) H
theorem hm_at.full {U : State} {D : va_G} {a N : Nat} {ty : FieldType} {f} {H : Heap} (h : hm_at U D a (.inl (ty, (N, f))) H) (h0 : 0 < N) : ∃ cA : ClassId, ArrOfT U cA ty ∧ va_RA U cA ty ∧ H[a]? = some (vp_cell cA (N, f)) := Or.elim h id (fun z => absurd (show N = 0 from z.1) (by omega))
def hm_ro (o : HO) : Prop := match o with
  | .inl x => x.2.1 = 0
  | .inr _ => False
def hm_R (U : State) (B : Nat) (D : va_G) (h : HM) (H : Heap) : Prop := ∀ (a : Nat) (o : HO), h a = some o → hm_at U D a o H ∧ (hm_ro o ∨ B ≤ a)
theorem hm_at.moved {u U : State} {D : va_G} {a : Nat} {o : HO} {H : Heap} (hvm : u.vm.Alike U.vm) (h : hm_at u D a o H) : hm_at U D a o H := by
  cases o with
  | inl x =>
    rcases h with ⟨cA, h1, h2, h3⟩ | ⟨h1, cell, h2, h3, h4⟩
    · exact Or.inl ⟨cA, arrOfT_moved hvm h1, h2.moved hvm, h3⟩
    · exact Or.inr ⟨h1, cell, h2, State.isArrayOf_alike hvm h3, h4⟩
  | inr x => exact h
theorem hm_at.kept {U : State} {D : va_G} {a : Nat} {o : HO} {H H1 : Heap} (h : hm_at U D a o H) (hq : H1[a]? = H[a]?) : hm_at U D a o H1 := by
  cases o with
  | inl x =>
    rcases h with ⟨cA, h1, h2, h3⟩ | ⟨h1, cell, h2, h3, h4⟩
    · exact Or.inl ⟨cA, h1, h2, hq.trans h3⟩
    · exact Or.inr ⟨h1, cell, hq.trans h2, h3, h4⟩
  | inr x => exact va_at.kept (q := (a, .inr x)) h hq
theorem hm_at.lt {U : State} {D : va_G} {a : Nat} {o : HO} {H : Heap} (h : hm_at U D a o H) : a < H.size := by
  cases o with
  | inl x =>
    rcases h with ⟨cA, h1, h2, h3⟩ | ⟨h1, cell, h2, h3, h4⟩
    · exact (Array.getElem?_eq_some_iff.mp h3).1
    · exact (Array.getElem?_eq_some_iff.mp h2).1
  | inr x => exact va_at.lt (q := (a, .inr x)) h
theorem hm_R.moved {u U : State} {B : Nat} {D : va_G} {h : HM} {H : Heap} (hvm : u.vm.Alike U.vm) (hR : hm_R u B D h H) : hm_R U B D h H := fun a o e => ⟨(hR a o e).1.moved hvm, (hR a o e).2⟩
theorem hm_R.grow {U : State} {B : Nat} {D : va_G} {h : HM} {H H1 : Heap} (hR : hm_R U B D h H) (hq : ∀ q : Nat, q < H.size → H1[q]? = H[q]?) : hm_R U B D h H1 := fun a o e => ⟨(hR a o e).1.kept (hq a (hR a o e).1.lt), (hR a o e).2⟩
theorem hm_R.set {U : State} {B : Nat} {D : va_G} {h : HM} {H H1 : Heap} {a : Nat} {o : HO} (hR : hm_R U B D h H) (hB : B ≤ a) (ho : hm_at U D a o H1) (hq : ∀ q : Nat, q ≠ a → H1[q]? = H[q]?) : hm_R U B D (hput h a o) H1 := by
  intro q o1 e
  by_cases hqa : q = a
  · subst hqa
    rw [hput_eq] at e
    cases e
    exact ⟨ho, Or.inr hB⟩
  · rw [hput_ne o hqa] at e
    exact ⟨(hR q o1 e).1.kept (hq q hqa), (hR q o1 e).2⟩
theorem hm_R.push {U : State} {B : Nat} {D : va_G} {h : HM} {H H1 : Heap} {o : HO} (hR : hm_R U B D h H) (hB : B ≤ H.size) (ho : hm_at U D H.size o H1) (hq : ∀ q : Nat, q < H.size → H1[q]? = H[q]?) : hm_R U B D (hput h H.size o) H1 := by
  intro q o1 e
  by_cases hqa : q = H.size
  · subst hqa
    rw [hput_eq] at e
    cases e
    exact ⟨ho, Or.inr hB⟩
  · rw [hput_ne o hqa] at e
    exact ⟨(hR q o1 e).1.kept (hq q (hR q o1 e).1.lt), (hR q o1 e).2⟩
theorem hm_R.none {U : State} {B : Nat} {D : va_G} {h : HM} {H : Heap} (hR : hm_R U B D h H) : h H.size = none := by
  cases e : h H.size with
  | none => rfl
  | some o => exact absurd (hR _ o e).1.lt (Nat.lt_irrefl _)
theorem hm_R.B {U : State} {B : Nat} {D : va_G} {h : HM} {H : Heap} {a ci : Nat} {fs : List Value} (hR : hm_R U B D h H) (e : h a = some (hO ci fs)) : B ≤ a := (hR a _ e).2.elim (fun h => h.elim) id
theorem hm_R.BA {U : State} {B : Nat} {D : va_G} {h : HM} {H : Heap} {a n k : Nat} {ty : FieldType} {f} (hR : hm_R U B D h H) (e : h a = some (.inl (ty, (n, f)))) (hk : k < n) : B ≤ a := (hR a _ e).2.elim (fun h => absurd (show n = 0 from h) (by omega)) id
def jl_get (L : List (Nat × Value)) (i : Nat) : Option Value := match L with
  | [] => none
  | (j, v) :: t => if i = j then some v else jl_get t i
theorem jl_mem : ∀ {L : List (Nat × Value)} {i : Nat} {v : Value}, jl_get L i = some v → (i, v) ∈ L
  | [], i, v, h => by simp [jl_get] at h
  | (j, w) :: t, i, v, h => by
    unfold jl_get at h
    by_cases e : i = j
    · rw [if_pos e] at h; cases h; rw [e]; exact List.mem_cons_self
    · rw [if_neg e] at h; exact List.mem_cons_of_mem _ (jl_mem h)
theorem jl_at {ls : Array Slot} {nL : Nat} {L : List (Nat × Value)} {i : Nat} {v : Value} (h : lv_has ls nL L) (e : jl_get L i = some v) : ls[i]? = some (.val v) := h.2.2 (i, v) (jl_mem e)
def jl_set (i : Nat) (v : Value) (L : List (Nat × Value)) : List (Nat × Value) := (i, v) :: L.filter (fun q => !(q.1 == i) && !(q.1 + 1 == i && q.2.category == 2))
def jl_set2 (i : Nat) (v : Value) (L : List (Nat × Value)) : List (Nat × Value) := (i, v) :: L.filter (fun q => !(q.1 == i) && (!(q.1 == i + 1) && !(q.1 + 1 == i && q.2.category == 2)))
def jl_sub (L' L : List (Nat × Value)) : Prop := match L' with
  | [] => True
  | q :: t => jl_get L q.1 = some q.2 ∧ jl_sub t L
theorem jl_sub_ok : ∀ {L' L : List (Nat × Value)}, jl_sub L' L → ∀ q ∈ L', q ∈ L
  | [], _, _, q, h => by cases h
  | p :: t, L, h, q, hq => by
    rcases List.mem_cons.mp hq with e | e
    · rw [e]; exact jl_mem h.1
    · exact jl_sub_ok h.2 q e
abbrev rmv (v mc ms : Nat) : Room := { frames := v, cells := mc, slots := ms, locals := 64 * v }
/-- what stays of a world's start: the classes, the constants -/
def PWs (B E0 : Nat) (D : va_G) (U : State) (H : Heap) : Prop :=
  va_Z "java/util/ArrayList" "DEFAULTCAPACITY_EMPTY_ELEMENTDATA" "[Ljava/lang/Object;" (.ref E0) (fun q => B ≤ q) U H ∧
  vx_Zq Bundle.tN "UNASSIGNED_STACK" Bundle.steD (fun q => B ≤ q) U H ∧ vx_Zq Bundle.tN "SUPPRESSED_SENTINEL" Bundle.listD (fun q => B ≤ q) U H
def jstr : List (Nat × String) := [(56, "no more shapes"), (219, "no such shape"), (82, "no more corners"), (90, "too far"), (224, "a shape is open"), (112, "no such colours or steps"), (155, "no such place in the ring"), (162, "no such colour"), (167, "more boxes than one"), (173, "no more stitches"), (180, "not strictly within"), (185, "others are the other way"), (197, "no such stitch"), (202, "no such part"), (211, "no such pair or side")]
/-- what a throw needs beside its method's own words -/
def jfw : List Cond := [.castable "java/lang/IndexOutOfBoundsException" "java/lang/IndexOutOfBoundsException", .castable "java/lang/IllegalStateException" "java/lang/IllegalStateException", .castable "java/lang/IllegalArgumentException" "java/lang/IllegalArgumentException", .declares (Bundle.initS "java/lang/RuntimeException"), .declares (Bundle.initS "java/lang/Exception"), .declares (Bundle.initS "java/lang/Throwable")]
theorem jfw_t : ∀ w ∈ jfw, w.onTables = true := by decide
theorem jfw_w {u U : State} (hW : u.WarmedH U.vm) : ∀ w ∈ jfw, va_Nw w u → va_Nw w U := by
  intro w hw h
  simp only [jfw, List.mem_cons, List.not_mem_nil, or_false] at hw
  rcases hw with rfl | rfl | rfl | rfl | rfl | rfl
  · exact va_Nw.warmC hW h
  · exact va_Nw.warmC hW h
  · exact va_Nw.warmC hW h
  · exact va_Nw.warmD hW h
  · exact va_Nw.warmD hW h
  · exact va_Nw.warmD hW h
/-- the class object of Object[] lies at D.2 99 0 -/
def PWx (D : va_G) (U : State) : Prop := va_Mi "[Ljava/lang/Object;" (D.2 99 0) U ∧ va_Dc U ∧ va_AO "java/lang/Object" U ∧ va_Nw (.methodLinkNest "ColourParts" 63 ⟨"ColourParts$Shape", "<init>", "()V"⟩ "ColourParts") U ∧ va_Nw (.methodLinkNest "ColourParts" 237 ⟨"ColourParts$Pieces", "<init>", "()V"⟩ "ColourParts") U ∧ ∀ w ∈ jfw, va_Nw w U
theorem PWx.warm {D : va_G} {u U : State} (hW : u.WarmedH U.vm) (h : PWx D u) : PWx D U := ⟨h.1.moved hW.alike, h.2.1.moved hW.alike, h.2.2.1.moved hW.alike, va_Nw.warmM hW h.2.2.2.1, va_Nw.warmM hW h.2.2.2.2.1, fun w hw => jfw_w hW w hw (h.2.2.2.2.2 w hw)⟩
theorem va_Nw.sameV {w : Cond} (hw : w.onTables = true) {u U : State} (h : U.vm = u.vm) (hZ : va_Nw w u) : va_Nw w U := va_tabs hw h.symm hZ
theorem PWx.same {D : va_G} {u U : State} (hv : U.vm = u.vm) (h : PWx D u) : PWx D U := by
  have ha : u.vm.Alike U.vm := by rw [hv]; exact Vm.Alike.refl _
  exact ⟨h.1.moved ha, h.2.1.moved ha, h.2.2.1.moved ha, va_Nw.sameV rfl hv h.2.2.2.1, va_Nw.sameV rfl hv h.2.2.2.2.1, fun w hw => va_Nw.sameV (jfw_t w hw) hv (h.2.2.2.2.2 w hw)⟩
def PWv (l : Launch) (D : va_G) (U : State) : Prop := l.stackTraces = false ∧ va_K D vwCl [] U ∧ (∀ (ci : Nat) (q : vw_C), vwCl[ci]? = some q → va_Nw (.castable q.1 "java/lang/Object") U) ∧ (∀ q ∈ jstr, ∃ a, vk_R "ColourParts" q.1 q.2 a U) ∧ PWx D U
def PW (l : Launch) (B E0 : Nat) (D : va_G) (U : State) : Prop := PWv l D U ∧ B ≤ U.heap.size ∧ PWs B E0 D U U.heap
theorem PWs.moved {B E0 : Nat} {D : va_G} {u U : State} {H : Heap} (hvm : u.vm.Alike U.vm) (h : PWs B E0 D u H) : PWs B E0 D U H := ⟨h.1.moved hvm, h.2.1.moved hvm, h.2.2.moved hvm⟩
theorem PWs.kept {B E0 : Nat} {D : va_G} {U : State} {H H1 : Heap} (h : PWs B E0 D U H) (hq : ∀ a : Nat, a < H.size → ¬ B ≤ a → H1[a]? = H[a]?) : PWs B E0 D U H1 := ⟨h.1.kept hq, h.2.1.kept hq, h.2.2.kept hq⟩
theorem PWv.warm {l : Launch} {D : va_G} {u U : State} (hW : u.WarmedH U.vm) (h : PWv l D u) : PWv l D U :=
  ⟨h.1, va_K.moved hW.alike h.2.1, fun ci q e => va_Nw.warmC hW (h.2.2.1 ci q e), fun q hq => (h.2.2.2.1 q hq).elim fun a ha => ⟨a, ha.warm hW⟩, h.2.2.2.2.warm hW⟩
theorem PWv.same {l : Launch} {D : va_G} {u U : State} (hv : U.vm = u.vm) (h : PWv l D u) : PWv l D U :=
  ⟨h.1, va_K.moved (by rw [hv]; exact Vm.Alike.refl _) h.2.1, fun ci q e => va_Nw.sameV rfl hv (h.2.2.1 ci q e), fun q hq => (h.2.2.2.1 q hq).elim fun a ha => ⟨a, ha.same hv⟩, h.2.2.2.2.same hv⟩
/-- what a method's walk has at hand -/
abbrev JE (X : JC) (own : String) (cc : ByteArray) (nL : Nat) (ws : List Cond) (ret : Option FieldType) (B E0 : Nat) (D : va_G) (l : Launch) (v mc ms : Nat) : Prop :=
  (jx_p X).tables.exec = Jvm.exec ∧ (jx_c X).code = cc ∧ (jx_c X).maxLocals = nL ∧ (jx_s X).vm.findClass own = some (jx_m X).cls ∧ (∀ w ∈ ws, w.before (jx_a X) (jx_s X) = true) ∧ (jx_t X).locks = false ∧ (jx_t X).sig.returnType = ret ∧ PW l B E0 D (jx_s X) ∧ jx_R X = rmv v mc ms ∧ jx_l X = l
def J (X : JC) (B : Nat) (D : va_G) (nL : Nat) (Q : State → Prop) (h : HM) (k n pc : Nat) (L : List (Nat × Value)) (st : List Value) : Prop :=
  ∀ (H : Heap) (locs : List Loc) (ls : Array Slot), hm_R (jx_s X) B D h H → va_S (fun q => B ≤ q) (jx_s X).heap H locs → lv_has ls nL L →
    W (jx_p X) (jx_l X) (jx_e X) (jx_R X) (jx_s X) (jx_m X) (jx_a X) (jx_b X) (jx_t X) (jx_c X) H locs k n Q (F0 (jx_m X) pc ls st)
def cP (l : Launch) (B E0 : Nat) (D : va_G) (As : List Value) (h : HM) : Array Value → State → Prop := va_Pc As (fun U => PW l B E0 D U ∧ hm_R U B D h U.heap)
def cQ (B : Nat) (D : va_G) (post : Option Value → HM → Prop) : Array Value → State → Outcome → State → Prop := fun _ st o t => (∃ (r : Option Value) (h1 : HM), o = .returned r ∧ post r h1 ∧ hm_R t B D h1 t.heap) ∧ va_F (fun q => B ≤ q) st t
def cX (B : Nat) (D : va_G) (px : String → HM → Prop) : String → State → State → Prop := fun E st t => (∃ h1 : HM, px E h1 ∧ hm_R t B D h1 t.heap) ∧ va_F (fun q => B ≤ q) st t
/-- a method's contract: from the map h it returns; 'post' says what, and the map behind -/
def CM (l : Launch) (B E0 : Nat) (D : va_G) (y : MethodName) (ws : List Cond) (v mc ms : Nat) (As : List Value) (h : HM) (post : Option Value → HM → Prop) : Prop :=
  Met l y ws (rmv v mc ms) (cP l B E0 D As h) (cQ B D post) mc ms (fun q => B ≤ q)
/-- .. or throws -/
def CX (l : Launch) (B E0 : Nat) (D : va_G) (y : MethodName) (ws : List Cond) (v mc ms : Nat) (As : List Value) (h : HM) (post : Option Value → HM → Prop) (px : String → HM → Prop) : Prop :=
  vx_Met l y ws (rmv v mc ms) (cP l B E0 D As h) (cQ B D post) (cX B D px) mc ms (fun q => B ≤ q)
theorem cP_blind {l : Launch} {B E0 : Nat} {D : va_G} {As : List Value} {h : HM} : FrameBlind (cP l B E0 D As h) := by
  intro a U g mk q
  obtain ⟨h1, ⟨h2, h3, h4⟩, h5⟩ := q
  exact ⟨h1, ⟨PWv.same (u := U) (U := U.calling g mk a) rfl h2, h3, PWs.moved (u := U) (U := U.calling g mk a) (Vm.Alike.refl U.vm) h4⟩, hm_R.moved (u := U) (U := U.calling g mk a) (Vm.Alike.refl U.vm) h5⟩
def jQ (X : JC) (B : Nat) (D : va_G) (mc ms : Nat) (post : Option Value → HM → Prop) : State → Prop := MQ (jx_b X) (cQ B D post) (jx_a X) (jx_s X) mc ms (fun q => B ≤ q)
def jX (X : JC) (B : Nat) (D : va_G) (mc ms : Nat) (post : Option Value → HM → Prop) (px : String → HM → Prop) : State → Prop := vx_MQ (jx_b X) (cQ B D post) (cX B D px) (jx_a X) (jx_s X) mc ms (fun q => B ≤ q)
theorem CM.of {l : Launch} {B E0 : Nat} {D : va_G} {y : MethodName} {ws ws' : List Cond} {cc : ByteArray} {maxL : Nat} {ret : Option FieldType} {v mc ms : Nat} {As : List Value} {h : HM} {post : Option Value → HM → Prop} (hy : plainName y.cls = true) (hw : ws = Cond.code y cc maxL ret :: ws') (hn : (lg_sl As).length ≤ maxL)
    (body : ∀ X : JC, JE X y.cls cc maxL ws ret B E0 D l v mc ms → (jx_t X).name = y.name → J X B D maxL (jQ X B D mc ms post) h 0 0 0 (lv_args 0 As) []) : CM l B E0 D y ws v mc ms As h post := by
  refine Met.ofW (cc := cc) (maxL := maxL) (ret := ret) hy hw ?_
  intro p e s m args below meth c s₁ Bd hml hv
  obtain ⟨rfl, hPW, hR⟩ := hv
  have hl := lv_entry As (n := maxL) hn
  have key := body (p, l, e, rmv v mc ms, s, m, As.toArray, below, meth, c) ⟨Bd.exec, Bd.bytes, hml, findClass_of_methodNamed Bd.named, atoms_spec (ws := ws) Bd.pre, Bd.notSynchronized, Bd.returns, hPW, rfl, rfl⟩ (name_of_methodNamed Bd.named Bd.method).1
  have k2 := key s.heap [] _ hR va_S.rf hl
  rw [lg_entry_eq]
  exact k2
theorem CX.of {l : Launch} {B E0 : Nat} {D : va_G} {y : MethodName} {ws ws' : List Cond} {cc : ByteArray} {maxL : Nat} {ret : Option FieldType} {v mc ms : Nat} {As : List Value} {h : HM} {post : Option Value → HM → Prop} {px : String → HM → Prop} (hy : plainName y.cls = true) (hw : ws = Cond.code y cc maxL ret :: ws') (hn : (lg_sl As).length ≤ maxL)
    (body : ∀ X : JC, JE X y.cls cc maxL ws ret B E0 D l v mc ms → (∀ x ∈ (jx_c X).exceptionTable.toList, False) → J X B D maxL (jX X B D mc ms post px) h 0 0 0 (lv_args 0 As) []) : CX l B E0 D y ws v mc ms As h post px := by
  refine vx_ofW (cc := cc) (maxL := maxL) (ret := ret) hy hw ?_
  intro p e s m args below meth c s₁ Bd hml htab hv
  obtain ⟨rfl, hPW, hR⟩ := hv
  have hl := lv_entry As (n := maxL) hn
  have key := body (p, l, e, rmv v mc ms, s, m, As.toArray, below, meth, c) ⟨Bd.exec, Bd.bytes, hml, findClass_of_methodNamed Bd.named, atoms_spec (ws := ws) Bd.pre, Bd.notSynchronized, Bd.returns, hPW, rfl, rfl⟩ htab
  have k2 := key s.heap [] _ hR va_S.rf hl
  rw [lg_entry_eq]
  exact k2
section JR
variable {X : JC} {own : String} {cc : ByteArray} {nL : Nat} {ws : List Cond} {ret : Option FieldType} {B E0 : Nat} {D : va_G} {l : Launch} {v mc ms : Nat} {Q : State → Prop} {h : HM} {k n pc : Nat} {L : List (Nat × Value)} {st : List Value}
theorem J.sub (L' : List (Nat × Value)) (hs : jl_sub L' L) (kk : J X B D nL Q h k n pc L' st) : J X B D nL Q h k n pc L st := fun H locs ls hR hS hl => kk H locs ls hR hS ⟨hl.1, hl.2.1, fun q hq => hl.2.2 q (jl_sub_ok hs q hq)⟩
theorem J.wide {k' n' : Nat} (hk : k ≤ k') (hn : n ≤ n') (kk : J X B D nL Q h k' n' pc L st) : J X B D nL Q h k n pc L st := fun H locs ls hR hS hl => W.widen hk hn (kk H locs ls hR hS hl)
theorem J.stk {st' : List Value} (e : st = st') (kk : J X B D nL Q h k n pc L st') : J X B D nL Q h k n pc L st := e ▸ kk
theorem J.top {x x' : Value} (e : x = x') (kk : J X B D nL Q h k n pc L (x' :: st)) : J X B D nL Q h k n pc L (x :: st) := e ▸ kk
theorem J.topi {x x' : Int32} (e : x = x') (kk : J X B D nL Q h k n pc L (.int x' :: st)) : J X B D nL Q h k n pc L (.int x :: st) := e ▸ kk
theorem J.topl {x x' : Int64} (e : x = x') (kk : J X B D nL Q h k n pc L (.long x' :: st)) : J X B D nL Q h k n pc L (.long x :: st) := e ▸ kk
theorem J.hp {h' : HM} (e : h = h') (kk : J X B D nL Q h' k n pc L st) : J X B D nL Q h k n pc L st := e ▸ kk

theorem j_iconst (E : JE X own cc nL ws ret B E0 D l v mc ms) {i : Int} {x : Int32} (d : decode cc pc = .ok (.iconst i, 1)) (hv : Int32.ofInt i = x) (kk : J X B D nL Q h k n (pc + 1) L (.int x :: st)) : J X B D nL Q h k n pc L st := fun H locs ls hR hS hl => lv_iconst E.1 E.2.1 d hv (kk H locs ls hR hS hl)
theorem j_bipush (E : JE X own cc nL ws ret B E0 D l v mc ms) {i : Int} {x : Int32} (d : decode cc pc = .ok (.bipush i, 2)) (hv : (Int8.ofInt i).toInt32 = x) (kk : J X B D nL Q h k n (pc + 2) L (.int x :: st)) : J X B D nL Q h k n pc L st := fun H locs ls hR hS hl => lv_bipush E.1 E.2.1 d hv (kk H locs ls hR hS hl)
theorem j_sipush (E : JE X own cc nL ws ret B E0 D l v mc ms) {i : Int} {x : Int32} (d : decode cc pc = .ok (.sipush i, 3)) (hv : (Int16.ofInt i).toInt32 = x) (kk : J X B D nL Q h k n (pc + 3) L (.int x :: st)) : J X B D nL Q h k n pc L st := fun H locs ls hR hS hl => lv_sipush E.1 E.2.1 d hv (kk H locs ls hR hS hl)
theorem j_lconst (E : JE X own cc nL ws ret B E0 D l v mc ms) {i : Fin 2} {x : Int64} (d : decode cc pc = .ok (.lconst i, 1)) (hv : Int64.ofNat (i : Nat) = x) (kk : J X B D nL Q h k n (pc + 1) L (.long x :: st)) : J X B D nL Q h k n pc L st := fun H locs ls hR hS hl => lv_lconst E.1 E.2.1 d hv (kk H locs ls hR hS hl)
theorem j_null (E : JE X own cc nL ws ret B E0 D l v mc ms)  (d : decode cc pc = .ok (.aconst_null, 1))  (kk : J X B D nL Q h k n (pc + 1) L (.null :: st)) : J X B D nL Q h k n pc L st := fun H locs ls hR hS hl => lv_null E.1 E.2.1 d (kk H locs ls hR hS hl)
theorem j_ldc (E : JE X own cc nL ws ret B E0 D l v mc ms) {i : Nat} {x : Int32} (d : decode cc pc = .ok (.ldc i, 2)) (hc : (Jvm.Cond.constant own i x) ∈ ws) (kk : J X B D nL Q h k n (pc + 2) L (.int x :: st)) : J X B D nL Q h k n pc L st := fun H locs ls hR hS hl => lv_ldc E.1 E.2.1 E.2.2.2.1 (E.2.2.2.2.1 _ hc) d (kk H locs ls hR hS hl)
theorem j_ldcw (E : JE X own cc nL ws ret B E0 D l v mc ms) {i : Nat} {x : Int32} (d : decode cc pc = .ok (.ldc_w i, 3)) (hc : (Jvm.Cond.constant own i x) ∈ ws) (kk : J X B D nL Q h k n (pc + 3) L (.int x :: st)) : J X B D nL Q h k n pc L st := fun H locs ls hR hS hl => lv_ldcw E.1 E.2.1 E.2.2.2.1 (E.2.2.2.2.1 _ hc) d (kk H locs ls hR hS hl)
theorem j_ldc2 (E : JE X own cc nL ws ret B E0 D l v mc ms) {i : Nat} {x : Int64} (d : decode cc pc = .ok (.ldc2_w i, 3)) (hc : (Jvm.Cond.constantLong own i x) ∈ ws) (kk : J X B D nL Q h k n (pc + 3) L (.long x :: st)) : J X B D nL Q h k n pc L st := fun H locs ls hR hS hl => lv_ldc2 E.1 E.2.1 E.2.2.2.1 (E.2.2.2.2.1 _ hc) d (kk H locs ls hR hS hl)
theorem j_iload_n (E : JE X own cc nL ws ret B E0 D l v mc ms) {q : Fin 4} {x : Int32} (d : decode cc pc = .ok (.iload_n q, 1)) (hx : jl_get L q = some (.int x)) (kk : J X B D nL Q h k n (pc + 1) L (.int x :: st)) : J X B D nL Q h k n pc L st := fun H locs ls hR hS hl => lv_iload_n E.1 E.2.1 d rfl (jl_at hl hx) (kk H locs ls hR hS hl)
theorem j_iload (E : JE X own cc nL ws ret B E0 D l v mc ms) {q : Nat} {x : Int32} (d : decode cc pc = .ok (.iload q, 2)) (hx : jl_get L q = some (.int x)) (kk : J X B D nL Q h k n (pc + 2) L (.int x :: st)) : J X B D nL Q h k n pc L st := fun H locs ls hR hS hl => lv_iload E.1 E.2.1 d (jl_at hl hx) (kk H locs ls hR hS hl)
theorem j_lload_n (E : JE X own cc nL ws ret B E0 D l v mc ms) {q : Fin 4} {x : Int64} (d : decode cc pc = .ok (.lload_n q, 1)) (hx : jl_get L q = some (.long x)) (kk : J X B D nL Q h k n (pc + 1) L (.long x :: st)) : J X B D nL Q h k n pc L st := fun H locs ls hR hS hl => lv_lload_n E.1 E.2.1 d rfl (jl_at hl hx) (kk H locs ls hR hS hl)
theorem j_lload (E : JE X own cc nL ws ret B E0 D l v mc ms) {q : Nat} {x : Int64} (d : decode cc pc = .ok (.lload q, 2)) (hx : jl_get L q = some (.long x)) (kk : J X B D nL Q h k n (pc + 2) L (.long x :: st)) : J X B D nL Q h k n pc L st := fun H locs ls hR hS hl => lv_lload E.1 E.2.1 d (jl_at hl hx) (kk H locs ls hR hS hl)
theorem j_aload_n (E : JE X own cc nL ws ret B E0 D l v mc ms) {q : Fin 4} {x : Nat} (d : decode cc pc = .ok (.aload_n q, 1)) (hx : jl_get L q = some (.ref x)) (kk : J X B D nL Q h k n (pc + 1) L (.ref x :: st)) : J X B D nL Q h k n pc L st := fun H locs ls hR hS hl => lv_aload_n E.1 E.2.1 d rfl (jl_at hl hx) (kk H locs ls hR hS hl)
theorem j_aload (E : JE X own cc nL ws ret B E0 D l v mc ms) {q : Nat} {x : Nat} (d : decode cc pc = .ok (.aload q, 2)) (hx : jl_get L q = some (.ref x)) (kk : J X B D nL Q h k n (pc + 2) L (.ref x :: st)) : J X B D nL Q h k n pc L st := fun H locs ls hR hS hl => lv_aload E.1 E.2.1 d (jl_at hl hx) (kk H locs ls hR hS hl)
theorem j_istore_n (E : JE X own cc nL ws ret B E0 D l v mc ms) {q : Fin 4} {x : Int32} (d : decode cc pc = .ok (.istore_n q, 1)) (hn : (q : Nat) < nL) (kk : J X B D nL Q h k n (pc + 1) (jl_set q (.int x) L) st) : J X B D nL Q h k n pc L (.int x :: st) := fun H locs ls hR hS hl => lv_istore_n E.1 E.2.1 d rfl hl hn rfl (fun ls hl => kk H locs ls hR hS hl)
theorem j_istore (E : JE X own cc nL ws ret B E0 D l v mc ms) {q : Nat} {x : Int32} (d : decode cc pc = .ok (.istore q, 2)) (hn : (q : Nat) < nL) (kk : J X B D nL Q h k n (pc + 2) (jl_set q (.int x) L) st) : J X B D nL Q h k n pc L (.int x :: st) := fun H locs ls hR hS hl => lv_istore E.1 E.2.1 d hl hn rfl (fun ls hl => kk H locs ls hR hS hl)
theorem j_lstore_n (E : JE X own cc nL ws ret B E0 D l v mc ms) {q : Fin 4} {x : Int64} (d : decode cc pc = .ok (.lstore_n q, 1)) (hn : (q : Nat) + 1 < nL) (kk : J X B D nL Q h k n (pc + 1) (jl_set2 q (.long x) L) st) : J X B D nL Q h k n pc L (.long x :: st) := fun H locs ls hR hS hl => lv_lstore_n E.1 E.2.1 d rfl hl hn rfl (fun ls hl => kk H locs ls hR hS hl)
theorem j_lstore (E : JE X own cc nL ws ret B E0 D l v mc ms) {q : Nat} {x : Int64} (d : decode cc pc = .ok (.lstore q, 2)) (hn : (q : Nat) + 1 < nL) (kk : J X B D nL Q h k n (pc + 2) (jl_set2 q (.long x) L) st) : J X B D nL Q h k n pc L (.long x :: st) := fun H locs ls hR hS hl => lv_lstore E.1 E.2.1 d hl hn rfl (fun ls hl => kk H locs ls hR hS hl)
theorem j_astore_n (E : JE X own cc nL ws ret B E0 D l v mc ms) {q : Fin 4} {x : Nat} (d : decode cc pc = .ok (.astore_n q, 1)) (hn : (q : Nat) < nL) (kk : J X B D nL Q h k n (pc + 1) (jl_set q (.ref x) L) st) : J X B D nL Q h k n pc L (.ref x :: st) := fun H locs ls hR hS hl => lv_astore_n E.1 E.2.1 d rfl hl hn rfl (fun ls hl => kk H locs ls hR hS hl)
theorem j_astore (E : JE X own cc nL ws ret B E0 D l v mc ms) {q : Nat} {x : Nat} (d : decode cc pc = .ok (.astore q, 2)) (hn : (q : Nat) < nL) (kk : J X B D nL Q h k n (pc + 2) (jl_set q (.ref x) L) st) : J X B D nL Q h k n pc L (.ref x :: st) := fun H locs ls hR hS hl => lv_astore E.1 E.2.1 d hl hn rfl (fun ls hl => kk H locs ls hR hS hl)
theorem j_iinc (E : JE X own cc nL ws ret B E0 D l v mc ms) {q : Nat} {i : Int} {x y : Int32} (d : decode cc pc = .ok (.iinc q i, 3)) (hx : jl_get L q = some (.int x)) (hy : x + Int32.ofInt i = y) (hn : q < nL) (kk : J X B D nL Q h k n (pc + 3) (jl_set q (.int y) L) st) : J X B D nL Q h k n pc L st := by
  intro H locs ls hR hS hl
  obtain ⟨i0, hi0⟩ := List.getElem?_of_mem (jl_mem hx)
  exact lv_iinc E.1 E.2.1 d hl hi0 hy hn rfl (fun ls hl => kk H locs ls hR hS hl)
theorem j_dup (E : JE X own cc nL ws ret B E0 D l v mc ms) {x : Value} (d : decode cc pc = .ok (.dup, 1)) (hx : x.category = 1) (kk : J X B D nL Q h k n (pc + 1) L (x :: x :: st)) : J X B D nL Q h k n pc L (x :: st) := fun H locs ls hR hS hl => lv_dup E.1 E.2.1 d hx (kk H locs ls hR hS hl)
theorem j_pop (E : JE X own cc nL ws ret B E0 D l v mc ms) {x : Value} (d : decode cc pc = .ok (.pop, 1)) (hx : x.category = 1) (kk : J X B D nL Q h k n (pc + 1) L st) : J X B D nL Q h k n pc L (x :: st) := fun H locs ls hR hS hl => lv_pop E.1 E.2.1 d hx (kk H locs ls hR hS hl)
theorem j_dup_x1 (E : JE X own cc nL ws ret B E0 D l v mc ms) {x y : Value} (d : decode cc pc = .ok (.dup_x1, 1)) (hx : x.category = 1) (hy : y.category = 1) (kk : J X B D nL Q h k n (pc + 1) L (x :: y :: x :: st)) : J X B D nL Q h k n pc L (x :: y :: st) := fun H locs ls hR hS hl => lv_dup_x1 E.1 E.2.1 d hx hy (kk H locs ls hR hS hl)
theorem j_dup2 (E : JE X own cc nL ws ret B E0 D l v mc ms) {x y : Value} (d : decode cc pc = .ok (.dup2, 1)) (hx : x.category = 1) (hy : y.category = 1) (kk : J X B D nL Q h k n (pc + 1) L (x :: y :: x :: y :: st)) : J X B D nL Q h k n pc L (x :: y :: st) := fun H locs ls hR hS hl => lv_dup2_11 E.1 E.2.1 d hx hy (kk H locs ls hR hS hl)
theorem j_iadd (E : JE X own cc nL ws ret B E0 D l v mc ms) {x y : Int32} (d : decode cc pc = .ok (.iadd, 1))  (kk : J X B D nL Q h k n (pc + 1) L (.int (x + y) :: st)) : J X B D nL Q h k n pc L (.int y :: .int x :: st) := fun H locs ls hR hS hl => lv_iadd E.1 E.2.1 d (kk H locs ls hR hS hl)
theorem j_isub (E : JE X own cc nL ws ret B E0 D l v mc ms) {x y : Int32} (d : decode cc pc = .ok (.isub, 1))  (kk : J X B D nL Q h k n (pc + 1) L (.int (x - y) :: st)) : J X B D nL Q h k n pc L (.int y :: .int x :: st) := fun H locs ls hR hS hl => lv_isub E.1 E.2.1 d (kk H locs ls hR hS hl)
theorem j_imul (E : JE X own cc nL ws ret B E0 D l v mc ms) {x y : Int32} (d : decode cc pc = .ok (.imul, 1))  (kk : J X B D nL Q h k n (pc + 1) L (.int (x * y) :: st)) : J X B D nL Q h k n pc L (.int y :: .int x :: st) := fun H locs ls hR hS hl => lv_imul E.1 E.2.1 d (kk H locs ls hR hS hl)
theorem j_iand (E : JE X own cc nL ws ret B E0 D l v mc ms) {x y : Int32} (d : decode cc pc = .ok (.iand, 1))  (kk : J X B D nL Q h k n (pc + 1) L (.int (x &&& y) :: st)) : J X B D nL Q h k n pc L (.int y :: .int x :: st) := fun H locs ls hR hS hl => lv_iand E.1 E.2.1 d (kk H locs ls hR hS hl)
theorem j_ior (E : JE X own cc nL ws ret B E0 D l v mc ms) {x y : Int32} (d : decode cc pc = .ok (.ior, 1))  (kk : J X B D nL Q h k n (pc + 1) L (.int (x ||| y) :: st)) : J X B D nL Q h k n pc L (.int y :: .int x :: st) := fun H locs ls hR hS hl => lv_ior E.1 E.2.1 d (kk H locs ls hR hS hl)
theorem j_ixor (E : JE X own cc nL ws ret B E0 D l v mc ms) {x y : Int32} (d : decode cc pc = .ok (.ixor, 1))  (kk : J X B D nL Q h k n (pc + 1) L (.int (x ^^^ y) :: st)) : J X B D nL Q h k n pc L (.int y :: .int x :: st) := fun H locs ls hR hS hl => lv_ixor E.1 E.2.1 d (kk H locs ls hR hS hl)
theorem j_ishl (E : JE X own cc nL ws ret B E0 D l v mc ms) {x y : Int32} (d : decode cc pc = .ok (.ishl, 1))  (kk : J X B D nL Q h k n (pc + 1) L (.int (x <<< (y &&& 31)) :: st)) : J X B D nL Q h k n pc L (.int y :: .int x :: st) := fun H locs ls hR hS hl => lv_ishl E.1 E.2.1 d (kk H locs ls hR hS hl)
theorem j_ishr (E : JE X own cc nL ws ret B E0 D l v mc ms) {x y : Int32} (d : decode cc pc = .ok (.ishr, 1))  (kk : J X B D nL Q h k n (pc + 1) L (.int (x >>> (y &&& 31)) :: st)) : J X B D nL Q h k n pc L (.int y :: .int x :: st) := fun H locs ls hR hS hl => lv_ishr E.1 E.2.1 d (kk H locs ls hR hS hl)
theorem j_iushr (E : JE X own cc nL ws ret B E0 D l v mc ms) {x y z : Int32} (d : decode cc pc = .ok (.iushr, 1)) (hv : (x.toUInt32 >>> (y.toUInt32 &&& Int32.toUInt32 31)).toInt32 = z) (kk : J X B D nL Q h k n (pc + 1) L (.int z :: st)) : J X B D nL Q h k n pc L (.int y :: .int x :: st) := fun H locs ls hR hS hl => lv_iushr E.1 E.2.1 d hv (kk H locs ls hR hS hl)
theorem j_idiv (E : JE X own cc nL ws ret B E0 D l v mc ms) {x y : Int32} (d : decode cc pc = .ok (.idiv, 1)) (hne : ¬ y = 0) (kk : J X B D nL Q h k n (pc + 1) L (.int (x / y) :: st)) : J X B D nL Q h k n pc L (.int y :: .int x :: st) := fun H locs ls hR hS hl => lv_idiv E.1 E.2.1 d hne (kk H locs ls hR hS hl)
theorem j_irem (E : JE X own cc nL ws ret B E0 D l v mc ms) {x y : Int32} (d : decode cc pc = .ok (.irem, 1)) (hne : ¬ y = 0) (kk : J X B D nL Q h k n (pc + 1) L (.int (x - x / y * y) :: st)) : J X B D nL Q h k n pc L (.int y :: .int x :: st) := fun H locs ls hR hS hl => lv_irem E.1 E.2.1 d hne (kk H locs ls hR hS hl)
theorem j_ladd (E : JE X own cc nL ws ret B E0 D l v mc ms) {x y : Int64} (d : decode cc pc = .ok (.ladd, 1))  (kk : J X B D nL Q h k n (pc + 1) L (.long (x + y) :: st)) : J X B D nL Q h k n pc L (.long y :: .long x :: st) := fun H locs ls hR hS hl => lv_ladd E.1 E.2.1 d (kk H locs ls hR hS hl)
theorem j_lsub (E : JE X own cc nL ws ret B E0 D l v mc ms) {x y : Int64} (d : decode cc pc = .ok (.lsub, 1))  (kk : J X B D nL Q h k n (pc + 1) L (.long (x - y) :: st)) : J X B D nL Q h k n pc L (.long y :: .long x :: st) := fun H locs ls hR hS hl => lv_lsub E.1 E.2.1 d (kk H locs ls hR hS hl)
theorem j_lmul (E : JE X own cc nL ws ret B E0 D l v mc ms) {x y : Int64} (d : decode cc pc = .ok (.lmul, 1))  (kk : J X B D nL Q h k n (pc + 1) L (.long (x * y) :: st)) : J X B D nL Q h k n pc L (.long y :: .long x :: st) := fun H locs ls hR hS hl => lv_lmul E.1 E.2.1 d (kk H locs ls hR hS hl)
theorem j_land (E : JE X own cc nL ws ret B E0 D l v mc ms) {x y : Int64} (d : decode cc pc = .ok (.land, 1))  (kk : J X B D nL Q h k n (pc + 1) L (.long (x &&& y) :: st)) : J X B D nL Q h k n pc L (.long y :: .long x :: st) := fun H locs ls hR hS hl => lv_land E.1 E.2.1 d (kk H locs ls hR hS hl)
theorem j_lor (E : JE X own cc nL ws ret B E0 D l v mc ms) {x y : Int64} (d : decode cc pc = .ok (.lor, 1))  (kk : J X B D nL Q h k n (pc + 1) L (.long (x ||| y) :: st)) : J X B D nL Q h k n pc L (.long y :: .long x :: st) := fun H locs ls hR hS hl => lv_lor E.1 E.2.1 d (kk H locs ls hR hS hl)
theorem j_lshl (E : JE X own cc nL ws ret B E0 D l v mc ms) {x z : Int64} {y : Int32} (d : decode cc pc = .ok (.lshl, 1)) (hv : x <<< (y.toInt64 &&& 63) = z) (kk : J X B D nL Q h k n (pc + 1) L (.long z :: st)) : J X B D nL Q h k n pc L (.int y :: .long x :: st) := fun H locs ls hR hS hl => lv_lshl E.1 E.2.1 d hv (kk H locs ls hR hS hl)
theorem j_lcmp (E : JE X own cc nL ws ret B E0 D l v mc ms) {x y : Int64} (d : decode cc pc = .ok (.lcmp, 1))  (kk : J X B D nL Q h k n (pc + 1) L (.int (lg_cmp x y) :: st)) : J X B D nL Q h k n pc L (.long y :: .long x :: st) := fun H locs ls hR hS hl => W.lcmp E.1 E.2.1 d (kk H locs ls hR hS hl)
theorem j_i2l (E : JE X own cc nL ws ret B E0 D l v mc ms) {x : Int32} (d : decode cc pc = .ok (.i2l, 1))  (kk : J X B D nL Q h k n (pc + 1) L (.long x.toInt64 :: st)) : J X B D nL Q h k n pc L (.int x :: st) := fun H locs ls hR hS hl => lv_i2l E.1 E.2.1 d rfl (kk H locs ls hR hS hl)
theorem j_goto (E : JE X own cc nL ws ret B E0 D l v mc ms) {off : Int} {tgt : Nat} (d : decode cc pc = .ok (.goto off, 3)) (ht : (pc : Int) + off = (tgt : Int)) (kk : J X B D nL Q h k n tgt L st) : J X B D nL Q h k n pc L st := fun H locs ls hR hS hl => lv_goto E.1 E.2.1 d ht (kk H locs ls hR hS hl)
theorem j_if_eq (E : JE X own cc nL ws ret B E0 D l v mc ms) {x : Int32} {off : Int} {tgt : Nat} (d : decode cc pc = .ok (.ifCond .eq off, 3)) (ht : (pc : Int) + off = (tgt : Int)) (kt : x = 0 → J X B D nL Q h k n tgt L st) (kf : ¬ x = 0 → J X B D nL Q h k n (pc + 3) L st) : J X B D nL Q h k n pc L (.int x :: st) := fun H locs ls hR hS hl => lv_if_eq E.1 E.2.1 d ht (fun c => kt c H locs ls hR hS hl) (fun c => kf c H locs ls hR hS hl)
theorem j_if_ne (E : JE X own cc nL ws ret B E0 D l v mc ms) {x : Int32} {off : Int} {tgt : Nat} (d : decode cc pc = .ok (.ifCond .ne off, 3)) (ht : (pc : Int) + off = (tgt : Int)) (kt : ¬ x = 0 → J X B D nL Q h k n tgt L st) (kf : x = 0 → J X B D nL Q h k n (pc + 3) L st) : J X B D nL Q h k n pc L (.int x :: st) := fun H locs ls hR hS hl => lv_if_ne E.1 E.2.1 d ht (fun c => kt c H locs ls hR hS hl) (fun c => kf c H locs ls hR hS hl)
theorem j_if_lt (E : JE X own cc nL ws ret B E0 D l v mc ms) {x : Int32} {off : Int} {tgt : Nat} (d : decode cc pc = .ok (.ifCond .lt off, 3)) (ht : (pc : Int) + off = (tgt : Int)) (kt : x < 0 → J X B D nL Q h k n tgt L st) (kf : ¬ x < 0 → J X B D nL Q h k n (pc + 3) L st) : J X B D nL Q h k n pc L (.int x :: st) := fun H locs ls hR hS hl => lv_if_lt E.1 E.2.1 d ht (fun c => kt c H locs ls hR hS hl) (fun c => kf c H locs ls hR hS hl)
theorem j_if_ge (E : JE X own cc nL ws ret B E0 D l v mc ms) {x : Int32} {off : Int} {tgt : Nat} (d : decode cc pc = .ok (.ifCond .ge off, 3)) (ht : (pc : Int) + off = (tgt : Int)) (kt : 0 ≤ x → J X B D nL Q h k n tgt L st) (kf : ¬ 0 ≤ x → J X B D nL Q h k n (pc + 3) L st) : J X B D nL Q h k n pc L (.int x :: st) := fun H locs ls hR hS hl => lv_if_ge E.1 E.2.1 d ht (fun c => kt c H locs ls hR hS hl) (fun c => kf c H locs ls hR hS hl)
theorem j_if_gt (E : JE X own cc nL ws ret B E0 D l v mc ms) {x : Int32} {off : Int} {tgt : Nat} (d : decode cc pc = .ok (.ifCond .gt off, 3)) (ht : (pc : Int) + off = (tgt : Int)) (kt : 0 < x → J X B D nL Q h k n tgt L st) (kf : ¬ 0 < x → J X B D nL Q h k n (pc + 3) L st) : J X B D nL Q h k n pc L (.int x :: st) := fun H locs ls hR hS hl => lv_if_gt E.1 E.2.1 d ht (fun c => kt c H locs ls hR hS hl) (fun c => kf c H locs ls hR hS hl)
theorem j_if_le (E : JE X own cc nL ws ret B E0 D l v mc ms) {x : Int32} {off : Int} {tgt : Nat} (d : decode cc pc = .ok (.ifCond .le off, 3)) (ht : (pc : Int) + off = (tgt : Int)) (kt : x ≤ 0 → J X B D nL Q h k n tgt L st) (kf : ¬ x ≤ 0 → J X B D nL Q h k n (pc + 3) L st) : J X B D nL Q h k n pc L (.int x :: st) := fun H locs ls hR hS hl => lv_if_le E.1 E.2.1 d ht (fun c => kt c H locs ls hR hS hl) (fun c => kf c H locs ls hR hS hl)
theorem j_icmp_eq (E : JE X own cc nL ws ret B E0 D l v mc ms) {x y : Int32} {off : Int} {tgt : Nat} (d : decode cc pc = .ok (.if_icmp .eq off, 3)) (ht : (pc : Int) + off = (tgt : Int)) (kt : x = y → J X B D nL Q h k n tgt L st) (kf : ¬ x = y → J X B D nL Q h k n (pc + 3) L st) : J X B D nL Q h k n pc L (.int y :: .int x :: st) := fun H locs ls hR hS hl => lv_icmp_eq E.1 E.2.1 d ht (fun c => kt c H locs ls hR hS hl) (fun c => kf c H locs ls hR hS hl)
theorem j_icmp_ne (E : JE X own cc nL ws ret B E0 D l v mc ms) {x y : Int32} {off : Int} {tgt : Nat} (d : decode cc pc = .ok (.if_icmp .ne off, 3)) (ht : (pc : Int) + off = (tgt : Int)) (kt : ¬ x = y → J X B D nL Q h k n tgt L st) (kf : x = y → J X B D nL Q h k n (pc + 3) L st) : J X B D nL Q h k n pc L (.int y :: .int x :: st) := fun H locs ls hR hS hl => lv_icmp_ne E.1 E.2.1 d ht (fun c => kt c H locs ls hR hS hl) (fun c => kf c H locs ls hR hS hl)
theorem j_icmp_lt (E : JE X own cc nL ws ret B E0 D l v mc ms) {x y : Int32} {off : Int} {tgt : Nat} (d : decode cc pc = .ok (.if_icmp .lt off, 3)) (ht : (pc : Int) + off = (tgt : Int)) (kt : x < y → J X B D nL Q h k n tgt L st) (kf : ¬ x < y → J X B D nL Q h k n (pc + 3) L st) : J X B D nL Q h k n pc L (.int y :: .int x :: st) := fun H locs ls hR hS hl => lv_icmp_lt E.1 E.2.1 d ht (fun c => kt c H locs ls hR hS hl) (fun c => kf c H locs ls hR hS hl)
theorem j_icmp_ge (E : JE X own cc nL ws ret B E0 D l v mc ms) {x y : Int32} {off : Int} {tgt : Nat} (d : decode cc pc = .ok (.if_icmp .ge off, 3)) (ht : (pc : Int) + off = (tgt : Int)) (kt : y ≤ x → J X B D nL Q h k n tgt L st) (kf : ¬ y ≤ x → J X B D nL Q h k n (pc + 3) L st) : J X B D nL Q h k n pc L (.int y :: .int x :: st) := fun H locs ls hR hS hl => lv_icmp_ge E.1 E.2.1 d ht (fun c => kt c H locs ls hR hS hl) (fun c => kf c H locs ls hR hS hl)
theorem j_icmp_gt (E : JE X own cc nL ws ret B E0 D l v mc ms) {x y : Int32} {off : Int} {tgt : Nat} (d : decode cc pc = .ok (.if_icmp .gt off, 3)) (ht : (pc : Int) + off = (tgt : Int)) (kt : y < x → J X B D nL Q h k n tgt L st) (kf : ¬ y < x → J X B D nL Q h k n (pc + 3) L st) : J X B D nL Q h k n pc L (.int y :: .int x :: st) := fun H locs ls hR hS hl => lv_icmp_gt E.1 E.2.1 d ht (fun c => kt c H locs ls hR hS hl) (fun c => kf c H locs ls hR hS hl)
theorem j_icmp_le (E : JE X own cc nL ws ret B E0 D l v mc ms) {x y : Int32} {off : Int} {tgt : Nat} (d : decode cc pc = .ok (.if_icmp .le off, 3)) (ht : (pc : Int) + off = (tgt : Int)) (kt : x ≤ y → J X B D nL Q h k n tgt L st) (kf : ¬ x ≤ y → J X B D nL Q h k n (pc + 3) L st) : J X B D nL Q h k n pc L (.int y :: .int x :: st) := fun H locs ls hR hS hl => lv_icmp_le E.1 E.2.1 d ht (fun c => kt c H locs ls hR hS hl) (fun c => kf c H locs ls hR hS hl)
theorem j_ifnonnull (E : JE X own cc nL ws ret B E0 D l v mc ms) {x : Nat} {off : Int} {tgt : Nat} (d : decode cc pc = .ok (.ifnonnull off, 3)) (ht : (pc : Int) + off = (tgt : Int)) (kk : J X B D nL Q h k n tgt L st) : J X B D nL Q h k n pc L (.ref x :: st) := fun H locs ls hR hS hl => lv_ifnonnull E.1 E.2.1 d ht (kk H locs ls hR hS hl)
theorem j_ifnull (E : JE X own cc nL ws ret B E0 D l v mc ms) {x : Nat} {off : Int} (d : decode cc pc = .ok (.ifnull off, 3)) (kk : J X B D nL Q h k n (pc + 3) L st) : J X B D nL Q h k n pc L (.ref x :: st) := fun H locs ls hR hS hl => lv_ifnull E.1 E.2.1 d (kk H locs ls hR hS hl)
theorem j_ifnonnullN (E : JE X own cc nL ws ret B E0 D l v mc ms) {off : Int} (d : decode cc pc = .ok (.ifnonnull off, 3)) (kk : J X B D nL Q h k n (pc + 3) L st) : J X B D nL Q h k n pc L (.null :: st) := fun H locs ls hR hS hl => lv_ifnonnullN E.1 E.2.1 d (kk H locs ls hR hS hl)
theorem j_ifnullN (E : JE X own cc nL ws ret B E0 D l v mc ms) {off : Int} {tgt : Nat} (d : decode cc pc = .ok (.ifnull off, 3)) (ht : (pc : Int) + off = (tgt : Int)) (kk : J X B D nL Q h k n tgt L st) : J X B D nL Q h k n pc L (.null :: st) := fun H locs ls hR hS hl => lv_ifnullN E.1 E.2.1 d ht (kk H locs ls hR hS hl)
theorem j_acmp_ne (E : JE X own cc nL ws ret B E0 D l v mc ms) {x y : Nat} {off : Int} {tgt : Nat} (d : decode cc pc = .ok (.if_acmp .ne off, 3)) (ht : (pc : Int) + off = (tgt : Int)) (kt : ¬ x = y → J X B D nL Q h k n tgt L st) (kf : x = y → J X B D nL Q h k n (pc + 3) L st) : J X B D nL Q h k n pc L (.ref y :: .ref x :: st) := fun H locs ls hR hS hl => lv_acmp_ne (rx := some x) (ry := some y) E.1 E.2.1 d ht (fun c => kt (fun e => c (congrArg some e)) H locs ls hR hS hl) (fun c => kf (Option.some.inj c) H locs ls hR hS hl)
theorem j_acmp_eq (E : JE X own cc nL ws ret B E0 D l v mc ms) {x y : Nat} {off : Int} {tgt : Nat} (d : decode cc pc = .ok (.if_acmp .eq off, 3)) (ht : (pc : Int) + off = (tgt : Int)) (kt : x = y → J X B D nL Q h k n tgt L st) (kf : ¬ x = y → J X B D nL Q h k n (pc + 3) L st) : J X B D nL Q h k n pc L (.ref y :: .ref x :: st) := fun H locs ls hR hS hl => lv_acmp_eq (rx := some x) (ry := some y) E.1 E.2.1 d ht (fun c => kt (Option.some.inj c) H locs ls hR hS hl) (fun c => kf (fun e => c (congrArg some e)) H locs ls hR hS hl)
theorem j_table (E : JE X own cc nL ws ret B E0 D l v mc ms) {dflt lo hi : Int} {offs : Array Int} {len : Nat} {x : Int32} {off : Int} {tgt : Nat} (d : decode cc pc = .ok (.tableswitch dflt lo hi offs, len)) (h1 : ¬ x.toInt < lo) (h2 : ¬ hi < x.toInt) (ho : offs[(x.toInt - lo).toNat]? = some off) (ht : (pc : Int) + off = (tgt : Int)) (kk : J X B D nL Q h k n tgt L st) : J X B D nL Q h k n pc L (.int x :: st) := fun H locs ls hR hS hl => lv_tableIn E.1 E.2.1 d h1 h2 ho ht (kk H locs ls hR hS hl)
theorem j_tableD (E : JE X own cc nL ws ret B E0 D l v mc ms) {dflt lo hi : Int} {offs : Array Int} {len : Nat} {x : Int32} {tgt : Nat} (d : decode cc pc = .ok (.tableswitch dflt lo hi offs, len)) (h1 : x.toInt < lo ∨ hi < x.toInt) (ht : (pc : Int) + dflt = (tgt : Int)) (kk : J X B D nL Q h k n tgt L st) : J X B D nL Q h k n pc L (.int x :: st) := fun H locs ls hR hS hl => lv_tableOut E.1 E.2.1 d h1 ht (kk H locs ls hR hS hl)
theorem jx_at {E : JE X own cc nL ws ret B E0 D l v mc ms} {U : State} : True := trivial
theorem je_K (E : JE X own cc nL ws ret B E0 D l v mc ms) : va_K D vwCl [] (jx_s X) := E.2.2.2.2.2.2.2.1.1.2.1
theorem je_B (E : JE X own cc nL ws ret B E0 D l v mc ms) : B ≤ (jx_s X).heap.size := E.2.2.2.2.2.2.2.1.2.1
theorem je_R (E : JE X own cc nL ws ret B E0 D l v mc ms) : jx_R X = rmv v mc ms := E.2.2.2.2.2.2.2.2.1
theorem je_K1 (E : JE X own cc nL ws ret B E0 D l v mc ms) {cA : ClassId} {ty : FieldType} (h1 : ArrOfT (jx_s X) cA ty) (h2 : va_RA (jx_s X) cA ty) : va_K D vwCl [(cA, ty)] (jx_s X) := ⟨(je_K E).1, fun k q hk => by
  cases k with
  | zero => cases hk; exact ⟨h1, h2⟩
  | succ k => simp at hk⟩
theorem hm_P1 {D : va_G} {a : Nat} {e : va_E} {H : Heap} (h : va_at D vwCl (a, e) H) : va_P D vwCl [(a, e)] H := fun k q hk => by
  cases k with
  | zero => cases hk; exact h
  | succ k => simp at hk
theorem va_Sgrow {A : Nat → Prop} {H0 H H1 : Heap} {locs : List Loc} (hS : va_S A H0 H locs) (z : H.size ≤ H1.size) (hq : ∀ q : Nat, q < H.size → H1[q]? = H[q]?) : va_S A H0 H1 locs := ⟨Nat.le_trans hS.1 z, fun x h1 h2 => (hq x (Nat.lt_of_lt_of_le h1 hS.1)).trans (hS.2.1 x h1 h2), hS.2.2⟩
/-- getfield -/
theorem j_getfield (E : JE X own cc nL ws ret B E0 D l v mc ms) {ref C : String} {T : u_T} {N ci index a : Nat} {fs : List Value} {x : Value} (q : Nat) (d : decode cc pc = .ok (.getfield index, 3)) (hin : ∀ w ∈ u_ws C T N, w ∈ ws) (hc : vwCl[ci]? = some (C, T, N)) (hq : q < N) (hlink : Cond.fieldLink own index ref (T q).2.1 (T q).2.2.1 ∈ ws) (href : (T q).1 = ref) (ha : h a = some (hO ci fs)) (hx : fs[q]? = some x) (kk : J X B D nL Q h k n (pc + 3) L (x :: st)) : J X B D nL Q h k n pc L (.ref a :: st) := fun H locs ls hR hS hl =>
  va_get (D := D) (cl := vwCl) (tys := []) (ws := [(a, .inr (ci, fs))]) E.1 E.2.1 E.2.2.2.2.1 hin E.2.2.2.1 (je_K E) (hm_P1 (hR a _ ha).1) 0 rfl hc q hq (E.2.2.2.2.1 _ hlink) (by subst href; exact fun _ h9 => h9) hx d (kk H locs ls hR hS hl)
/-- .. a field inherited -/
theorem j_getfieldU (E : JE X own cc nL ws ret B E0 D l v mc ms) {ref C : String} {T : u_T} {N ci index a : Nat} {fs : List Value} {x : Value} (q : Nat) (d : decode cc pc = .ok (.getfield index, 3)) (hin : ∀ w ∈ u_ws C T N, w ∈ ws) (hc : vwCl[ci]? = some (C, T, N)) (hq : q < N) (hlink : Cond.fieldLink own index ref (T q).2.1 (T q).2.2.1 ∈ ws) (href : Cond.sameField ref (T q).1 (T q).2.1 (T q).2.2.1 ∈ ws) (ha : h a = some (hO ci fs)) (hx : fs[q]? = some x) (kk : J X B D nL Q h k n (pc + 3) L (x :: st)) : J X B D nL Q h k n pc L (.ref a :: st) := fun H locs ls hR hS hl =>
  va_get (D := D) (cl := vwCl) (tys := []) (ws := [(a, .inr (ci, fs))]) E.1 E.2.1 E.2.2.2.2.1 hin E.2.2.2.1 (je_K E) (hm_P1 (hR a _ ha).1) 0 rfl hc q hq (E.2.2.2.2.1 _ hlink) (u_same (E.2.2.2.2.1 _ href)) hx d (kk H locs ls hR hS hl)
/-- putfield -/
theorem j_put0 (E : JE X own cc nL ws ret B E0 D l v mc ms) {ref C : String} {T : u_T} {N ci index a : Nat} {fs : List Value} {x : Value} (q : Nat) (d : decode cc pc = .ok (.putfield index, 3)) (hin : ∀ w ∈ u_ws C T N, w ∈ ws) (ty0 : Nat → FieldType) (hty : ∀ k, k < N → parseFieldDescriptor (T k).2.2.1 = some (ty0 k)) (hnm : ∀ a, a < N → ∀ b, b < N → a ≠ b → (T a).2.1 ≠ (T b).2.1) (hc : vwCl[ci]? = some (C, T, N)) (hq : q < N) (hlink : Cond.fieldLink own index ref (T q).2.1 (T q).2.2.1 ∈ ws) (hsame : ∀ x, (jx_s X).fieldFound? (T q).1 (T q).2.1 (T q).2.2.1 = some x → (jx_s X).fieldFound? ref (T q).2.1 (T q).2.2.1 = some x) (hfin : (T q).2.2.2 = false) (hn : narrow (ty0 q) x = x) (hf : fits (ty0 q) x = true) (ha : h a = some (hO ci fs)) (hl0 : q < fs.length) (kk : J X B D nL Q (hput h a (hO ci (fs.set q x))) k n (pc + 3) L st) : J X B D nL Q h k n pc L (x :: .ref a :: st) := by
  intro H locs ls hR hS hl
  have hts := E.2.2.2.2.1
  have hap := va_apart (own := own) (D := D) (cl := vwCl) (tys := []) hts hin ty0 hty hnm (je_K E) hc
  obtain ⟨r, h1, cell, q1, q2, q3, q4⟩ := (hR a _ ha).1
  have hr : r = (C, T, N) := Option.some.inj (h1.symm.trans hc)
  subst hr
  obtain ⟨hSl, hfc, kC, hkC, hkind⟩ := (je_K E).1 ci _ hc
  obtain ⟨cf, kf, fi, f, hi, hsl⟩ := hSl q hq
  have hlay := hts _ (hin _ (u_in_lay hq))
  unfold u_lay at hlay
  rw [if_neg (by rw [hfin]; decide)] at hlay
  have hst := (u_facts hfc hkC (u_lays hts hin hq) hi).1
  have h6 := u_store hfc hkC hkind hlay hi (hty q hq) hn hf
  refine W.putK E.1 E.2.1 (f := f) ⟨E.2.2.2.1, hts _ hlink, ⟨_, _, _, hsame _ hi⟩, hst⟩ (by rw [q2]; exact h6) q1 q3 (by rw [hsl]; exact k2_hasslot (q4 q hq)) rfl rfl d fun H' e1 e2 e3 => ?_
  rw [hsl] at e1 ⊢
  have hB := hR.B ha
  exact kk H' _ ls (hR.set hB (show va_at D vwCl (a, .inr (ci, fs.set q x)) H' from ⟨_, hc, t_OB.to (V := updV (vp_V fs) q x) ⟨_, e1, q2, q3, t_set q4 hap hq x⟩ (fun j _ => vp_updV_set hl0 x j)⟩) e3) (hS.put e2 e3 hB) hl
theorem j_putfield (E : JE X own cc nL ws ret B E0 D l v mc ms) {ref C : String} {T : u_T} {N ci index a : Nat} {fs : List Value} {x : Value} (q : Nat) (d : decode cc pc = .ok (.putfield index, 3)) (hin : ∀ w ∈ u_ws C T N, w ∈ ws) (ty0 : Nat → FieldType) (hty : ∀ k, k < N → parseFieldDescriptor (T k).2.2.1 = some (ty0 k)) (hnm : ∀ a, a < N → ∀ b, b < N → a ≠ b → (T a).2.1 ≠ (T b).2.1) (hc : vwCl[ci]? = some (C, T, N)) (hq : q < N) (hlink : Cond.fieldLink own index ref (T q).2.1 (T q).2.2.1 ∈ ws) (href : (T q).1 = ref) (hfin : (T q).2.2.2 = false) (hn : narrow (ty0 q) x = x) (hf : fits (ty0 q) x = true) (ha : h a = some (hO ci fs)) (hl0 : q < fs.length) (kk : J X B D nL Q (hput h a (hO ci (fs.set q x))) k n (pc + 3) L st) : J X B D nL Q h k n pc L (x :: .ref a :: st) :=
  j_put0 E q d hin ty0 hty hnm hc hq hlink (by subst href; exact fun _ h9 => h9) hfin hn hf ha hl0 kk
theorem j_putfieldU (E : JE X own cc nL ws ret B E0 D l v mc ms) {ref C : String} {T : u_T} {N ci index a : Nat} {fs : List Value} {x : Value} (q : Nat) (d : decode cc pc = .ok (.putfield index, 3)) (hin : ∀ w ∈ u_ws C T N, w ∈ ws) (ty0 : Nat → FieldType) (hty : ∀ k, k < N → parseFieldDescriptor (T k).2.2.1 = some (ty0 k)) (hnm : ∀ a, a < N → ∀ b, b < N → a ≠ b → (T a).2.1 ≠ (T b).2.1) (hc : vwCl[ci]? = some (C, T, N)) (hq : q < N) (hlink : Cond.fieldLink own index ref (T q).2.1 (T q).2.2.1 ∈ ws) (href : Cond.sameField ref (T q).1 (T q).2.1 (T q).2.2.1 ∈ ws) (hfin : (T q).2.2.2 = false) (hn : narrow (ty0 q) x = x) (hf : fits (ty0 q) x = true) (ha : h a = some (hO ci fs)) (hl0 : q < fs.length) (kk : J X B D nL Q (hput h a (hO ci (fs.set q x))) k n (pc + 3) L st) : J X B D nL Q h k n pc L (x :: .ref a :: st) :=
  j_put0 E q d hin ty0 hty hnm hc hq hlink (u_same (E.2.2.2.2.1 _ href)) hfin hn hf ha hl0 kk
/-- .. of a final field, in the constructor -/
theorem j_putfin (E : JE X own cc nL ws ret B E0 D l v mc ms) {ref C : String} {T : u_T} {N ci index a : Nat} {fs : List Value} {x : Value} (q : Nat) (d : decode cc pc = .ok (.putfield index, 3)) (hin : ∀ w ∈ u_ws C T N, w ∈ ws) (ty0 : Nat → FieldType) (hty : ∀ k, k < N → parseFieldDescriptor (T k).2.2.1 = some (ty0 k)) (hnm : ∀ a, a < N → ∀ b, b < N → a ≠ b → (T a).2.1 ≠ (T b).2.1) (hc : vwCl[ci]? = some (C, T, N)) (hq : q < N) (hlink : Cond.fieldLink own index ref (T q).2.1 (T q).2.2.1 ∈ ws) (href : (T q).1 = ref) (hfin : (T q).2.2.2 = true) (hini : (jx_t X).name = "<init>") (hdecl : (T q).1 = own) (hn : narrow (ty0 q) x = x) (hf : fits (ty0 q) x = true) (ha : h a = some (hO ci fs)) (hl0 : q < fs.length) (kk : J X B D nL Q (hput h a (hO ci (fs.set q x))) k n (pc + 3) L st) : J X B D nL Q h k n pc L (x :: .ref a :: st) := by
  intro H locs ls hR hS hl
  have hts := E.2.2.2.2.1
  have hap := va_apart (own := own) (D := D) (cl := vwCl) (tys := []) hts hin ty0 hty hnm (je_K E) hc
  obtain ⟨r, h1, cell, q1, q2, q3, q4⟩ := (hR a _ ha).1
  have hr : r = (C, T, N) := Option.some.inj (h1.symm.trans hc)
  subst hr
  obtain ⟨hSl, hfc, kC, hkC, hkind⟩ := (je_K E).1 ci _ hc
  obtain ⟨cf, kf, fi, f, hi, hsl⟩ := hSl q hq
  have hlay := hts _ (hin _ (u_in_lay hq))
  unfold u_lay at hlay
  rw [if_pos hfin] at hlay
  have hst := (u_facts hfc hkC (u_lays hts hin hq) hi).1
  have hcf : (jx_m X).cls = cf := by
    obtain ⟨_, _, c', _, _, _, -, -, hf', -, -, -, hown2, -⟩ := Cond.laysFinal_spec hlay
    have e1 : c' = cf := by have := hi.symm.trans hf'; simp at this; exact this.1.symm
    rw [hdecl] at hown2
    rw [← e1]; exact Option.some.inj (E.2.2.2.1.symm.trans hown2)
  have h6 := u_fits hfc hkC hkind (Or.inr hlay) hi (hty q hq) hn hf
  refine W.putFinK E.1 E.2.1 E.2.2.2.1 (hts _ hlink) (by subst href; exact hi) hst hcf hini (by rw [q2]; exact h6) q1 q3 (by rw [hsl]; exact k2_hasslot (q4 q hq)) rfl rfl d fun H' e1 e2 e3 => ?_
  rw [hsl] at e1 ⊢
  have hB := hR.B ha
  exact kk H' _ ls (hR.set hB (show va_at D vwCl (a, .inr (ci, fs.set q x)) H' from ⟨_, hc, t_OB.to (V := updV (vp_V fs) q x) ⟨_, e1, q2, q3, t_set q4 hap hq x⟩ (fun j _ => vp_updV_set hl0 x j)⟩) e3) (hS.put e2 e3 hB) hl

theorem j_iaload (E : JE X own cc nL ws ret B E0 D l v mc ms) {a N : Nat} {f : Nat → Int32} {x : Int32} (i : Nat) (d : decode cc pc = .ok (.iaload, 1)) (ha : h a = some (hI N f)) (hx : x = nI i) (hi : i < N) (hN : N < 2 ^ 31) (kk : J X B D nL Q h k n (pc + 1) L (.int (f i) :: st)) : J X B D nL Q h k n pc L (.int x :: .ref a :: st) := by
  intro H locs ls hR hS hl
  obtain ⟨cA, k1, k2, k3⟩ := (hR a _ ha).1.full (by omega)
  subst hx
  have hin : vp_in (nI i) N := vp_in_nI hi hN
  have key := kk H locs ls hR hS hl
  rw [← nI_clamp (n := i) (by omega)] at key
  exact va_iald (D := D) (cl := vwCl) (ws := [(a, .inl (cA, _))]) E.1 E.2.1 (je_K1 E k1 k2) (hm_P1 k3) 0 0 rfl rfl hin d key
theorem j_laload (E : JE X own cc nL ws ret B E0 D l v mc ms) {a N : Nat} {f : Nat → Int64} {x : Int32} (i : Nat) (d : decode cc pc = .ok (.laload, 1)) (ha : h a = some (hJ N f)) (hx : x = nI i) (hi : i < N) (hN : N < 2 ^ 31) (kk : J X B D nL Q h k n (pc + 1) L (.long (f i) :: st)) : J X B D nL Q h k n pc L (.int x :: .ref a :: st) := by
  intro H locs ls hR hS hl
  obtain ⟨cA, k1, k2, k3⟩ := (hR a _ ha).1.full (by omega)
  subst hx
  have hin : vp_in (nI i) N := vp_in_nI hi hN
  have key := kk H locs ls hR hS hl
  rw [← nI_clamp (n := i) (by omega)] at key
  exact va_lald (D := D) (cl := vwCl) (ws := [(a, .inl (cA, _))]) E.1 E.2.1 (je_K1 E k1 k2) (hm_P1 k3) 0 0 rfl rfl hin d key
theorem j_zaload (E : JE X own cc nL ws ret B E0 D l v mc ms) {a N : Nat} {f : Nat → Int32} {x : Int32} (i : Nat) (d : decode cc pc = .ok (.baload, 1)) (ha : h a = some (hZ N f)) (hx : x = nI i) (hi : i < N) (hN : N < 2 ^ 31) (kk : J X B D nL Q h k n (pc + 1) L (.int (f i) :: st)) : J X B D nL Q h k n pc L (.int x :: .ref a :: st) := by
  intro H locs ls hR hS hl
  obtain ⟨cA, k1, k2, k3⟩ := (hR a _ ha).1.full (by omega)
  subst hx
  have hin : vp_in (nI i) N := vp_in_nI hi hN
  have key := kk H locs ls hR hS hl
  rw [← nI_clamp (n := i) (by omega)] at key
  exact va_zald (D := D) (cl := vwCl) (ws := [(a, .inl (cA, _))]) E.1 E.2.1 (je_K1 E k1 k2) (hm_P1 k3) 0 0 rfl rfl hin d key
theorem j_aaload (E : JE X own cc nL ws ret B E0 D l v mc ms) {a N : Nat} {f : Nat → Option Nat} {x : Int32} {y : Option Nat} (i : Nat) (d : decode cc pc = .ok (.aaload, 1)) (ha : h a = some (hQ N f)) (hx : x = nI i) (hi : i < N) (hN : N < 2 ^ 31) (hy : f i = y) (kk : J X B D nL Q h k n (pc + 1) L (va_rf y :: st)) : J X B D nL Q h k n pc L (.int x :: .ref a :: st) := by
  intro H locs ls hR hS hl
  obtain ⟨cA, k1, k2, k3⟩ := (hR a _ ha).1.full (by omega)
  subst hx hy
  have hin : vp_in (nI i) N := vp_in_nI hi hN
  have key := kk H locs ls hR hS hl
  rw [← nI_clamp (n := i) (by omega)] at key
  exact va_aldq (D := D) (cl := vwCl) (ws := [(a, .inl (cA, _))]) E.1 E.2.1 (je_K1 E k1 k2) (hm_P1 k3) 0 0 rfl rfl hin d key
theorem j_alen (E : JE X own cc nL ws ret B E0 D l v mc ms) {a N : Nat} {ty : FieldType} {f} (d : decode cc pc = .ok (.arraylength, 1)) (ha : h a = some (.inl (ty, (N, f)))) (kk : J X B D nL Q h k n (pc + 1) L (.int (nI N) :: st)) : J X B D nL Q h k n pc L (.ref a :: st) := by
  intro H locs ls hR hS hl
  rcases (hR a _ ha).1 with ⟨cA, k1, k2, k3⟩ | ⟨h0, cell, h1, h2, h3⟩
  · exact va_alen (D := D) (cl := vwCl) (ws := [(a, .inl (cA, _))]) E.1 E.2.1 (je_K1 E k1 k2) (hm_P1 k3) 0 0 rfl rfl rfl d (kk H locs ls hR hS hl)
  · have h0 : N = 0 := h0
    subst h0
    exact W.alen (n := nI 0) E.1 E.2.1 h1 h2 (h3.trans rfl) rfl rfl d (kk H locs ls hR hS hl)
theorem j_iastore (E : JE X own cc nL ws ret B E0 D l v mc ms) {a N : Nat} {f : Nat → Int32} {x : Int32} {y : Int32} (i : Nat) (d : decode cc pc = .ok (.iastore, 1)) (ha : h a = some (hI N f)) (hx : x = nI i) (hi : i < N) (hN : N < 2 ^ 31) (kk : J X B D nL Q (hput h a (hI N (upd f i y))) k n (pc + 1) L st) : J X B D nL Q h k n pc L (.int y :: .int x :: .ref a :: st) := by
  intro H locs ls hR hS hl
  obtain ⟨cA, k1, k2, k3⟩ := (hR a _ ha).1.full (by omega)
  subst hx
  have hin : vp_in (nI i) N := vp_in_nI hi hN
  have ei : (nI i).toNatClampNeg = i := nI_clamp (by omega)
  have hB := hR.BA ha hi
  refine W.iast E.1 E.2.1 k3 (k1 N (fun j => .int (f j))) (fun q => by cases q) (by show ¬ (nI i < 0 ∨ (arrV _ _ _).slots.size ≤ _); rw [arrV_size]; exact hin) rfl rfl d fun H1 e z oq => ?_
  refine kk H1 _ ls (hR.set hB (Or.inl ⟨cA, k1, k2, ?_⟩) oq) (hS.put z oq hB) hl
  rw [e, ei]
  rw [vp_cell_i, vp_cell_i, arrV_store]
  congr 2
  funext q
  by_cases hq : q = i
  · subst hq
    simp [updV, upd]
  · simp [updV, upd, hq]
theorem j_lastore (E : JE X own cc nL ws ret B E0 D l v mc ms) {a N : Nat} {f : Nat → Int64} {x : Int32} {y : Int64} (i : Nat) (d : decode cc pc = .ok (.lastore, 1)) (ha : h a = some (hJ N f)) (hx : x = nI i) (hi : i < N) (hN : N < 2 ^ 31) (kk : J X B D nL Q (hput h a (hJ N (vp_updL f i y))) k n (pc + 1) L st) : J X B D nL Q h k n pc L (.long y :: .int x :: .ref a :: st) := by
  intro H locs ls hR hS hl
  obtain ⟨cA, k1, k2, k3⟩ := (hR a _ ha).1.full (by omega)
  subst hx
  have hin : vp_in (nI i) N := vp_in_nI hi hN
  have ei : (nI i).toNatClampNeg = i := nI_clamp (by omega)
  have hB := hR.BA ha hi
  refine W.last E.1 E.2.1 k3 (k1 N (fun j => .long (f j))) (fun q => by cases q) (by show ¬ (nI i < 0 ∨ (arrV _ _ _).slots.size ≤ _); rw [arrV_size]; exact hin) rfl rfl d fun H1 e z oq => ?_
  refine kk H1 _ ls (hR.set hB (Or.inl ⟨cA, k1, k2, ?_⟩) oq) (hS.put z oq hB) hl
  rw [e, ei]
  rw [vp_cell_l, vp_cell_l, arrV_store]
  congr 2
  funext q
  by_cases hq : q = i
  · subst hq
    simp [updV, vp_updL]
  · simp [updV, vp_updL, hq]
theorem j_zastore (E : JE X own cc nL ws ret B E0 D l v mc ms) {a N : Nat} {f : Nat → Int32} {x y : Int32} (i : Nat) (d : decode cc pc = .ok (.bastore, 1)) (ha : h a = some (hZ N f)) (hx : x = nI i) (hi : i < N) (hN : N < 2 ^ 31) (hn : narrow .boolean (.int y) = .int y) (kk : J X B D nL Q (hput h a (hZ N (upd f i y))) k n (pc + 1) L st) : J X B D nL Q h k n pc L (.int y :: .int x :: .ref a :: st) := by
  intro H locs ls hR hS hl
  obtain ⟨cA, k1, k2, k3⟩ := (hR a _ ha).1.full (by omega)
  subst hx
  have hin : vp_in (nI i) N := vp_in_nI hi hN
  have ei : (nI i).toNatClampNeg = i := nI_clamp (by omega)
  have hB := hR.BA ha hi
  refine W.zast E.1 E.2.1 k3 (k1 N (fun j => .int (f j))) (fun q => by cases q) (by show ¬ (nI i < 0 ∨ (arrV _ _ _).slots.size ≤ _); rw [arrV_size]; exact hin) rfl rfl d fun H1 e z oq => ?_
  refine kk H1 _ ls (hR.set hB (Or.inl ⟨cA, k1, k2, ?_⟩) oq) (hS.put z oq hB) hl
  rw [e, ei, hn]
  rw [vp_cell_i, vp_cell_i, arrV_store]
  congr 2
  funext q
  by_cases hq : q = i
  · subst hq
    simp [updV, upd]
  · simp [updV, upd, hq]
theorem j_aastore (E : JE X own cc nL ws ret B E0 D l v mc ms) {a N y ci : Nat} {fs : List Value} {r : vw_C} {f : Nat → Option Nat} {x : Int32} (i : Nat) (d : decode cc pc = .ok (.aastore, 1)) (ha : h a = some (hQ N f)) (hx : x = nI i) (hi : i < N) (hN : N < 2 ^ 31) (hy : h y = some (hO ci fs)) (hc : vwCl[ci]? = some r) (kk : J X B D nL Q (hput h a (hQ N (va_up f i (some y)))) k n (pc + 1) L st) : J X B D nL Q h k n pc L (.ref y :: .int x :: .ref a :: st) := by
  intro H locs ls hR hS hl
  obtain ⟨cA, k1, k2, k3⟩ := (hR a _ ha).1.full (by omega)
  subst hx
  have ei : (nI i).toNatClampNeg = i := nI_clamp (by omega)
  have hB := hR.BA ha hi
  obtain ⟨r', hr', cellV, g1, g2, g3, -⟩ := (hR y _ hy).1
  cases hc.symm.trans hr'
  have hcls := ((je_K E).1 ci r hc).2
  obtain ⟨kA, comp, c1, c2, c3, c4⟩ := k2
  obtain ⟨kE, hkE, -⟩ := Vm.findClass_spec c3
  obtain ⟨c0, t1, f1, f2, f3⟩ := Cond.castable_spec (va_Nw.use (A := jx_a X) rfl (E.2.2.2.2.2.2.2.1.1.2.2.1 ci r hc))
  cases hcls.1.symm.trans f1
  cases c3.symm.trans f2
  obtain ⟨kC, hkC, -⟩ := hcls.2
  refine W.aast E.1 E.2.1 k3 (fun q h => by cases h) (fun h => by cases h) c1 c2 rfl hkE ⟨nI_pos (by omega), by show _ < (arrV _ _ _).slots.size; rw [arrV_size, ei]; exact hi⟩ g1 (fun q h => by rw [g3] at h; cases h) (by rw [g2]; exact hkC) (by rw [g2]; exact f3) rfl rfl d fun H1 e z oq => ?_
  refine kk H1 _ ls (hR.set hB (Or.inl ⟨cA, k1, ⟨kA, comp, c1, c2, c3, c4⟩, ?_⟩) oq) (hS.put z oq hB) hl
  rw [e, ei]
  rw [vp_cell_q, vp_cell_q, arrV_store]
  congr 2
  funext q
  by_cases hq : q = i
  · subst hq
    simp [updV, va_up, va_rf]
  · simp [updV, va_up, hq]
theorem j_aastoreN (E : JE X own cc nL ws ret B E0 D l v mc ms) {a N : Nat} {f : Nat → Option Nat} {x : Int32} (i : Nat) (d : decode cc pc = .ok (.aastore, 1)) (ha : h a = some (hQ N f)) (hx : x = nI i) (hi : i < N) (hN : N < 2 ^ 31) (kk : J X B D nL Q (hput h a (hQ N (va_up f i none))) k n (pc + 1) L st) : J X B D nL Q h k n pc L (.null :: .int x :: .ref a :: st) := by
  intro H locs ls hR hS hl
  obtain ⟨cA, k1, k2, k3⟩ := (hR a _ ha).1.full (by omega)
  subst hx
  have hin : vp_in (nI i) N := vp_in_nI hi hN
  have ei : (nI i).toNatClampNeg = i := nI_clamp (by omega)
  have hB := hR.BA ha hi
  refine va_WaastN (C := "java/lang/Object") E.1 E.2.1 k3 (k1 N (fun j => va_rf (f j))) (fun h => by cases h) (by show ¬ (nI i < 0 ∨ (arrV _ _ _).slots.size ≤ _); rw [arrV_size]; exact hin) rfl rfl d fun H1 e z oq => ?_
  refine kk H1 _ ls (hR.set hB (Or.inl ⟨cA, k1, k2, ?_⟩) oq) (hS.put z oq hB) hl
  rw [e, ei]
  rw [vp_cell_q, vp_cell_q, arrV_store]
  congr 2
  funext q
  by_cases hq : q = i
  · subst hq
    simp [updV, va_up, va_rf]
  · simp [updV, va_up, hq]
theorem j_newI (E : JE X own cc nL ws ret B E0 D l v mc ms) {x : Int32} (N : Nat) (d : decode cc pc = .ok (.newarray .int, 2)) (hw : Cond.arrayClass .int ∈ ws) (hx : x = nI N) (hN : N < 1000000) (hk : k + 1 ≤ mc) (hs : n + N ≤ ms) (kk : ∀ q : Nat, h q = none → B ≤ q → J X B D nL Q (hput h q (hI N (fun _ => 0))) (k + 1) (n + N) (pc + 2) L (.ref q :: st)) : J X B D nL Q h k n pc L (.int x :: st) := by
  intro H locs ls hR hS hl
  subst hx
  have hBs : B ≤ H.size := Nat.le_trans (je_B E) hS.1
  refine va_newaK (atype := .int) E.1 E.2.1 (E.2.2.2.2.1 _ hw) rfl d rfl (nI_pos (by omega)) (N := N) (nI_clamp (by omega)) (Nat.le_trans (Nat.mul_le_mul_right _ (Nat.le_of_lt hN)) (by decide)) (by rw [je_R E]; exact hk) (by rw [je_R E]; exact hs) rfl fun H1 cA e1 z1 o1 hAr hNm => ?_
  refine kk H.size hR.none hBs H1 locs ls (hR.push hBs (Or.inl ⟨cA, hAr, hNm, ?_⟩) o1) (va_Sgrow hS (by omega) o1) hl
  rw [vp_cell_i]
  exact e1
theorem j_newJ (E : JE X own cc nL ws ret B E0 D l v mc ms) {x : Int32} (N : Nat) (d : decode cc pc = .ok (.newarray .long, 2)) (hw : Cond.arrayClass .long ∈ ws) (hx : x = nI N) (hN : N < 1000000) (hk : k + 1 ≤ mc) (hs : n + N ≤ ms) (kk : ∀ q : Nat, h q = none → B ≤ q → J X B D nL Q (hput h q (hJ N (fun _ => 0))) (k + 1) (n + N) (pc + 2) L (.ref q :: st)) : J X B D nL Q h k n pc L (.int x :: st) := by
  intro H locs ls hR hS hl
  subst hx
  have hBs : B ≤ H.size := Nat.le_trans (je_B E) hS.1
  refine va_newaK (atype := .long) E.1 E.2.1 (E.2.2.2.2.1 _ hw) rfl d rfl (nI_pos (by omega)) (N := N) (nI_clamp (by omega)) (Nat.le_trans (Nat.mul_le_mul_right _ (Nat.le_of_lt hN)) (by decide)) (by rw [je_R E]; exact hk) (by rw [je_R E]; exact hs) rfl fun H1 cA e1 z1 o1 hAr hNm => ?_
  refine kk H.size hR.none hBs H1 locs ls (hR.push hBs (Or.inl ⟨cA, hAr, hNm, ?_⟩) o1) (va_Sgrow hS (by omega) o1) hl
  rw [vp_cell_l]
  exact e1
theorem j_newZ (E : JE X own cc nL ws ret B E0 D l v mc ms) {x : Int32} (N : Nat) (d : decode cc pc = .ok (.newarray .boolean, 2)) (hw : Cond.arrayClass .boolean ∈ ws) (hx : x = nI N) (hN : N < 1000000) (hk : k + 1 ≤ mc) (hs : n + N ≤ ms) (kk : ∀ q : Nat, h q = none → B ≤ q → J X B D nL Q (hput h q (hZ N (fun _ => 0))) (k + 1) (n + N) (pc + 2) L (.ref q :: st)) : J X B D nL Q h k n pc L (.int x :: st) := by
  intro H locs ls hR hS hl
  subst hx
  have hBs : B ≤ H.size := Nat.le_trans (je_B E) hS.1
  refine va_newaK (atype := .boolean) E.1 E.2.1 (E.2.2.2.2.1 _ hw) rfl d rfl (nI_pos (by omega)) (N := N) (nI_clamp (by omega)) (Nat.le_trans (Nat.mul_le_mul_right _ (Nat.le_of_lt hN)) (by decide)) (by rw [je_R E]; exact hk) (by rw [je_R E]; exact hs) rfl fun H1 cA e1 z1 o1 hAr hNm => ?_
  refine kk H.size hR.none hBs H1 locs ls (hR.push hBs (Or.inl ⟨cA, hAr, hNm, ?_⟩) o1) (va_Sgrow hS (by omega) o1) hl
  rw [vp_cell_i]
  exact e1
theorem j_newQ (E : JE X own cc nL ws ret B E0 D l v mc ms) {x : Int32} {index : Nat} (N : Nat) (d : decode cc pc = .ok (.anewarray index, 3)) (hw : Cond.classLink own index "java/lang/Object" ∈ ws) (hx : x = nI N) (hN : N < 1000000) (hk : k + 1 ≤ mc) (hs : n + N ≤ ms) (kk : ∀ q : Nat, h q = none → B ≤ q → J X B D nL Q (hput h q (hQ N (fun _ => none))) (k + 1) (n + N) (pc + 3) L (.ref q :: st)) : J X B D nL Q h k n pc L (.int x :: st) := by
  intro H locs ls hR hS hl
  subst hx
  have hBs : B ≤ H.size := Nat.le_trans (je_B E) hS.1
  have ei : (nI N).toNatClampNeg = N := nI_clamp (by omega)
  refine W.anew E.1 E.2.1 E.2.2.2.1 (E.2.2.2.2.1 _ hw) (va_AO.use E.2.2.2.2.2.2.2.1.1.2.2.2.2.2.2.1) rfl d rfl (nI_pos (by omega)) (by rw [ei]; omega) (by rw [je_R E]; exact hk) (by rw [je_R E, ei]; exact hs) fun cA kA comp f1 f2 f3 f4 => ?_
  rw [ei]
  generalize hH1 : H.push ({ cls := cA, slots := Array.replicate N .null, vm := .none } : Cell) = H1
  have z1 : H1.size = H.size + 1 := by rw [← hH1, Array.size_push]
  have e1 : H1[H.size]? = some (arrV cA N (fun _ => .null)) := by rw [← hH1, Array.getElem?_push_size, ← arrV_new]
  have o1 : ∀ q : Nat, q < H.size → H1[q]? = H[q]? := fun q hq => by rw [← hH1, Array.getElem?_push, if_neg (Nat.ne_of_lt hq)]
  refine kk H.size hR.none hBs H1 locs ls (hR.push hBs (Or.inl ⟨cA, fun N z => ⟨(fun k h => by cases h), kA, f2, comp, f3⟩, ⟨kA, comp, f2, f3, f4, f1⟩, ?_⟩) o1) (va_Sgrow hS (by omega) o1) hl
  rw [vp_cell_q]
  exact e1
theorem j_new (E : JE X own cc nL ws ret B E0 D l v mc ms) {C : String} {T : u_T} {N ci index : Nat} (fs : List Value) (d : decode cc pc = .ok (.new index, 3)) (hin : ∀ w ∈ u_ws C T N, w ∈ ws) (ty : Nat → FieldType) (hty : ∀ k, k < N → parseFieldDescriptor (T k).2.2.1 = some (ty k)) (hcl : Cond.classLink own index C ∈ ws) (hinst : Cond.instantiable C N ∈ ws) (hini : Cond.initialized C ∈ ws) (hc : vwCl[ci]? = some (C, T, N)) (hfs : ∀ j, j < N → defaultValue (ty j) = vp_V fs j) (hk : k + 1 ≤ mc) (hs : n + N ≤ ms) (kk : ∀ q : Nat, h q = none → B ≤ q → J X B D nL Q (hput h q (hO ci fs)) (k + 1) (n + N) (pc + 3) L (.ref q :: st)) : J X B D nL Q h k n pc L st := by
  intro H locs ls hR hS hl
  have hts := E.2.2.2.2.1
  have hBs : B ≤ H.size := Nat.le_trans (je_B E) hS.1
  have hKn := (je_K E).1 ci _ hc
  refine W.newcK E.1 E.2.1 E.2.2.2.1 (hts _ hcl) (hts _ hinst) (hts _ hini) rfl d (by rw [je_R E]; exact hk) (by rw [je_R E]; exact hs) hKn.2.1 rfl fun H1 kC hkC e1 z1 o1 => ?_
  exact kk H.size hR.none hBs H1 locs ls (hR.push hBs (show va_at D vwCl (H.size, .inr (ci, fs)) H1 from ⟨_, hc, (u_born ty hts hin hKn hkC e1 hty).to hfs⟩) o1) (va_Sgrow hS (by omega) o1) hl
theorem j_getE0 (E : JE X own cc nL ws ret B E0 D l v mc ms) {index : Nat} (d : decode cc pc = .ok (.getstatic index, 3)) (hlink : Cond.fieldLink own index "java/util/ArrayList" "DEFAULTCAPACITY_EMPTY_ELEMENTDATA" "[Ljava/lang/Object;" ∈ ws) (kk : J X B D nL Q h k n (pc + 3) L (.ref E0 :: st)) : J X B D nL Q h k n pc L st := fun H locs ls hR hS hl =>
  va_gets E.1 E.2.1 E.2.2.2.2.2.2.2.1.2.2.1 hS E.2.2.2.1 (E.2.2.2.2.1 _ hlink) (fun _ h => h) d (kk H locs ls hR hS hl)
theorem j_cast (E : JE X own cc nL ws ret B E0 D l v mc ms) {C : String} {T : u_T} {N ci index a : Nat} {fs : List Value} (d : decode cc pc = .ok (.checkcast index, 3)) (hlink : Cond.classLink own index C ∈ ws) (hc : vwCl[ci]? = some (C, T, N)) (ha : h a = some (hO ci fs)) (kk : J X B D nL Q h k n (pc + 3) L (.ref a :: st)) : J X B D nL Q h k n pc L (.ref a :: st) := fun H locs ls hR hS hl =>
  va_castS E.1 E.2.1 E.2.2.2.1 (E.2.2.2.2.1 _ hlink) ((je_K E).1 ci _ hc).2 (va_recv (q := (C, T, N)) (je_K E) (hm_P1 (a := a) (e := .inr (ci, fs)) (hR a _ ha).1) hc (q0 := 0) rfl) d (kk H locs ls hR hS hl)
theorem j_castQ (E : JE X own cc nL ws ret B E0 D l v mc ms) {N index a : Nat} {f : Nat → Option Nat} (d : decode cc pc = .ok (.checkcast index, 3)) (hlink : Cond.classLink own index "[Ljava/lang/Object;" ∈ ws) (ha : h a = some (hQ N f)) (h0 : 0 < N) (kk : J X B D nL Q h k n (pc + 3) L (.ref a :: st)) : J X B D nL Q h k n pc L (.ref a :: st) := by
  intro H locs ls hR hS hl
  obtain ⟨cA, k1, k2, k3⟩ := (hR a _ ha).1.full h0
  exact va_castA E.1 E.2.1 E.2.2.2.1 (E.2.2.2.2.1 _ hlink) (D := D) (cl := vwCl) (ws := [(a, .inl (cA, _))]) (hm_P1 k3) 0 rfl (va_nmO (C := "java/lang/Object") k2 (by decide)) d (kk H locs ls hR hS hl)
theorem j_objInit (E : JE X own cc nL ws ret B E0 D l v mc ms) {index a : Nat} (d : decode cc pc = .ok (.invokespecial index, 3)) (hlink : Cond.methodLink own index Lib.objectInit ∈ ws) (hi : Cond.instanceMethod Lib.objectInit ∈ ws) (hcode : Cond.code Lib.objectInit ⟨#[0xb1]⟩ 1 none ∈ ws) (hv : 1 ≤ v) (hcat : (st.map fun x => x.category).sum ≤ 8) (kk : J X B D nL Q h k n (pc + 3) L st) : J X B D nL Q h k n pc L (.ref a :: st) := by
  intro H locs ls hR hS hl
  have hts := E.2.2.2.2.1
  refine W.objInit E.1 E.2.1 E.2.2.2.1 (hts _ hlink) (hts _ hi) (hts _ hcode) rfl (by rw [E.2.2.1]; exact hl.1) rfl d (by rw [je_R E]; exact hv) (by rw [je_R E]; show 2 * 0 + _ + 12 ≤ 64 * v; omega) ?_
  exact W.eq (g2 := F0 (jx_m X) (pc + 3) ls st) rfl (kk H locs ls hR hS hl)
theorem j_mmaxl (E : JE X own cc nL ws ret B E0 D l v mc ms) {index : Nat} {x y : Int64} (d : decode cc pc = .ok (.invokestatic index, 3)) (hlink : Cond.methodLink own index Lib.MathLoose.max_long.x ∈ ws) (hstat : Cond.static Lib.MathLoose.max_long.x ∈ ws) (hini : Cond.initialized "java/lang/Math" ∈ ws) (hcode : Cond.code Lib.MathLoose.max_long.x Lib.MathLoose.max_long.code 4 (some .long) ∈ ws) (hv : 1 ≤ v) (hcat : (st.map fun x => x.category).sum ≤ 40) (hk : k ≤ mc) (hs : n ≤ ms) (kk : J X B D nL Q h k n (pc + 3) L (.long (if y < x then x else y) :: st)) : J X B D nL Q h k n pc L (.long y :: .long x :: st) := by
  intro H locs ls hR hS hl
  have hts := E.2.2.2.2.1
  exact va_mmax_long E.1 E.2.1 (by rw [E.2.2.1]; exact hl.1.symm) E.2.2.2.1 (hts _ hlink) (hts _ hstat) (hts _ hini) (hts _ hcode) (by rw [je_R E]; exact hv) (by rw [je_R E]; show _ + 15 ≤ 64 * v; omega) (by rw [je_R E]; exact hk) (by rw [je_R E]; exact hs) d (kk H locs ls hR hS hl)
theorem j_mminl (E : JE X own cc nL ws ret B E0 D l v mc ms) {index : Nat} {x y : Int64} (d : decode cc pc = .ok (.invokestatic index, 3)) (hlink : Cond.methodLink own index Lib.MathLoose.min_long.x ∈ ws) (hstat : Cond.static Lib.MathLoose.min_long.x ∈ ws) (hini : Cond.initialized "java/lang/Math" ∈ ws) (hcode : Cond.code Lib.MathLoose.min_long.x Lib.MathLoose.min_long.code 4 (some .long) ∈ ws) (hv : 1 ≤ v) (hcat : (st.map fun x => x.category).sum ≤ 40) (hk : k ≤ mc) (hs : n ≤ ms) (kk : J X B D nL Q h k n (pc + 3) L (.long (if y < x then y else x) :: st)) : J X B D nL Q h k n pc L (.long y :: .long x :: st) := by
  intro H locs ls hR hS hl
  have hts := E.2.2.2.2.1
  exact va_mmin_long E.1 E.2.1 (by rw [E.2.2.1]; exact hl.1.symm) E.2.2.2.1 (hts _ hlink) (hts _ hstat) (hts _ hini) (hts _ hcode) (by rw [je_R E]; exact hv) (by rw [je_R E]; show _ + 15 ≤ 64 * v; omega) (by rw [je_R E]; exact hk) (by rw [je_R E]; exact hs) d (kk H locs ls hR hS hl)
theorem j_mmax (E : JE X own cc nL ws ret B E0 D l v mc ms) {index : Nat} {x y : Int32} (d : decode cc pc = .ok (.invokestatic index, 3)) (hlink : Cond.methodLink own index Lib.Math.max.name ∈ ws) (hstat : Cond.static Lib.Math.max.name ∈ ws) (hini : Cond.initialized "java/lang/Math" ∈ ws) (hcode : Cond.code Lib.Math.max.name Lib.Math.max.code 2 (some .int) ∈ ws) (hv : 1 ≤ v) (hcat : (st.map fun x => x.category).sum ≤ 40) (hk : k ≤ mc) (hs : n ≤ ms) (kk : J X B D nL Q h k n (pc + 3) L (.int (if x < y then y else x) :: st)) : J X B D nL Q h k n pc L (.int y :: .int x :: st) := by
  intro H locs ls hR hS hl
  have hts := E.2.2.2.2.1
  exact va_mmax E.1 E.2.1 (by rw [E.2.2.1]; exact hl.1.symm) E.2.2.2.1 (hts _ hlink) (hts _ hstat) (hts _ hini) (hts _ hcode) (by rw [je_R E]; exact hv) (by rw [je_R E]; show _ + 13 ≤ 64 * v; omega) (by rw [je_R E]; exact hk) (by rw [je_R E]; exact hs) d (kk H locs ls hR hS hl)
theorem j_mmin (E : JE X own cc nL ws ret B E0 D l v mc ms) {index : Nat} {x y : Int32} (d : decode cc pc = .ok (.invokestatic index, 3)) (hlink : Cond.methodLink own index Lib.Math.min.name ∈ ws) (hstat : Cond.static Lib.Math.min.name ∈ ws) (hini : Cond.initialized "java/lang/Math" ∈ ws) (hcode : Cond.code Lib.Math.min.name Lib.Math.min.code 2 (some .int) ∈ ws) (hv : 1 ≤ v) (hcat : (st.map fun x => x.category).sum ≤ 40) (hk : k ≤ mc) (hs : n ≤ ms) (kk : J X B D nL Q h k n (pc + 3) L (.int (if y < x then y else x) :: st)) : J X B D nL Q h k n pc L (.int y :: .int x :: st) := by
  intro H locs ls hR hS hl
  have hts := E.2.2.2.2.1
  exact va_mmin E.1 E.2.1 (by rw [E.2.2.1]; exact hl.1.symm) E.2.2.2.1 (hts _ hlink) (hts _ hstat) (hts _ hini) (hts _ hcode) (by rw [je_R E]; exact hv) (by rw [je_R E]; show _ + 13 ≤ 64 * v; omega) (by rw [je_R E]; exact hk) (by rw [je_R E]; exact hs) d (kk H locs ls hR hS hl)
/-- behind a call that returned -/
theorem j_ofRun (E : JE X own cc nL ws ret B E0 D l v mc ms) {mc' ms' : Nat} {post : Option Value → HM → Prop} {a : Array Value} {st st2 : List Value}
    (hr : ∀ (H : Heap) (locs : List Loc) (ls : Array Slot), hm_R (jx_s X) B D h H → va_S (fun q => B ≤ q) (jx_s X).heap H locs → lv_has ls nL L → va_Run (jx_p X) (jx_l X) (jx_e X) (jx_R X) (jx_s X) (jx_m X) (jx_a X) (jx_b X) (jx_t X) (jx_c X) H locs k n mc' ms' (F0 (jx_m X) pc ls st) st2 (cQ B D post a) (fun q => B ≤ q))
    (kk : ∀ (r : Option Value) (h1 : HM), post r h1 → J X B D nL Q h1 (k + mc') (n + ms') (pc + 3) L (r.toList ++ st2)) : J X B D nL Q h k n pc L st := by
  intro H locs ls hR hS hl T hT X0
  obtain ⟨r, st₀, t, T', Lc, h0, X', hL, e1, e2, ⟨⟨r', h1, hv, hp, hb⟩, hz, hk⟩, stp⟩ := hr H locs ls hR hS hl T hT X0
  cases hv
  rw [h0] at hz hk
  have hal : t.vm.Alike (jx_s X).vm := by rw [← e2]; exact X'.warmed.alike.symm
  have hRn : hm_R (jx_s X) B D h1 T'.heap := by rw [e1]; exact hb.moved hal
  have hSn : va_S (fun q => B ≤ q) (jx_s X).heap T'.heap (locs ++ Lc) := ⟨Nat.le_trans hS.1 (by rw [e1]; exact hz), fun q h1 h2 => by rw [e1, hk q (Nat.lt_of_lt_of_le h1 hS.1) h2]; exact hS.2.1 q h1 h2, fun q hq => by
      rcases List.mem_append.mp hq with h | h
      · exact hS.2.2 q h
      · exact hL q h⟩
  obtain ⟨t2, a1, b1⟩ := kk r h1 hp T'.heap (locs ++ Lc) ls hRn hSn hl T' rfl X'
  exact ⟨t2, stp t2 a1, b1⟩
theorem je_P (E : JE X own cc nL ws ret B E0 D l v mc ms) {As : List Value} {H : Heap} {locs : List Loc} (hR : hm_R (jx_s X) B D h H) (hS : va_S (fun q => B ≤ q) (jx_s X).heap H locs) : ∀ U : State, U.heap = H → (jx_s X).WarmedH U.vm → cP l B E0 D As h As.toArray U := by
  intro U hU hW
  have hp := E.2.2.2.2.2.2.2.1
  exact ⟨rfl, ⟨PWv.warm hW hp.1, by rw [hU]; exact Nat.le_trans hp.2.1 hS.1, by rw [hU]; exact (hp.2.2.kept hS.2.1).moved hW.alike⟩, by rw [hU]; exact hR.moved hW.alike⟩
theorem jx_cr {index n0 maxL v' : Nat} (hv : v' + 1 ≤ v) (hm : maxL ≤ 45) : v' + 1 ≤ v ∧ 8 + (maxL + 11) + 64 * v' ≤ 64 * v := ⟨hv, by omega⟩
theorem j_callV (E : JE X own cc nL ws ret B E0 D l v mc ms) {C : String} {T : u_T} {N ci index np maxL v' mc' ms' b : Nat} {y : MethodName} {wsy ws' : List Cond} {cy : ByteArray} {ry : Option FieldType} {As st2 st : List Value} {fs : List Value} {post : Option Value → HM → Prop}
    (hM : CM l B E0 D y wsy v' mc' ms' (.ref b :: As) h post) (hG : GoodIn ws (wsV own index C y wsy)) (hw : wsy = Cond.code y cy maxL ry :: ws') (hd : y.cls = C ∧ y.cls ≠ "java/lang/invoke/MethodHandle" ∧ y.cls ≠ "java/lang/invoke/VarHandle" ∧ (parseMethodDescriptor y.desc).map (fun d => d.parameters.length) = some np) (d : decode cc pc = .ok (.invokevirtual index, 3)) (hv : v' + 1 ≤ v) (hm : maxL ≤ 45) (hc : vwCl[ci]? = some (C, T, N)) (hb : h b = some (hO ci fs)) (hn : As.length = np) (hst : st = As.reverse ++ .ref b :: st2) (hcat : (st2.map fun x => x.category).sum ≤ 8) (hk : k + mc' ≤ mc) (hs : n + ms' ≤ ms)
    (kk : ∀ (r : Option Value) (h1 : HM), post r h1 → J X B D nL Q h1 (k + mc') (n + ms') (pc + 3) L (r.toList ++ st2)) : J X B D nL Q h k n pc L st := by
  refine j_ofRun (a := (Value.ref b :: As).toArray) E (fun H locs ls hR hS hl => ?_) kk
  have hM' : Met (jx_l X) y wsy (rmv v' mc' ms') (cP l B E0 D (.ref b :: As) h) (cQ B D post) mc' ms' (fun q => B ≤ q) := by rw [E.2.2.2.2.2.2.2.2.2]; exact hM
  exact va_runV ⟨E.1, E.2.1, E.2.2.1, E.2.2.2.1, E.2.2.2.2.1⟩ hM' (cwV np E.2.2.2.2.1 hG hw rfl rfl hd (by rw [je_R E]; exact jx_cr (index := 0) (n0 := 0) hv hm)) ⟨cP_blind, va_recv (q := (C, T, N)) (je_K E) (hm_P1 (a := b) (e := .inr (ci, fs)) (hR b _ hb).1) hc (q0 := 0) rfl, je_P E hR hS⟩ rfl hn hl.1 hst (lv_room hcat) d (by rw [je_R E]; exact ⟨hk, hs⟩)
theorem j_callS (E : JE X own cc nL ws ret B E0 D l v mc ms) {index np maxL v' mc' ms' : Nat} {y : MethodName} {wsy ws' : List Cond} {cy : ByteArray} {ry : Option FieldType} {As st2 st : List Value} {post : Option Value → HM → Prop}
    (hM : CM l B E0 D y wsy v' mc' ms' As h post) (hG : GoodIn ws (va_wsS own index y wsy)) (hw : wsy = Cond.code y cy maxL ry :: ws') (hd : y.cls ≠ "java/lang/invoke/MethodHandle" ∧ y.cls ≠ "java/lang/invoke/VarHandle" ∧ (parseMethodDescriptor y.desc).map (fun d => d.parameters.length) = some np) (d : decode cc pc = .ok (.invokestatic index, 3)) (hv : v' + 1 ≤ v) (hm : maxL ≤ 45) (hn : As.length = np) (hst : st = As.reverse ++ st2) (hcat : (st2.map fun x => x.category).sum ≤ 8) (hk : k + mc' ≤ mc) (hs : n + ms' ≤ ms)
    (kk : ∀ (r : Option Value) (h1 : HM), post r h1 → J X B D nL Q h1 (k + mc') (n + ms') (pc + 3) L (r.toList ++ st2)) : J X B D nL Q h k n pc L st := by
  refine j_ofRun (a := As.toArray) E (fun H locs ls hR hS hl => ?_) kk
  have hM' : Met (jx_l X) y wsy (rmv v' mc' ms') (cP l B E0 D As h) (cQ B D post) mc' ms' (fun q => B ≤ q) := by rw [E.2.2.2.2.2.2.2.2.2]; exact hM
  exact va_runS ⟨E.1, E.2.1, E.2.2.1, E.2.2.2.1, E.2.2.2.2.1⟩ hM' (va_cwS np E.2.2.2.2.1 hG hw rfl rfl hd (by rw [je_R E]; exact jx_cr (index := 0) (n0 := 0) hv hm)) ⟨cP_blind, je_P E hR hS⟩ rfl hn hl.1 hst (lv_room hcat) d (by rw [je_R E]; exact ⟨hk, hs⟩)
theorem j_callI (E : JE X own cc nL ws ret B E0 D l v mc ms) {index np maxL v' mc' ms' b : Nat} {y : MethodName} {wsy ws' : List Cond} {cy : ByteArray} {As st2 st : List Value} {post : Option Value → HM → Prop}
    (hM : CM l B E0 D y wsy v' mc' ms' (.ref b :: As) h post) (hG : GoodIn ws wsy) (hw : wsy = Cond.code y cy maxL none :: ws') (hini : Cond.initialized y.cls ∈ ws) (hlk : Cond.methodLink own index y ∈ ws) (him : Cond.instanceMethod y ∈ ws) (hy1 : y.name = "<init>") (hd : y.cls ≠ "java/lang/invoke/MethodHandle" ∧ y.cls ≠ "java/lang/invoke/VarHandle" ∧ (parseMethodDescriptor y.desc).map (fun d => d.parameters.length) = some np) (d : decode cc pc = .ok (.invokespecial index, 3)) (hv : v' + 1 ≤ v) (hm : maxL ≤ 45) (hn : As.length = np) (hst : st = As.reverse ++ .ref b :: st2) (hcat : (st2.map fun x => x.category).sum ≤ 8) (hk : k + mc' ≤ mc) (hs : n + ms' ≤ ms)
    (kk : ∀ (r : Option Value) (h1 : HM), post r h1 → J X B D nL Q h1 (k + mc') (n + ms') (pc + 3) L (r.toList ++ st2)) : J X B D nL Q h k n pc L st := by
  refine j_ofRun (a := (Value.ref b :: As).toArray) E (fun H locs ls hR hS hl => ?_) kk
  have hM' : Met (jx_l X) y wsy (rmv v' mc' ms') (cP l B E0 D (.ref b :: As) h) (cQ B D post) mc' ms' (fun q => B ≤ q) := by rw [E.2.2.2.2.2.2.2.2.2]; exact hM
  have hts := E.2.2.2.2.1
  exact va_runI ⟨E.1, E.2.1, E.2.2.1, E.2.2.2.1, E.2.2.2.2.1⟩ hM' (cwI np hts hG hw rfl rfl (hts _ hini) (hts _ hlk) (hts _ him) hy1 hd (by rw [je_R E]; exact jx_cr (index := 0) (n0 := 0) hv hm)) ⟨cP_blind, je_P E hR hS⟩ rfl hn hl.1 hst (lv_room hcat) d (by rw [je_R E]; exact ⟨hk, hs⟩)
theorem j_callIN (E : JE X own cc nL ws ret B E0 D l v mc ms) {host : String} {index np maxL v' mc' ms' b : Nat} {y : MethodName} {wsy ws' : List Cond} {cy : ByteArray} {As st2 st : List Value} {post : Option Value → HM → Prop}
    (hM : CM l B E0 D y wsy v' mc' ms' (.ref b :: As) h post) (hG : GoodIn ws wsy) (hw : wsy = Cond.code y cy maxL none :: ws') (hini : Cond.initialized y.cls ∈ ws) (hlk : va_Nw (.methodLinkNest own index y host) (jx_s X)) (him : Cond.instanceMethod y ∈ ws) (hy1 : y.name = "<init>") (hd : y.cls ≠ "java/lang/invoke/MethodHandle" ∧ y.cls ≠ "java/lang/invoke/VarHandle" ∧ (parseMethodDescriptor y.desc).map (fun d => d.parameters.length) = some np) (d : decode cc pc = .ok (.invokespecial index, 3)) (hv : v' + 1 ≤ v) (hm : maxL ≤ 45) (hn : As.length = np) (hst : st = As.reverse ++ .ref b :: st2) (hcat : (st2.map fun x => x.category).sum ≤ 8) (hk : k + mc' ≤ mc) (hs : n + ms' ≤ ms)
    (kk : ∀ (r : Option Value) (h1 : HM), post r h1 → J X B D nL Q h1 (k + mc') (n + ms') (pc + 3) L (r.toList ++ st2)) : J X B D nL Q h k n pc L st := by
  refine j_ofRun (a := (Value.ref b :: As).toArray) E (fun H locs ls hR hS hl => ?_) kk
  have hM' : Met (jx_l X) y wsy (rmv v' mc' ms') (cP l B E0 D (.ref b :: As) h) (cQ B D post) mc' ms' (fun q => B ≤ q) := by rw [E.2.2.2.2.2.2.2.2.2]; exact hM
  have hts := E.2.2.2.2.1
  exact va_runIN ⟨E.1, E.2.1, E.2.2.1, E.2.2.2.1, E.2.2.2.2.1⟩ hM' ⟨va_cnB np hts hG hw rfl rfl hlk (hts _ hini) hd (by rw [je_R E]; exact jx_cr (index := 0) (n0 := 0) hv hm), hy1, hts _ him⟩ ⟨cP_blind, je_P E hR hS⟩ rfl hn hl.1 hst (lv_room hcat) d (by rw [je_R E]; exact ⟨hk, hs⟩)
/-- thrown over the frame at pc -/
def JT (X : JC) (B : Nat) (D : va_G) (nL : Nat) (Q : State → Prop) (E : String) (h : HM) (k n pc : Nat) (L : List (Nat × Value)) (st : List Value) : Prop :=
  ∀ (H : Heap) (locs : List Loc) (ls : Array Slot) (q : Addr) (ce : Cell), hm_R (jx_s X) B D h H → va_S (fun q => B ≤ q) (jx_s X).heap H locs → lv_has ls nL L → H[q]? = some ce → ce.vm = .none → (jx_s X).vm.findClass E = some ce.cls →
    vx_W (jx_p X) (jx_l X) (jx_e X) (jx_R X) (jx_s X) (jx_m X) (jx_a X) (jx_b X) (jx_t X) (jx_c X) H locs k n Q (F0 (jx_m X) pc ls st) q
/-- a call of a method that returns or throws -/
theorem j_callX (E : JE X own cc nL ws ret B E0 D l v mc ms) {C : String} {T : u_T} {N ci index np maxL v' mc' ms' b : Nat} {y : MethodName} {wsy ws' : List Cond} {cy : ByteArray} {ry : Option FieldType} {As st2 st : List Value} {fs : List Value} {post : Option Value → HM → Prop} {px : String → HM → Prop}
    (hM : CX l B E0 D y wsy v' mc' ms' (.ref b :: As) h post px) (hG : GoodIn ws (wsV own index C y wsy)) (hw : wsy = Cond.code y cy maxL ry :: ws') (hd : y.cls = C ∧ y.cls ≠ "java/lang/invoke/MethodHandle" ∧ y.cls ≠ "java/lang/invoke/VarHandle" ∧ (parseMethodDescriptor y.desc).map (fun d => d.parameters.length) = some np) (d : decode cc pc = .ok (.invokevirtual index, 3)) (hv : v' + 1 ≤ v) (hm : maxL ≤ 45) (hc : vwCl[ci]? = some (C, T, N)) (hb : h b = some (hO ci fs)) (hn : As.length = np) (hst : st = As.reverse ++ .ref b :: st2) (hcat : (st2.map fun x => x.category).sum ≤ 8) (hk : k + mc' ≤ mc) (hs : n + ms' ≤ ms)
    (kx : ∀ (Ex : String) (h1 : HM), px Ex h1 → JT X B D nL Q Ex h1 (k + mc') (n + ms') pc L st2)
    (kk : ∀ (r : Option Value) (h1 : HM), post r h1 → J X B D nL Q h1 (k + mc') (n + ms') (pc + 3) L (r.toList ++ st2)) : J X B D nL Q h k n pc L st := by
  intro H locs ls hR hS hl T0 hT X0
  have hM' : vx_Met (jx_l X) y wsy (rmv v' mc' ms') (cP l B E0 D (.ref b :: As) h) (cQ B D post) (cX B D px) mc' ms' (fun q => B ≤ q) := by rw [E.2.2.2.2.2.2.2.2.2]; exact hM
  have hr := vx_runV (p := jx_p X) (l := jx_l X) (e := jx_e X) (R := jx_R X) (s := jx_s X) (m := jx_m X) (args := jx_a X) (below := jx_b X) (meth := jx_t X) (c := jx_c X) (H := H) (rest := st2) (locs := locs) (cells := k) (slots := n) (g := F0 (jx_m X) pc ls st) ⟨E.1, E.2.1, E.2.2.1, E.2.2.2.1, E.2.2.2.2.1⟩ hM' (cwV np E.2.2.2.2.1 hG hw rfl rfl hd (by rw [je_R E]; exact jx_cr (index := 0) (n0 := 0) hv hm)) ⟨cP_blind, va_recv (q := (C, T, N)) (je_K E) (hm_P1 (a := b) (e := .inr (ci, fs)) (hR b _ hb).1) hc (q0 := 0) rfl, je_P E hR hS⟩ rfl hn hl.1 hst (lv_room hcat) d (by rw [je_R E]; exact ⟨hk, hs⟩)
  rcases hr T0 hT X0 with ⟨r, st₀, t, T', Lc, h0, X', hL, e1, e2, ⟨⟨r', h1, hv2, hp, hb2⟩, hz, hk2⟩, stp⟩ | ⟨q, st₀, t, T', Lc, Ex, ce, h0, X', hL, e1, e2, ⟨⟨h1, hp, hb2⟩, hz, hk2⟩, hce, hcv, hcl, stp⟩
  · cases hv2
    rw [h0] at hz hk2
    have hal : t.vm.Alike (jx_s X).vm := by rw [← e2]; exact X'.warmed.alike.symm
    have hSn : va_S (fun q => B ≤ q) (jx_s X).heap T'.heap (locs ++ Lc) := ⟨Nat.le_trans hS.1 (by rw [e1]; exact hz), fun q h1 h2 => by rw [e1, hk2 q (Nat.lt_of_lt_of_le h1 hS.1) h2]; exact hS.2.1 q h1 h2, fun q hq => by
      rcases List.mem_append.mp hq with h | h
      · exact hS.2.2 q h
      · exact hL q h⟩
    obtain ⟨t2, a1, b1⟩ := kk r h1 hp T'.heap (locs ++ Lc) ls (by rw [e1]; exact hb2.moved hal) hSn hl T' rfl X'
    exact ⟨t2, stp t2 a1, b1⟩
  · rw [h0] at hz hk2
    have hal : t.vm.Alike (jx_s X).vm := by rw [← e2]; exact X'.warmed.alike.symm
    have hSn : va_S (fun q => B ≤ q) (jx_s X).heap T'.heap (locs ++ Lc) := ⟨Nat.le_trans hS.1 (by rw [e1]; exact hz), fun q h1 h2 => by rw [e1, hk2 q (Nat.lt_of_lt_of_le h1 hS.1) h2]; exact hS.2.1 q h1 h2, fun q hq => by
      rcases List.mem_append.mp hq with h | h
      · exact hS.2.2 q h
      · exact hL q h⟩
    obtain ⟨t2, a1, b1⟩ := kx Ex h1 hp T'.heap (locs ++ Lc) ls q ce (by rw [e1]; exact hb2.moved hal) hSn hl (by rw [e1]; exact hce) hcv hcl T' rfl X'
    exact ⟨t2, stp.trans a1, b1⟩
/-- what was thrown goes on to the caller -/
theorem j_out (E : JE X own cc nL ws ret B E0 D l v mc ms) (htab : ∀ x ∈ (jx_c X).exceptionTable.toList, False) {post : Option Value → HM → Prop} {px : String → HM → Prop} {Ex : String} (hp : px Ex h) (hk : k ≤ mc) (hs : n ≤ ms) : JT X B D nL (jX X B D mc ms post px) Ex h k n pc L st := by
  intro H locs ls q ce hR hS hl hce hcv hcl
  exact vx_out (fun x hx => (htab x hx).elim) E.2.2.2.2.2.1 hce hcv hcl (fun t ht hal => ⟨⟨h, hp, by rw [ht]; exact hR.moved hal⟩, hS.F ht⟩) hS.2.2 hk hs
/-- returns -/
theorem j_iret (E : JE X own cc nL ws ret B E0 D l v mc ms) {post : Option Value → HM → Prop} {x : Int32} (d : decode cc pc = .ok (.ireturn, 1)) {ty : FieldType} (hret : ret = some ty) (hn : narrow ty (.int x) = .int x) (hk : k ≤ mc) (hs : n ≤ ms) (hp : post (some (.int x)) h) : J X B D nL (jQ X B D mc ms post) h k n pc L [.int x] := fun H locs ls hR hS hl =>
  W.widen hk hs (W.zret E.1 E.2.1 (E.2.2.2.2.2.2.1.trans hret) hn (fun t ht hW => ⟨⟨_, h, rfl, hp, by rw [ht]; exact hR.moved hW.alike⟩, hS.F ht⟩) hS.2.2 d E.2.2.2.2.2.1)
theorem j_lret (E : JE X own cc nL ws ret B E0 D l v mc ms) {post : Option Value → HM → Prop} {x : Int64} (d : decode cc pc = .ok (.lreturn, 1)) (hret : ret = some .long) (hk : k ≤ mc) (hs : n ≤ ms) (hp : post (some (.long x)) h) : J X B D nL (jQ X B D mc ms post) h k n pc L [.long x] := fun H locs ls hR hS hl =>
  W.widen hk hs (W.lret E.1 E.2.1 (E.2.2.2.2.2.2.1.trans hret) (fun t ht hW => ⟨⟨_, h, rfl, hp, by rw [ht]; exact hR.moved hW.alike⟩, hS.F ht⟩) hS.2.2 d E.2.2.2.2.2.1)
theorem j_aret (E : JE X own cc nL ws ret B E0 D l v mc ms) {post : Option Value → HM → Prop} {x : Nat} {rt : FieldType} (d : decode cc pc = .ok (.areturn, 1)) (hret : ret = some rt) (hrt : (∃ n, rt = .object n) ∨ ∃ t, rt = .array t) (hk : k ≤ mc) (hs : n ≤ ms) (hp : post (some (.ref x)) h) : J X B D nL (jQ X B D mc ms post) h k n pc L [.ref x] := fun H locs ls hR hS hl =>
  W.widen hk hs (W.aret E.1 E.2.1 (E.2.2.2.2.2.2.1.trans hret) hrt (Or.inr ⟨_, rfl⟩) (fun t ht hW => ⟨⟨_, h, rfl, hp, by rw [ht]; exact hR.moved hW.alike⟩, hS.F ht⟩) hS.2.2 d E.2.2.2.2.2.1)
theorem j_vret (E : JE X own cc nL ws ret B E0 D l v mc ms) {post : Option Value → HM → Prop} (d : decode cc pc = .ok (.return_, 1)) (hret : ret = none) (hk : k ≤ mc) (hs : n ≤ ms) (hp : post none h) : J X B D nL (jQ X B D mc ms post) h k n pc L [] := fun H locs ls hR hS hl =>
  W.widen hk hs (W.vret E.1 E.2.1 (E.2.2.2.2.2.2.1.trans hret) (fun t ht hW => ⟨⟨_, h, rfl, hp, by rw [ht]; exact hR.moved hW.alike⟩, hS.F ht⟩) hS.2.2 d E.2.2.2.2.2.1)
/-- a return in a method that may throw -/
theorem j_x {post : Option Value → HM → Prop} {px : String → HM → Prop} (kk : J X B D nL (jQ X B D mc ms post) h k n pc L st) : J X B D nL (jX X B D mc ms post px) h k n pc L st := fun H locs ls hR hS hl => vx_ret (kk H locs ls hR hS hl)
/-- throw new Ex("text"), in a method of ColourParts -/
theorem j_throw (E : JE X "ColourParts" cc nL ws ret B E0 D l v mc ms) (htab : ∀ x ∈ (jx_c X).exceptionTable.toList, False) {post : Option Value → HM → Prop} {px : String → HM → Prop} {cls text : String} {ik is ic : Nat}
    (d0 : decode cc pc = .ok (.new ik, 3)) (d3 : decode cc (pc + 3) = .ok (.dup, 1)) (d4 : decode cc (pc + 4) = .ok (.ldc is, 2)) (d6 : decode cc (pc + 6) = .ok (.invokespecial ic, 3)) (d9 : decode cc (pc + 9) = .ok (.athrow, 1))
    (hcls : Bundle.fit cls = true) (hk0 : Cond.classLink "ColourParts" ik cls ∈ ws) (hini : Cond.initialized cls ∈ ws) (hstr : (is, text) ∈ jstr) (hat : ∀ w ∈ (vx_atS "ColourParts" ic cls ["java/lang/RuntimeException", "java/lang/Exception"]).filter goodWord, w ∈ ws) (hat2 : ∀ w ∈ (vx_atS "ColourParts" ic cls ["java/lang/RuntimeException", "java/lang/Exception"]).filter (fun w => !goodWord w), w ∈ jfw) (hgood : ∀ w ∈ Cond.classLink "ColourParts" ik cls :: Cond.initialized cls :: vx_atS "ColourParts" ic cls ["java/lang/RuntimeException", "java/lang/Exception"], vx_ot w = true)
    (hv : 6 ≤ v) (hcat : (st.map fun x => x.category).sum ≤ 8) (hk : k + 1 ≤ mc) (hs : n + 6 ≤ ms) (hp : px cls h) : J X B D nL (jX X B D mc ms post px) h k n pc L st := by
  intro H locs ls hR hS hl
  have hts := E.2.2.2.2.1
  have hpw := E.2.2.2.2.2.2.2.1
  obtain ⟨sa, hsa⟩ := hpw.1.2.2.2.1 _ hstr
  exact vx_throwS (names := ["java/lang/RuntimeException", "java/lang/Exception"]) (sa := sa) (text := text) E.1 E.2.1 (by rw [E.2.2.2.2.2.2.2.2.2]; exact hpw.1.1) E.2.2.2.1 hcls (by decide) (hts _ hk0) (hts _ hini) hsa (vx_hat (fun w hw => hts _ (hat w hw)) hat2 (fun w hw => va_Nw.use (jfw_t w hw) (hpw.1.2.2.2.2.2.2.2.2.2 w hw))) hgood hpw.2.2.2.1 hpw.2.2.2.2 hS (hl.1.trans E.2.2.1.symm) d0 d3 d4 d6 d9 (fun x hx => (htab x hx).elim) (by rw [je_R E]; show 2 + 3 < v; omega) (by rw [je_R E]; show _ + (13 * (2 + 1) + 43) ≤ 64 * v; omega) (by rw [je_R E]; show k + 1 ≤ mc; omega) (by rw [je_R E]; show n + 6 ≤ ms; omega) E.2.2.2.2.2.1 (fun t hal hz hq => ⟨⟨h, hp, (hR.grow hq).moved hal⟩, Nat.le_trans hS.1 hz, fun q h1 h2 => (hq q (Nat.lt_of_lt_of_le h1 hS.1)).trans (hS.2.1 q h1 h2)⟩) hS.2.2 hk hs
theorem j_aaloadS (E : JE X own cc nL ws ret B E0 D l v mc ms) {a N y : Nat} {f : Nat → Option Nat} {x : Int32} (i : Nat) (d : decode cc pc = .ok (.aaload, 1)) (ha : h a = some (hQ N f)) (hx : x = nI i) (hi : i < N) (hN : N < 2 ^ 31) (hy : f i = some y) (kk : J X B D nL Q h k n (pc + 1) L (.ref y :: st)) : J X B D nL Q h k n pc L (.int x :: .ref a :: st) := j_aaload E i d ha hx hi hN hy kk
theorem j_ldcM (E : JE X own cc nL ws ret B E0 D l v mc ms) {index : Nat} (d : decode cc pc = .ok (.ldc index, 2)) (hlink : Cond.classLink own index "[Ljava/lang/Object;" ∈ ws) (kk : J X B D nL Q h k n (pc + 2) L (.ref (D.2 99 0) :: st)) : J X B D nL Q h k n pc L st := fun H locs ls hR hS hl =>
  va_ldcM E.1 E.2.1 E.2.2.2.1 (E.2.2.2.2.1 _ hlink) E.2.2.2.2.2.2.2.1.1.2.2.2.2.1 d (kk H locs ls hR hS hl)
abbrev gcName : MethodName := ⟨"java/lang/Object", "getClass", "()Ljava/lang/Class;"⟩
theorem j_getC (E : JE X own cc nL ws ret B E0 D l v mc ms) {index a N : Nat} {f : Nat → Option Nat} (d : decode cc pc = .ok (.invokevirtual index, 3)) (hlink : Cond.methodLink own index gcName ∈ ws) (hsel : Cond.selects "[Ljava/lang/Object;" gcName gcName ∈ ws) (hinst : Cond.instanceMethod gcName ∈ ws) (hnat : Cond.native gcName ∈ ws) (hv : 1 ≤ v) (hcat : (st.map fun x => x.category).sum ≤ 8) (ha : h a = some (hQ N f)) (h0 : 0 < N) (kk : J X B D nL Q h k n (pc + 3) L (.ref (D.2 99 0) :: st)) : J X B D nL Q h k n pc L (.ref a :: st) := by
  intro H locs ls hR hS hl
  have hts := E.2.2.2.2.1
  obtain ⟨cA, k1, k2, k3⟩ := (hR a _ ha).1.full h0
  have hpx := E.2.2.2.2.2.2.2.1.1.2.2.2.2
  exact va_getC E.1 E.2.1 (by rw [E.2.2.1]; exact hl.1.symm) E.2.2.2.1 (hts _ hlink) (va_Dc.use hpx.2.1) (hts _ hsel) (hts _ hinst) (hts _ hnat) hpx.1 ⟨_, k3, rfl, va_nmO (C := "java/lang/Object") k2 (by decide)⟩ (by rw [je_R E]; exact hv) (by rw [je_R E]; show _ + 14 ≤ 64 * v; omega) d (kk H locs ls hR hS hl)
/-- System.arraycopy(a0, 0, a1, 0, m) of two arrays of references -/
theorem j_copyQ (E : JE X own cc nL ws ret B E0 D l v mc ms) {index a0 a1 n0 n1 : Nat} {f g : Nat → Option Nat} (M : Nat) (d : decode cc pc = .ok (.invokestatic index, 3)) (hlink : Cond.methodLink own index arraycopyName ∈ ws) (hnat : Cond.native arraycopyName ∈ ws) (hstat : Cond.static arraycopyName ∈ ws) (hini : Cond.initialized "java/lang/System" ∈ ws) (hv : 1 ≤ v) (hcat : (st.map fun x => x.category).sum ≤ 8) (ha0 : h a0 = some (hQ n0 f)) (ha1 : h a1 = some (hQ n1 g)) (h0 : 0 < n0 ∧ 0 < n1) (hB : B ≤ a1) (h4 : M ≤ n0) (h5 : M ≤ n1) (hM : M < 2 ^ 31) (hel : ∀ i : Nat, i < M → ∀ y : Nat, f i = some y → ∃ ci fs r, h y = some (hO ci fs) ∧ vwCl[ci]? = some r) (kk : J X B D nL Q (hput h a1 (hQ n1 (va_cpy f g 0 0 M))) k n (pc + 3) L st) : J X B D nL Q h k n pc L (.int (nI M) :: .int 0 :: .ref a1 :: .int 0 :: .ref a0 :: st) := by
  intro H locs ls hR hS hl
  have hts := E.2.2.2.2.1
  obtain ⟨c0, p1, p2, hc0⟩ := (hR a0 _ ha0).1.full h0.1
  obtain ⟨c1, r1, r2, hc1⟩ := (hR a1 _ ha1).1.full h0.2
  obtain ⟨-, k0, hk0, cm0, hkk0⟩ := p1 n0 (fun j => va_rf (f j))
  obtain ⟨-, k1, hk1, cm1, hkk1⟩ := r1 n1 (fun j => va_rf (g j))
  have eM : (nI M).toNatClampNeg = M := nI_clamp hM
  have e0 : (0 : Int32).toNatClampNeg = 0 := by decide
  have eT : (nI M).toInt = (M : Int) := nI_toInt hM
  have eA : ∀ ci fs r y, h y = some (hO ci fs) → vwCl[ci]? = some r → va_Any "java/lang/Object" (jx_s X) H y := by
    intro ci fs r y hy hc
    refine va_rAny (je_K E) (hm_P1 (a := y) (e := .inr (ci, fs)) (hR y _ hy).1) (q0 := 0) rfl hc (fun comp cq g1 g2 => ?_)
    obtain ⟨t0, t1, f1, f2, f3⟩ := Cond.castable_spec (va_Nw.use (A := jx_a X) rfl (E.2.2.2.2.2.2.2.1.1.2.2.1 ci r hc))
    cases g2.symm.trans f1
    cases g1.symm.trans f2
    exact f3
  intro T hT X0
  obtain ⟨vm', X', step⟩ := X0.arraycopy E.1 E.2.2.2.1 (hts _ hlink) (hts _ hnat) (hts _ hstat) (hts _ hini) (src := a0) (dst := a1) (cs := vp_cell c0 (n0, .inr (.inr (.inr (.inr f))))) (cd := vp_cell c1 (n1, .inr (.inr (.inr (.inr g))))) (srcPos := 0) (destPos := 0) (n := nI M) (by rw [hT]; exact hc0) (by rw [hT]; exact hc1)
    (fun _ h => by cases h) (fun _ h => by cases h) (fun h => by cases h) (fun h => by cases h) hk0 hk1 hkk0 hkk1 rfl (by decide) (by decide) (nI_pos hM)
    (by rw [eT]; show ¬ (0 : Int) + _ > ((arrV c0 n0 (fun j => va_rf (f j))).slots.size : Int); rw [arrV_size]; omega)
    (by rw [eT]; show ¬ (0 : Int) + _ > ((arrV c1 n1 (fun j => va_rf (g j))).slots.size : Int); rw [arrV_size]; omega)
    (fun vm₁ hal i hi => by
      rw [eM] at hi
      have e : (vp_cell c0 (n0, .inr (.inr (.inr (.inr f))))).slots.getD ((0 : Int32).toNatClampNeg + i) .null = va_rf (f i) := by
        rw [e0, Nat.zero_add]
        show (arrV c0 n0 (fun j => va_rf (f j))).slots.getD _ _ = _
        rw [Array.getD_eq_getD_getElem?, arrV_read _ _ (by omega)]
        rfl
      rw [e]
      cases hy : f i with
      | none => exact ⟨rfl, trivial⟩
      | some y =>
        obtain ⟨ci, fs, rr, hy1, hy2⟩ := hel i hi y hy
        obtain ⟨cellV, g1, g2, ⟨kC, hkC⟩, hasg⟩ := eA ci fs rr y hy1 hy2
        obtain ⟨kA, comp, s1, s2, s3, -⟩ := r2
        cases hk1.symm.trans s1
        cases hkk1.symm.trans s2
        obtain ⟨kE, hkE, -⟩ := Vm.findClass_spec s3
        obtain ⟨kC', hkC', -⟩ := hal.2.2 _ _ hkC
        obtain ⟨kE', hkE', -⟩ := hal.2.2 _ _ hkE
        refine ⟨rfl, cellV, (show T.heap[y]? = some cellV by rw [hT]; exact g1), (fun q h => by rw [h] at g2; cases g2), ⟨kC', hkC'⟩, ?_, ?_⟩
        · exact ⟨kE', hkE'⟩
        · show vm₁.assignable _ _ = true
          rw [hal.assignable]
          exact hasg _ s3)
    (g := F0 (jx_m X) pc ls (.int (nI M) :: .int 0 :: .ref a1 :: .int 0 :: .ref a0 :: st)) rfl (by rw [E.2.2.1]; exact hl.1) (rest := st) rfl (by rw [E.2.1]; exact d) (by rw [je_R E]; exact hv) (by rw [je_R E]; show 2 * 0 + _ + (nativeFrameWords "java/lang/System" "arraycopy" 5 + 11) ≤ 64 * v; have hw : nativeFrameWords "java/lang/System" "arraycopy" 5 ≤ 20 := (by decide); omega)
  have e1 : copied (vp_cell c0 (n0, .inr (.inr (.inr (.inr f))))) (vp_cell c1 (n1, .inr (.inr (.inr (.inr g))))) 0 0 (nI M) = vp_cell c1 (n1, .inr (.inr (.inr (.inr (va_cpy f g 0 0 M))))) := by
    have key := va_copied (fun z => va_rf z) c0 c1 (n0 := n0) (n1 := n1) (sp := 0) (dp := 0) (n := M) f g (by omega)
    rw [vp_cell_q, vp_cell_q, vp_cell_q]
    unfold copied
    rw [eM, e0]
    exact key
  rw [e1] at X' step
  have hl0 : a1 < H.size := (Array.getElem?_eq_some_iff.mp hc1).1
  have hheap : ((T.setVm vm').setCell a1 (vp_cell c1 (n1, .inr (.inr (.inr (.inr (va_cpy f g 0 0 M))))))).heap = H.setIfInBounds a1 (vp_cell c1 (n1, .inr (.inr (.inr (.inr (va_cpy f g 0 0 M)))))) := by rw [← hT]; rfl
  have oq : ∀ q : Nat, q ≠ a1 → (H.setIfInBounds a1 (vp_cell c1 (n1, .inr (.inr (.inr (.inr (va_cpy f g 0 0 M)))))))[q]? = H[q]? := fun q hq => by simp [Array.getElem?_setIfInBounds, Ne.symm hq]
  obtain ⟨t, a9, b9⟩ := kk _ _ ls (hR.set hB (Or.inl ⟨c1, r1, r2, (show (H.setIfInBounds a1 _)[a1]? = some _ by simp [Array.getElem?_setIfInBounds, hl0])⟩) oq) ⟨by simp; exact hS.1, fun q g1 g2 => by
      rw [oq q (fun e => g2 (by rw [e]; exact hB))]
      exact hS.2.1 q g1 g2, fun q hq => by
      rcases List.mem_append.mp hq with h | h
      · exact hS.2.2 q h
      · obtain ⟨z, -, hz⟩ := List.mem_map.mp h
        rw [← hz]
        exact hB⟩ hl _ hheap X'
  exact ⟨t, step t a9, b9⟩
end JR

