/-! System.arraycopy of int[] -/
section C22
variable {X : JC} {own : String} {cc : ByteArray} {nL : Nat} {ws : List Cond} {ret : Option FieldType} {B E0 : Nat} {D : va_G} {l : Launch} {v mc ms : Nat} {Q : State → Prop} {h : HM} {k n pc : Nat} {L : List (Nat × Value)} {st : List Value}
theorem j_copyI (E : JE X own cc nL ws ret B E0 D l v mc ms) {index a0 a1 n0 n1 : Nat} {f g : Nat → Int32} (M : Nat) (d : decode cc pc = .ok (.invokestatic index, 3)) (hlink : Cond.methodLink own index arraycopyName ∈ ws) (hnat : Cond.native arraycopyName ∈ ws) (hstat : Cond.static arraycopyName ∈ ws) (hini : Cond.initialized "java/lang/System" ∈ ws) (hv : 1 ≤ v) (hcat : (st.map fun x => x.category).sum ≤ 8) (ha0 : h a0 = some (hI n0 f)) (ha1 : h a1 = some (hI n1 g)) (h9 : 0 < n1) (h8 : 0 < n0) (h4 : M ≤ n0) (h5 : M ≤ n1) (hM : M < 2 ^ 31) (kk : J X B D nL Q (hput h a1 (hI n1 (va_cpy f g 0 0 M))) k n (pc + 3) L st) : J X B D nL Q h k n pc L (.int (nI M) :: .int 0 :: .ref a1 :: .int 0 :: .ref a0 :: st) := by
  intro H locs ls hR hS hl
  have hB : B ≤ a1 := hR.BA ha1 h9
  have hts := E.2.2.2.2.1
  obtain ⟨c0, p1, p2, hc0⟩ := (hR a0 _ ha0).1.full h8
  obtain ⟨c1, r1, r2, hc1⟩ := (hR a1 _ ha1).1.full h9
  obtain ⟨-, k0, hk0, cm0, hkk0⟩ := p1 n0 (fun j => .int (f j))
  obtain ⟨-, k1, hk1, cm1, hkk1⟩ := r1 n1 (fun j => .int (g j))
  have eM : (nI M).toNatClampNeg = M := nI_clamp hM
  have e0 : (0 : Int32).toNatClampNeg = 0 := by decide
  have eT : (nI M).toInt = (M : Int) := nI_toInt hM
  intro T hT X0
  obtain ⟨vm', X', step⟩ := X0.arraycopy E.1 E.2.2.2.1 (hts _ hlink) (hts _ hnat) (hts _ hstat) (hts _ hini) (src := a0) (dst := a1) (cs := vp_cell c0 (n0, .inl f)) (cd := vp_cell c1 (n1, .inl g)) (srcPos := 0) (destPos := 0) (n := nI M) (by rw [hT]; exact hc0) (by rw [hT]; exact hc1)
    (fun _ h => by cases h) (fun _ h => by cases h) (fun h => by cases h) (fun h => by cases h) hk0 hk1 hkk0 hkk1 rfl (by decide) (by decide) (nI_pos hM)
    (by rw [eT]; show ¬ (0 : Int) + _ > ((arrV c0 n0 (fun j => .int (f j))).slots.size : Int); rw [arrV_size]; omega)
    (by rw [eT]; show ¬ (0 : Int) + _ > ((arrV c1 n1 (fun j => .int (g j))).slots.size : Int); rw [arrV_size]; omega)
    (fun vm₁ hal i hi => by
      rw [eM] at hi
      have e : (vp_cell c0 (n0, .inl f)).slots.getD ((0 : Int32).toNatClampNeg + i) .null = .int (f i) := by
        rw [e0, Nat.zero_add]
        show (arrV c0 n0 (fun j => .int (f j))).slots.getD _ _ = _
        rw [Array.getD_eq_getD_getElem?, arrV_read _ _ (by omega)]
        rfl
      refine ⟨?_, ?_⟩
      · rw [e]; rfl
      · rw [e]; exact trivial)
    (g := F0 (jx_m X) pc ls (.int (nI M) :: .int 0 :: .ref a1 :: .int 0 :: .ref a0 :: st)) rfl (by rw [E.2.2.1]; exact hl.1) (rest := st) rfl (by rw [E.2.1]; exact d) (by rw [je_R E]; exact hv) (by rw [je_R E]; show 2 * 0 + _ + (nativeFrameWords "java/lang/System" "arraycopy" 5 + 11) ≤ 64 * v; have hw : nativeFrameWords "java/lang/System" "arraycopy" 5 ≤ 20 := (by decide); omega)
  have e1 : copied (vp_cell c0 (n0, .inl f)) (vp_cell c1 (n1, .inl g)) 0 0 (nI M) = vp_cell c1 (n1, .inl (va_cpy f g 0 0 M)) := by
    have key := va_copied (fun z => .int z) c0 c1 (n0 := n0) (n1 := n1) (sp := 0) (dp := 0) (n := M) f g (by omega)
    unfold copied
    rw [eM, e0]
    exact key
  rw [e1] at X' step
  have hl0 : a1 < H.size := (Array.getElem?_eq_some_iff.mp hc1).1
  have hheap : ((T.setVm vm').setCell a1 (vp_cell c1 (n1, .inl (va_cpy f g 0 0 M)))).heap = H.setIfInBounds a1 (vp_cell c1 (n1, .inl (va_cpy f g 0 0 M))) := by rw [← hT]; rfl
  have oq : ∀ q : Nat, q ≠ a1 → (H.setIfInBounds a1 (vp_cell c1 (n1, .inl (va_cpy f g 0 0 M))))[q]? = H[q]? := fun q hq => by simp [Array.getElem?_setIfInBounds, Ne.symm hq]
  obtain ⟨t, a9, b9⟩ := kk _ _ ls (hR.set hB (Or.inl ⟨c1, r1, r2, (show (H.setIfInBounds a1 _)[a1]? = some _ by simp [Array.getElem?_setIfInBounds, hl0])⟩) oq) ⟨by simp; exact hS.1, fun q g1 g2 => by
      rw [oq q (fun e => g2 (by rw [e]; exact hB))]
      exact hS.2.1 q g1 g2, fun q hq => by
      rcases List.mem_append.mp hq with h | h
      · exact hS.2.2 q h
      · obtain ⟨z, -, hz⟩ := List.mem_map.mp h
        rw [← hz]
        exact hB⟩ hl _ hheap X'
  exact ⟨t, step t a9, b9⟩
end C22
