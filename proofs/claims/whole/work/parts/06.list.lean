/-! ArrayList's members -/
def hOb (h : HM) (y : Nat) : Prop := ∃ ci fs r, h y = some (hO ci fs) ∧ vwCl[ci]? = some r
/-- the list at a, its array at e, holds els -/
def AL (E0 : Nat) (h : HM) (a e : Nat) (els : List Nat) : Prop := ∃ (m : Int32) (cap : Nat) (f : Nat → Option Nat), h a = some (hO 0 [.int m, .ref e, .int (nI els.length)]) ∧ h e = some (hQ cap f) ∧ els.length ≤ cap ∧ ((cap = 0 ∧ e = E0) ∨ cap = 10 ∨ cap = 15) ∧ ∀ i, i < els.length → f i = els[i]?
theorem hm_ne {h : HM} {a b : Nat} {o1 o2 : HO} (h1 : h a = some o1) (h2 : h b = some o2) (hn : o1 ≠ o2) : a ≠ b := fun e => hn (Option.some.inj (by rw [← h1, ← h2, e]))
theorem hm_neN {h : HM} {a b : Nat} {o : HO} (h1 : h a = some o) (h2 : h b = none) : a ≠ b := fun e => by rw [e, h2] at h1; cases h1
theorem AL.keep {E0 : Nat} {h h1 : HM} {a e : Nat} {els : List Nat} (H : AL E0 h a e els) (ha : h1 a = h a) (he : h1 e = h e) : AL E0 h1 a e els := by
  obtain ⟨m, cap, f, g1, g2, g3⟩ := H
  exact ⟨m, cap, f, ha.trans g1, he.trans g2, g3⟩
theorem AL.ne {E0 : Nat} {h : HM} {a e : Nat} {els : List Nat} (H : AL E0 h a e els) : a ≠ e := by
  obtain ⟨m, cap, f, g1, g2, -⟩ := H
  exact hm_ne g1 g2 (by intro z; cases z)
/-- nothing else is written -/
def FR (h h1 : HM) (M : Nat → Prop) : Prop := ∀ q, h q ≠ none → ¬ M q → h1 q = h q
theorem hput_hput (h : HM) (a : Nat) (o1 o2 : HO) : hput (hput h a o1) a o2 = hput h a o2 := by
  funext q; by_cases e : q = a <;> simp [hput, e]
theorem hput_none {h : HM} {a q : Nat} {o : HO} (z : hput h a o q = none) : h q = none ∧ q ≠ a := by
  by_cases w : q = a
  · rw [w, hput_eq] at z; cases z
  · rw [hput_ne _ w] at z; exact ⟨z, w⟩
theorem hput_comm (h : HM) {a b : Nat} (o1 o2 : HO) (hn : a ≠ b) : hput (hput h a o1) b o2 = hput (hput h b o2) a o1 := by
  funext q
  by_cases e : q = a
  · by_cases e2 : q = b
    · exact absurd (e.symm.trans e2) hn
    · simp [hput, e, hn]
  · by_cases e2 : q = b
    · subst e2; simp [hput, e]
    · simp [hput, e, e2]
section LISTS
variable {l : Launch} {B E0 : Nat} {D : va_G} {h : HM}
theorem iw_Jx4a65c_size_8abf5_Jx4a65c : ∀ w ∈ u_ws RJx4a65c TJx4a65c 3, w ∈ wsJx4a65c_size_8abf5 := by decide +kernel
theorem c_size (v : Nat) {a e : Nat} {els : List Nat} (H : AL E0 h a e els) : CM l B E0 D yJx4a65c_size_8abf5 wsJx4a65c_size_8abf5 (v + 1) 0 0 [.ref a] h (fun r h1 => r = some (.int (nI els.length)) ∧ h1 = h) := by
  obtain ⟨m, cap, f, ha, he, hc, hk, hf⟩ := H
  refine CM.of (cc := cJx4a65c_size_8abf5) (maxL := 1) (ret := (some .int)) (by decide) rfl (Nat.le_of_ble_eq_true rfl) (fun X E hin => ?_)
  show J X B D 1 _ h 0 0 0 [(0, .ref a)] []
  refine j_aload_n E dJx4a65c_size_8abf5_0 rfl ?_
  refine j_getfield (ref := "java/util/ArrayList") (C := RJx4a65c) (T := TJx4a65c) (N := 3) (ci := 0) E 2 dJx4a65c_size_8abf5_1 iw_Jx4a65c_size_8abf5_Jx4a65c rfl (by decide) (by decide +kernel) rfl (by first | with_reducible assumption | exact hput_eq _ _ _ | exact (hput_ne _ (by first | assumption | exact Ne.symm (by assumption))).trans (by assumption) | exact (hput_ne _ (by first | assumption | exact Ne.symm (by assumption))).trans (hput_eq _ _ _) | exact (hput_ne _ (by first | assumption | exact Ne.symm (by assumption))).trans ((hput_ne _ (by first | assumption | exact Ne.symm (by assumption))).trans (by assumption)) | exact (hput_ne _ (by first | assumption | exact Ne.symm (by assumption))).trans ((hput_ne _ (by first | assumption | exact Ne.symm (by assumption))).trans (hput_eq _ _ _))) rfl ?_
  exact j_iret E dJx4a65c_size_8abf5_4 rfl rfl (by omega) (by omega) ⟨rfl, rfl⟩
theorem iw_Jx4a65c_isEmpty_aae02_Jx4a65c : ∀ w ∈ u_ws RJx4a65c TJx4a65c 3, w ∈ wsJx4a65c_isEmpty_aae02 := by decide +kernel
theorem c_isEmpty (v : Nat) {a e : Nat} {els : List Nat} (H : AL E0 h a e els) (hlen : els.length < 1000) : CM l B E0 D yJx4a65c_isEmpty_aae02 wsJx4a65c_isEmpty_aae02 (v + 1) 0 0 [.ref a] h (fun r h1 => r = some (.int (if els = [] then 1 else 0)) ∧ h1 = h) := by
  obtain ⟨m, cap, f, ha, he, hc, hk, hf⟩ := H
  refine CM.of (cc := cJx4a65c_isEmpty_aae02) (maxL := 1) (ret := (some .boolean)) (by decide) rfl (Nat.le_of_ble_eq_true rfl) (fun X E hin => ?_)
  show J X B D 1 _ h 0 0 0 [(0, .ref a)] []
  refine j_aload_n E dJx4a65c_isEmpty_aae02_0 rfl ?_
  refine j_getfield (ref := "java/util/ArrayList") (C := RJx4a65c) (T := TJx4a65c) (N := 3) (ci := 0) E 2 dJx4a65c_isEmpty_aae02_1 iw_Jx4a65c_isEmpty_aae02_Jx4a65c rfl (by decide) (by decide +kernel) rfl (by first | with_reducible assumption | exact hput_eq _ _ _ | exact (hput_ne _ (by first | assumption | exact Ne.symm (by assumption))).trans (by assumption) | exact (hput_ne _ (by first | assumption | exact Ne.symm (by assumption))).trans (hput_eq _ _ _) | exact (hput_ne _ (by first | assumption | exact Ne.symm (by assumption))).trans ((hput_ne _ (by first | assumption | exact Ne.symm (by assumption))).trans (by assumption)) | exact (hput_ne _ (by first | assumption | exact Ne.symm (by assumption))).trans ((hput_ne _ (by first | assumption | exact Ne.symm (by assumption))).trans (hput_eq _ _ _))) rfl ?_
  refine j_if_ne E (tgt := 11) dJx4a65c_isEmpty_aae02_4 (by decide) (fun c => ?_) (fun c => ?_)
  · have hn : els ≠ [] := fun z => c (by rw [z]; rfl)
    rw [if_neg hn]
    refine j_iconst (x := 0) E dJx4a65c_isEmpty_aae02_11 (by decide) ?_
    exact j_iret E dJx4a65c_isEmpty_aae02_12 rfl rfl (by omega) (by omega) ⟨rfl, rfl⟩
  · have hn : els = [] := by
      cases els with
      | nil => rfl
      | cons x t => exact absurd c (nI_ne0 (Nat.succ_pos _) (by omega))
    rw [if_pos hn]
    refine j_iconst (x := 1) E dJx4a65c_isEmpty_aae02_7 (by decide) ?_
    refine j_goto E (tgt := 12) dJx4a65c_isEmpty_aae02_8 (by decide) ?_
    exact j_iret E dJx4a65c_isEmpty_aae02_12 rfl rfl (by omega) (by omega) ⟨rfl, rfl⟩
theorem c_checkIndex3 (v : Nat) {i n : Nat} {z : Value} (hi : i < n) (hn : n < 2 ^ 31) : CM l B E0 D yJ3_checkIndex_8e157 wsJ3_checkIndex_8e157 (v + 1) 0 0 [.int (nI i), .int (nI n), .null] h (fun r h1 => r = some (.int (nI i)) ∧ h1 = h) := by
  refine CM.of (cc := cJ3_checkIndex_8e157) (maxL := 3) (ret := (some .int)) (by decide) rfl (Nat.le_of_ble_eq_true rfl) (fun X E hin => ?_)
  show J X B D 3 _ h 0 0 0 [(0, .int (nI i)), (1, .int (nI n)), (2, .null)] []
  refine j_iload_n E dJ3_checkIndex_8e157_0 rfl ?_
  refine j_if_lt E (tgt := 9) dJ3_checkIndex_8e157_1 (by decide) (fun c => ?_) (fun c => ?_)
  · exact absurd c (nI_pos (by omega))
  ·
    refine j_iload_n E dJ3_checkIndex_8e157_4 rfl ?_
    refine j_iload_n E dJ3_checkIndex_8e157_5 rfl ?_
    refine j_icmp_lt E (tgt := 16) dJ3_checkIndex_8e157_6 (by decide) (fun c => ?_) (fun c => ?_)
    ·
      refine j_iload_n E dJ3_checkIndex_8e157_16 rfl ?_
      exact j_iret E dJ3_checkIndex_8e157_17 rfl rfl (by omega) (by omega) ⟨rfl, rfl⟩
    · exact absurd (nI_lt hi hn) c
theorem c_checkIndex (v : Nat) {i n : Nat} (hi : i < n) (hn : n < 2 ^ 31) : CM l B E0 D yJ15_checkIndex_7cf53 wsJ15_checkIndex_7cf53 (v + 2) 0 0 [.int (nI i), .int (nI n)] h (fun r h1 => r = some (.int (nI i)) ∧ h1 = h) := by
  refine CM.of (cc := cJ15_checkIndex_7cf53) (maxL := 2) (ret := (some .int)) (by decide) rfl (Nat.le_of_ble_eq_true rfl) (fun X E hin => ?_)
  show J X B D 2 _ h 0 0 0 [(0, .int (nI i)), (1, .int (nI n))] []
  refine j_iload_n E dJ15_checkIndex_7cf53_0 rfl ?_
  refine j_iload_n E dJ15_checkIndex_7cf53_1 rfl ?_
  refine j_null E dJ15_checkIndex_7cf53_2 ?_
  refine j_callS (np := 3) E (c_checkIndex3 v (z := .null) hi hn) gJ15_checkIndex_7cf53_J3_checkIndex_8e157 rfl ⟨by decide, by decide, by decide +kernel⟩ dJ15_checkIndex_7cf53_3 (by omega) (by decide) rfl rfl (Nat.le_of_ble_eq_true rfl) (by omega) (by omega) (fun r h1 p => ?_)
  obtain ⟨rfl, rfl⟩ := p
  exact j_iret E dJ15_checkIndex_7cf53_6 rfl rfl (by omega) (by omega) ⟨rfl, rfl⟩
theorem iw_Jx4a65c_elementData_915e3_Jx4a65c : ∀ w ∈ u_ws RJx4a65c TJx4a65c 3, w ∈ wsJx4a65c_elementData_915e3 := by decide +kernel
theorem c_elementData (v : Nat) {a e i : Nat} {els : List Nat} (H : AL E0 h a e els) (hi : i < els.length) (hlen : els.length < 1000) : CM l B E0 D yJx4a65c_elementData_915e3 wsJx4a65c_elementData_915e3 (v + 1) 0 0 [.ref a, .int (nI i)] h (fun r h1 => r = some (.ref els[i]) ∧ h1 = h) := by
  obtain ⟨m, cap, f, ha, he, hc, hk, hf⟩ := H
  have hN : cap < 2 ^ 31 := by omega
  refine CM.of (cc := cJx4a65c_elementData_915e3) (maxL := 2) (ret := (some (.object "java/lang/Object"))) (by decide) rfl (Nat.le_of_ble_eq_true rfl) (fun X E hin => ?_)
  show J X B D 2 _ h 0 0 0 [(0, .ref a), (1, .int (nI i))] []
  refine j_aload_n E dJx4a65c_elementData_915e3_0 rfl ?_
  refine j_getfield (ref := "java/util/ArrayList") (C := RJx4a65c) (T := TJx4a65c) (N := 3) (ci := 0) E 1 dJx4a65c_elementData_915e3_1 iw_Jx4a65c_elementData_915e3_Jx4a65c rfl (by decide) (by decide +kernel) rfl (by first | with_reducible assumption | exact hput_eq _ _ _ | exact (hput_ne _ (by first | assumption | exact Ne.symm (by assumption))).trans (by assumption) | exact (hput_ne _ (by first | assumption | exact Ne.symm (by assumption))).trans (hput_eq _ _ _) | exact (hput_ne _ (by first | assumption | exact Ne.symm (by assumption))).trans ((hput_ne _ (by first | assumption | exact Ne.symm (by assumption))).trans (by assumption)) | exact (hput_ne _ (by first | assumption | exact Ne.symm (by assumption))).trans ((hput_ne _ (by first | assumption | exact Ne.symm (by assumption))).trans (hput_eq _ _ _))) rfl ?_
  refine j_iload_n E dJx4a65c_elementData_915e3_4 rfl ?_
  refine j_aaloadS E (y := els[i]) i dJx4a65c_elementData_915e3_5 he rfl (by omega) hN ((hf i hi).trans (List.getElem?_eq_getElem hi)) ?_
  exact j_aret E dJx4a65c_elementData_915e3_6 rfl (Or.inl ⟨_, rfl⟩) (by omega) (by omega) ⟨rfl, rfl⟩
theorem iw_Jx4a65c_get_915e3_Jx4a65c : ∀ w ∈ u_ws RJx4a65c TJx4a65c 3, w ∈ wsJx4a65c_get_915e3 := by decide +kernel
theorem c_get (v : Nat) {a e i : Nat} {els : List Nat} (H : AL E0 h a e els) (hi : i < els.length) (hlen : els.length < 1000) : CM l B E0 D yJx4a65c_get_915e3 wsJx4a65c_get_915e3 (v + 3) 0 0 [.ref a, .int (nI i)] h (fun r h1 => r = some (.ref els[i]) ∧ h1 = h) := by
  have H0 := H
  obtain ⟨m, cap, f, ha, he, hc, hk, hf⟩ := H
  refine CM.of (cc := cJx4a65c_get_915e3) (maxL := 2) (ret := (some (.object "java/lang/Object"))) (by decide) rfl (Nat.le_of_ble_eq_true rfl) (fun X E hin => ?_)
  show J X B D 2 _ h 0 0 0 [(0, .ref a), (1, .int (nI i))] []
  refine j_iload_n E dJx4a65c_get_915e3_0 rfl ?_
  refine j_aload_n E dJx4a65c_get_915e3_1 rfl ?_
  refine j_getfield (ref := "java/util/ArrayList") (C := RJx4a65c) (T := TJx4a65c) (N := 3) (ci := 0) E 2 dJx4a65c_get_915e3_2 iw_Jx4a65c_get_915e3_Jx4a65c rfl (by decide) (by decide +kernel) rfl (by first | with_reducible assumption | exact hput_eq _ _ _ | exact (hput_ne _ (by first | assumption | exact Ne.symm (by assumption))).trans (by assumption) | exact (hput_ne _ (by first | assumption | exact Ne.symm (by assumption))).trans (hput_eq _ _ _) | exact (hput_ne _ (by first | assumption | exact Ne.symm (by assumption))).trans ((hput_ne _ (by first | assumption | exact Ne.symm (by assumption))).trans (by assumption)) | exact (hput_ne _ (by first | assumption | exact Ne.symm (by assumption))).trans ((hput_ne _ (by first | assumption | exact Ne.symm (by assumption))).trans (hput_eq _ _ _))) rfl ?_
  refine j_callS (np := 2) E (c_checkIndex v hi (by omega)) gJx4a65c_get_915e3_J15_checkIndex_7cf53 rfl ⟨by decide, by decide, by decide +kernel⟩ dJx4a65c_get_915e3_5 (by omega) (by decide) rfl rfl (Nat.le_of_ble_eq_true rfl) (by omega) (by omega) (fun r h1 p => ?_)
  obtain ⟨rfl, rfl⟩ := p
  refine j_pop E dJx4a65c_get_915e3_8 rfl ?_
  refine j_aload_n E dJx4a65c_get_915e3_9 rfl ?_
  refine j_iload_n E dJx4a65c_get_915e3_10 rfl ?_
  refine j_callV (np := 1) (C := RJx4a65c) (T := TJx4a65c) (N := 3) (ci := 0) E (c_elementData v H0 hi hlen) gJx4a65c_get_915e3_Jx4a65c_elementData_915e3 rfl ⟨rfl, by decide, by decide, by decide +kernel⟩ dJx4a65c_get_915e3_11 (by omega) (by decide) rfl (by first | with_reducible assumption | exact hput_eq _ _ _ | exact (hput_ne _ (by first | assumption | exact Ne.symm (by assumption))).trans (by assumption) | exact (hput_ne _ (by first | assumption | exact Ne.symm (by assumption))).trans (hput_eq _ _ _) | exact (hput_ne _ (by first | assumption | exact Ne.symm (by assumption))).trans ((hput_ne _ (by first | assumption | exact Ne.symm (by assumption))).trans (by assumption)) | exact (hput_ne _ (by first | assumption | exact Ne.symm (by assumption))).trans ((hput_ne _ (by first | assumption | exact Ne.symm (by assumption))).trans (hput_eq _ _ _))) rfl rfl (Nat.le_of_ble_eq_true rfl) (by omega) (by omega) (fun r h1 p => ?_)
  obtain ⟨rfl, rfl⟩ := p
  exact j_aret E dJx4a65c_get_915e3_14 rfl (Or.inl ⟨_, rfl⟩) (by omega) (by omega) ⟨rfl, rfl⟩
theorem c_acInit (v : Nat) {a ci : Nat} {fs : List Value} (ha : h a = some (hO ci fs)) : CM l B E0 D yJxa1e45_init_da8c8 wsJxa1e45_init_da8c8 (v + 1) 0 0 [.ref a] h (fun r h1 => r = none ∧ h1 = h) := by
  refine CM.of (cc := cJxa1e45_init_da8c8) (maxL := 1) (ret := none) (by decide) rfl (Nat.le_of_ble_eq_true rfl) (fun X E hin => ?_)
  show J X B D 1 _ h 0 0 0 [(0, .ref a)] []
  refine j_aload_n E dJxa1e45_init_da8c8_0 rfl ?_
  refine j_objInit E dJxa1e45_init_da8c8_1 (by decide +kernel) (by decide +kernel) (by decide +kernel) (by omega) (Nat.le_of_ble_eq_true rfl) ?_
  exact j_vret E dJxa1e45_init_da8c8_4 rfl (by omega) (by omega) ⟨rfl, rfl⟩
theorem iw_Jxc12de_init_da8c8_Jx4a65c : ∀ w ∈ u_ws RJx4a65c TJx4a65c 3, w ∈ wsJxc12de_init_da8c8 := by decide +kernel
theorem c_alInit0 (v : Nat) {a : Nat} {m : Int32} {x y : Value} (ha : h a = some (hO 0 [.int m, x, y])) : CM l B E0 D yJxc12de_init_da8c8 wsJxc12de_init_da8c8 (v + 2) 0 0 [.ref a] h (fun r h1 => r = none ∧ h1 = hput h a (hO 0 [.int 0, x, y])) := by
  refine CM.of (cc := cJxc12de_init_da8c8) (maxL := 1) (ret := none) (by decide) rfl (Nat.le_of_ble_eq_true rfl) (fun X E hin => ?_)
  show J X B D 1 _ h 0 0 0 [(0, .ref a)] []
  refine j_aload_n E dJxc12de_init_da8c8_0 rfl ?_
  refine j_callI (np := 0) E (c_acInit v ha) gJxc12de_init_da8c8_Jxa1e45_init_da8c8 rfl (by decide +kernel) (by decide +kernel) (by decide +kernel) rfl ⟨by decide, by decide, by decide +kernel⟩ dJxc12de_init_da8c8_1 (by omega) (by decide) rfl rfl (Nat.le_of_ble_eq_true rfl) (by omega) (by omega) (fun r h1 p => ?_)
  obtain ⟨rfl, rfl⟩ := p
  refine j_aload_n E dJxc12de_init_da8c8_4 rfl ?_
  refine j_iconst (x := 0) E dJxc12de_init_da8c8_5 (by decide) ?_
  refine j_putfield (ref := "java/util/AbstractList") (C := RJx4a65c) (T := TJx4a65c) (N := 3) (ci := 0) E 0 dJxc12de_init_da8c8_6 iw_Jxc12de_init_da8c8_Jx4a65c tyJx4a65c tyJx4a65c_ok nmJx4a65c rfl (by decide) (by decide +kernel) rfl rfl rfl rfl (by first | with_reducible assumption | exact hput_eq _ _ _ | exact (hput_ne _ (by first | assumption | exact Ne.symm (by assumption))).trans (by assumption) | exact (hput_ne _ (by first | assumption | exact Ne.symm (by assumption))).trans (hput_eq _ _ _) | exact (hput_ne _ (by first | assumption | exact Ne.symm (by assumption))).trans ((hput_ne _ (by first | assumption | exact Ne.symm (by assumption))).trans (by assumption)) | exact (hput_ne _ (by first | assumption | exact Ne.symm (by assumption))).trans ((hput_ne _ (by first | assumption | exact Ne.symm (by assumption))).trans (hput_eq _ _ _))) (Nat.le_of_ble_eq_true rfl) ?_
  exact j_vret E dJxc12de_init_da8c8_9 rfl (by omega) (by omega) ⟨rfl, rfl⟩
theorem iw_Jx4a65c_init_da8c8_Jx4a65c : ∀ w ∈ u_ws RJx4a65c TJx4a65c 3, w ∈ wsJx4a65c_init_da8c8 := by decide +kernel
theorem c_alInit (v : Nat) {a : Nat} {m : Int32} {x y : Value} (ha : h a = some (hO 0 [.int m, x, y])) : CM l B E0 D yJx4a65c_init_da8c8 wsJx4a65c_init_da8c8 (v + 3) 0 0 [.ref a] h (fun r h1 => r = none ∧ h1 = hput h a (hO 0 [.int 0, .ref E0, y])) := by
  refine CM.of (cc := cJx4a65c_init_da8c8) (maxL := 1) (ret := none) (by decide) rfl (Nat.le_of_ble_eq_true rfl) (fun X E hin => ?_)
  show J X B D 1 _ h 0 0 0 [(0, .ref a)] []
  refine j_aload_n E dJx4a65c_init_da8c8_0 rfl ?_
  refine j_callI (np := 0) E (c_alInit0 v ha) gJx4a65c_init_da8c8_Jxc12de_init_da8c8 rfl (by decide +kernel) (by decide +kernel) (by decide +kernel) rfl ⟨by decide, by decide, by decide +kernel⟩ dJx4a65c_init_da8c8_1 (by omega) (by decide) rfl rfl (Nat.le_of_ble_eq_true rfl) (by omega) (by omega) (fun r h1 p => ?_)
  obtain ⟨rfl, rfl⟩ := p
  refine j_aload_n E dJx4a65c_init_da8c8_4 rfl ?_
  refine j_getE0 E dJx4a65c_init_da8c8_5 (by decide +kernel) ?_
  refine j_putfield (ref := "java/util/ArrayList") (C := RJx4a65c) (T := TJx4a65c) (N := 3) (ci := 0) E 1 dJx4a65c_init_da8c8_8 iw_Jx4a65c_init_da8c8_Jx4a65c tyJx4a65c tyJx4a65c_ok nmJx4a65c rfl (by decide) (by decide +kernel) rfl rfl rfl rfl (by first | with_reducible assumption | exact hput_eq _ _ _ | exact (hput_ne _ (by first | assumption | exact Ne.symm (by assumption))).trans (by assumption) | exact (hput_ne _ (by first | assumption | exact Ne.symm (by assumption))).trans (hput_eq _ _ _) | exact (hput_ne _ (by first | assumption | exact Ne.symm (by assumption))).trans ((hput_ne _ (by first | assumption | exact Ne.symm (by assumption))).trans (by assumption)) | exact (hput_ne _ (by first | assumption | exact Ne.symm (by assumption))).trans ((hput_ne _ (by first | assumption | exact Ne.symm (by assumption))).trans (hput_eq _ _ _))) (Nat.le_of_ble_eq_true rfl) ?_
  exact j_vret E dJx4a65c_init_da8c8_11 rfl (by omega) (by omega) ⟨rfl, by funext q; by_cases e : q = a <;> simp [hput, e]⟩
theorem c_newLength (v : Nat) : CM l B E0 D yJ8_newLength_cabcc wsJ8_newLength_cabcc (v + 1) 0 0 [.int 10, .int 1, .int 5] h (fun r h1 => r = some (.int 15) ∧ h1 = h) := by
  refine CM.of (cc := cJ8_newLength_cabcc) (maxL := 4) (ret := (some .int)) (by decide) rfl (Nat.le_of_ble_eq_true rfl) (fun X E hin => ?_)
  show J X B D 4 _ h 0 0 0 [(0, .int 10), (1, .int 1), (2, .int 5)] []
  refine j_iload_n E dJ8_newLength_cabcc_0 rfl ?_
  refine j_iload_n E dJ8_newLength_cabcc_1 rfl ?_
  refine j_iload_n E dJ8_newLength_cabcc_2 rfl ?_
  refine j_mmax E dJ8_newLength_cabcc_3 (by decide +kernel) (by decide +kernel) (by decide +kernel) (by decide +kernel) (by omega) (Nat.le_of_ble_eq_true rfl) (by omega) (by omega) ?_
  refine J.topi (x' := 5) (by decide) ?_
  refine j_iadd E dJ8_newLength_cabcc_6 ?_
  refine J.topi (x' := 15) (by decide) ?_
  refine j_istore_n E dJ8_newLength_cabcc_7 (by decide) ?_
  refine j_iconst (x := 0) E dJ8_newLength_cabcc_8 (by decide) ?_
  refine j_iload_n E dJ8_newLength_cabcc_9 rfl ?_
  refine j_icmp_ge E (tgt := 21) dJ8_newLength_cabcc_10 (by decide) (fun c => ?_) (fun c => ?_)
  · exact absurd c (by decide)
  ·
    refine j_iload_n E dJ8_newLength_cabcc_13 rfl ?_
    refine j_ldc E (x := 2147483639) dJ8_newLength_cabcc_14 (by decide +kernel) ?_
    refine j_icmp_gt E (tgt := 21) dJ8_newLength_cabcc_16 (by decide) (fun c => ?_) (fun c => ?_)
    · exact absurd c (by decide)
    ·
      refine j_iload_n E dJ8_newLength_cabcc_19 rfl ?_
      exact j_iret E dJ8_newLength_cabcc_20 rfl rfl (by omega) (by omega) ⟨rfl, rfl⟩
theorem c_copyOf3 (v : Nat) {a n n0 : Nat} {f : Nat → Option Nat} (ha : h a = some (hQ n0 f)) (h0 : 0 < n0) (hn : n0 ≤ n) (hN : n < 1000) (hel : ∀ i : Nat, i < n0 → ∀ y : Nat, f i = some y → hOb h y) : CM l B E0 D yJ7_copyOf_6403c wsJ7_copyOf_6403c (v + 1) 1 n [.ref a, .int (nI n), .ref (D.2 99 0)] h (fun r h1 => ∃ (q : Nat) (g : Nat → Option Nat), r = some (.ref q) ∧ h q = none ∧ B ≤ q ∧ h1 = hput h q (hQ n g) ∧ ∀ i, i < n0 → g i = f i) := by
  refine CM.of (cc := cJ7_copyOf_6403c) (maxL := 4) (ret := (some (.array (.object "java/lang/Object")))) (by decide) rfl (Nat.le_of_ble_eq_true rfl) (fun X E hin => ?_)
  show J X B D 4 _ h 0 0 0 [(0, .ref a), (1, .int (nI n)), (2, .ref (D.2 99 0))] []
  refine j_aload_n E dJ7_copyOf_6403c_0 rfl ?_
  refine j_ldcM E dJ7_copyOf_6403c_1 (by decide +kernel) ?_
  refine j_acmp_ne E (tgt := 13) dJ7_copyOf_6403c_3 (by decide) (fun c => ?_) (fun c => ?_)
  · exact absurd rfl c
  ·
    refine j_iload_n E dJ7_copyOf_6403c_6 rfl ?_
    refine j_newQ E n dJ7_copyOf_6403c_7 (by decide +kernel) rfl (by omega) (by omega) (by omega) (fun q nq bq => ?_)
    refine j_goto E (tgt := 24) dJ7_copyOf_6403c_10 (by decide) ?_
    have haq : a ≠ q := hm_neN ha nq
    refine j_astore_n E dJ7_copyOf_6403c_24 (by decide) ?_
    refine j_aload_n E dJ7_copyOf_6403c_25 rfl ?_
    refine j_iconst (x := 0) E dJ7_copyOf_6403c_26 (by decide) ?_
    refine j_aload_n E dJ7_copyOf_6403c_27 rfl ?_
    refine j_iconst (x := 0) E dJ7_copyOf_6403c_28 (by decide) ?_
    refine j_aload_n E dJ7_copyOf_6403c_29 rfl ?_
    refine j_alen E dJ7_copyOf_6403c_30 (by first | with_reducible assumption | exact hput_eq _ _ _ | exact (hput_ne _ (by first | assumption | exact Ne.symm (by assumption))).trans (by assumption) | exact (hput_ne _ (by first | assumption | exact Ne.symm (by assumption))).trans (hput_eq _ _ _) | exact (hput_ne _ (by first | assumption | exact Ne.symm (by assumption))).trans ((hput_ne _ (by first | assumption | exact Ne.symm (by assumption))).trans (by assumption)) | exact (hput_ne _ (by first | assumption | exact Ne.symm (by assumption))).trans ((hput_ne _ (by first | assumption | exact Ne.symm (by assumption))).trans (hput_eq _ _ _))) ?_
    refine j_iload_n E dJ7_copyOf_6403c_31 rfl ?_
    refine j_mmin E dJ7_copyOf_6403c_32 (by decide +kernel) (by decide +kernel) (by decide +kernel) (by decide +kernel) (by omega) (Nat.le_of_ble_eq_true rfl) (by omega) (by omega) ?_
    refine J.topi (x' := nI n0) (if_neg (nI_nlt hn (by omega))) ?_
    refine j_copyQ E n0 dJ7_copyOf_6403c_35 (by decide +kernel) (by decide +kernel) (by decide +kernel) (by decide +kernel) (by omega) (Nat.le_of_ble_eq_true rfl) ((hput_ne _ haq).trans ha) (hput_eq _ _ _) ⟨h0, by omega⟩ bq (Nat.le_refl _) hn (by omega) ?_ ?_
    · intro i hi y hy
      obtain ⟨ci, fs, rr, h1, h2⟩ := hel i hi y hy
      exact ⟨ci, fs, rr, (hput_ne _ (hm_neN h1 nq)).trans h1, h2⟩
    · refine J.hp (hput_hput _ _ _ _) ?_
      refine j_aload_n E dJ7_copyOf_6403c_38 rfl ?_
      exact j_aret E dJ7_copyOf_6403c_39 rfl (Or.inr ⟨_, rfl⟩) (by omega) (by omega) ⟨q, _, rfl, nq, bq, rfl, fun i hi => by rw [pk_cpy_in (Nat.zero_le _) (by omega), Nat.zero_add, Nat.sub_zero]⟩
theorem c_copyOf2 (v : Nat) {a n n0 : Nat} {f : Nat → Option Nat} (ha : h a = some (hQ n0 f)) (h0 : 0 < n0) (hn : n0 ≤ n) (hN : n < 1000) (hel : ∀ i : Nat, i < n0 → ∀ y : Nat, f i = some y → hOb h y) : CM l B E0 D yJ7_copyOf_1904c wsJ7_copyOf_1904c (v + 2) 1 n [.ref a, .int (nI n)] h (fun r h1 => ∃ (q : Nat) (g : Nat → Option Nat), r = some (.ref q) ∧ h q = none ∧ B ≤ q ∧ h1 = hput h q (hQ n g) ∧ ∀ i, i < n0 → g i = f i) := by
  refine CM.of (cc := cJ7_copyOf_1904c) (maxL := 2) (ret := (some (.array (.object "java/lang/Object")))) (by decide) rfl (Nat.le_of_ble_eq_true rfl) (fun X E hin => ?_)
  show J X B D 2 _ h 0 0 0 [(0, .ref a), (1, .int (nI n))] []
  refine j_aload_n E dJ7_copyOf_1904c_0 rfl ?_
  refine j_iload_n E dJ7_copyOf_1904c_1 rfl ?_
  refine j_aload_n E dJ7_copyOf_1904c_2 rfl ?_
  refine j_getC E dJ7_copyOf_1904c_3 (by decide +kernel) (by decide +kernel) (by decide +kernel) (by decide +kernel) (by omega) (Nat.le_of_ble_eq_true rfl) ha h0 ?_
  refine j_callS (np := 3) E (c_copyOf3 v ha h0 hn hN hel) gJ7_copyOf_1904c_J7_copyOf_6403c rfl ⟨by decide, by decide, by decide +kernel⟩ dJ7_copyOf_1904c_6 (by omega) (by decide) rfl rfl (Nat.le_of_ble_eq_true rfl) (by omega) (by omega) (fun r h1 p => ?_)
  obtain ⟨q, g, rfl, p2, p3, rfl, p5⟩ := p
  exact j_aret E dJ7_copyOf_1904c_9 rfl (Or.inr ⟨_, rfl⟩) (by omega) (by omega) ⟨q, g, rfl, p2, p3, rfl, p5⟩
theorem iw_Jx4a65c_grow_92f84_Jx4a65c : ∀ w ∈ u_ws RJx4a65c TJx4a65c 3, w ∈ wsJx4a65c_grow_92f84 := by decide +kernel
theorem c_growI (v : Nat) {a e n : Nat} {m : Int32} {f : Nat → Option Nat} (ha : h a = some (hO 0 [.int m, .ref e, .int (nI n)])) (he : h e = some (hQ n f)) (hn : (n = 0 ∧ e = E0) ∨ n = 10) (hel : ∀ i : Nat, i < n → ∀ y : Nat, f i = some y → hOb h y) : CM l B E0 D yJx4a65c_grow_92f84 wsJx4a65c_grow_92f84 (v + 3) 1 15 [.ref a, .int (nI (n + 1))] h (fun r h1 => ∃ (q : Nat) (g : Nat → Option Nat) (cap : Nat), r = some (.ref q) ∧ h q = none ∧ B ≤ q ∧ (cap = 10 ∨ cap = 15) ∧ n < cap ∧ h1 = hput (hput h q (hQ cap g)) a (hO 0 [.int m, .ref q, .int (nI n)]) ∧ ∀ i, i < n → g i = f i) := by
  have hae : a ≠ e := hm_ne ha he (by intro z; cases z)
  refine CM.of (cc := cJx4a65c_grow_92f84) (maxL := 4) (ret := (some (.array (.object "java/lang/Object")))) (by decide) rfl (Nat.le_of_ble_eq_true rfl) (fun X E hin => ?_)
  show J X B D 4 _ h 0 0 0 [(0, .ref a), (1, .int (nI (n + 1)))] []
  rcases hn with ⟨rfl, rfl⟩ | rfl
  ·
    refine j_aload_n E dJx4a65c_grow_92f84_0 rfl ?_
    refine j_getfield (ref := "java/util/ArrayList") (C := RJx4a65c) (T := TJx4a65c) (N := 3) (ci := 0) E 1 dJx4a65c_grow_92f84_1 iw_Jx4a65c_grow_92f84_Jx4a65c rfl (by decide) (by decide +kernel) rfl (by first | with_reducible assumption | exact hput_eq _ _ _ | exact (hput_ne _ (by first | assumption | exact Ne.symm (by assumption))).trans (by assumption) | exact (hput_ne _ (by first | assumption | exact Ne.symm (by assumption))).trans (hput_eq _ _ _) | exact (hput_ne _ (by first | assumption | exact Ne.symm (by assumption))).trans ((hput_ne _ (by first | assumption | exact Ne.symm (by assumption))).trans (by assumption)) | exact (hput_ne _ (by first | assumption | exact Ne.symm (by assumption))).trans ((hput_ne _ (by first | assumption | exact Ne.symm (by assumption))).trans (hput_eq _ _ _))) rfl ?_
    refine j_alen E dJx4a65c_grow_92f84_4 (by first | with_reducible assumption | exact hput_eq _ _ _ | exact (hput_ne _ (by first | assumption | exact Ne.symm (by assumption))).trans (by assumption) | exact (hput_ne _ (by first | assumption | exact Ne.symm (by assumption))).trans (hput_eq _ _ _) | exact (hput_ne _ (by first | assumption | exact Ne.symm (by assumption))).trans ((hput_ne _ (by first | assumption | exact Ne.symm (by assumption))).trans (by assumption)) | exact (hput_ne _ (by first | assumption | exact Ne.symm (by assumption))).trans ((hput_ne _ (by first | assumption | exact Ne.symm (by assumption))).trans (hput_eq _ _ _))) ?_
    refine j_istore_n E dJx4a65c_grow_92f84_5 (by decide) ?_
    refine j_iload_n E dJx4a65c_grow_92f84_6 rfl ?_
    refine j_if_gt E (tgt := 20) dJx4a65c_grow_92f84_7 (by decide) (fun c => ?_) (fun c => ?_)
    · exact absurd c (by decide)
    ·
      refine j_aload_n E dJx4a65c_grow_92f84_10 rfl ?_
      refine j_getfield (ref := "java/util/ArrayList") (C := RJx4a65c) (T := TJx4a65c) (N := 3) (ci := 0) E 1 dJx4a65c_grow_92f84_11 iw_Jx4a65c_grow_92f84_Jx4a65c rfl (by decide) (by decide +kernel) rfl (by first | with_reducible assumption | exact hput_eq _ _ _ | exact (hput_ne _ (by first | assumption | exact Ne.symm (by assumption))).trans (by assumption) | exact (hput_ne _ (by first | assumption | exact Ne.symm (by assumption))).trans (hput_eq _ _ _) | exact (hput_ne _ (by first | assumption | exact Ne.symm (by assumption))).trans ((hput_ne _ (by first | assumption | exact Ne.symm (by assumption))).trans (by assumption)) | exact (hput_ne _ (by first | assumption | exact Ne.symm (by assumption))).trans ((hput_ne _ (by first | assumption | exact Ne.symm (by assumption))).trans (hput_eq _ _ _))) rfl ?_
      refine j_getE0 E dJx4a65c_grow_92f84_14 (by decide +kernel) ?_
      refine j_acmp_eq E (tgt := 45) dJx4a65c_grow_92f84_17 (by decide) (fun c => ?_) (fun c => ?_)
      ·
        refine j_aload_n E dJx4a65c_grow_92f84_45 rfl ?_
        refine j_bipush (x := 10) E dJx4a65c_grow_92f84_46 (by decide) ?_
        refine j_iload_n E dJx4a65c_grow_92f84_48 rfl ?_
        refine j_mmax E dJx4a65c_grow_92f84_49 (by decide +kernel) (by decide +kernel) (by decide +kernel) (by decide +kernel) (by omega) (Nat.le_of_ble_eq_true rfl) (by omega) (by omega) ?_
        refine J.topi (x' := nI 10) (by decide) ?_
        refine j_newQ E 10 dJx4a65c_grow_92f84_52 (by decide +kernel) rfl (by omega) (by omega) (by omega) (fun q nq bq => ?_)
        have haq : a ≠ q := hm_neN ha nq
        refine j_dup_x1 E dJx4a65c_grow_92f84_55 rfl rfl ?_
        refine j_putfield (ref := "java/util/ArrayList") (C := RJx4a65c) (T := TJx4a65c) (N := 3) (ci := 0) E 1 dJx4a65c_grow_92f84_56 iw_Jx4a65c_grow_92f84_Jx4a65c tyJx4a65c tyJx4a65c_ok nmJx4a65c rfl (by decide) (by decide +kernel) rfl rfl rfl rfl (by first | with_reducible assumption | exact hput_eq _ _ _ | exact (hput_ne _ (by first | assumption | exact Ne.symm (by assumption))).trans (by assumption) | exact (hput_ne _ (by first | assumption | exact Ne.symm (by assumption))).trans (hput_eq _ _ _) | exact (hput_ne _ (by first | assumption | exact Ne.symm (by assumption))).trans ((hput_ne _ (by first | assumption | exact Ne.symm (by assumption))).trans (by assumption)) | exact (hput_ne _ (by first | assumption | exact Ne.symm (by assumption))).trans ((hput_ne _ (by first | assumption | exact Ne.symm (by assumption))).trans (hput_eq _ _ _))) (Nat.le_of_ble_eq_true rfl) ?_
        refine J.wide (k' := 1) (n' := 15) (by omega) (by omega) ?_
        exact j_aret E dJx4a65c_grow_92f84_59 rfl (Or.inr ⟨_, rfl⟩) (by omega) (by omega) ⟨q, _, 10, rfl, nq, bq, Or.inl rfl, by decide, rfl, fun i hi => absurd hi (Nat.not_lt_zero i)⟩
      · exact absurd rfl c
  ·
    refine j_aload_n E dJx4a65c_grow_92f84_0 rfl ?_
    refine j_getfield (ref := "java/util/ArrayList") (C := RJx4a65c) (T := TJx4a65c) (N := 3) (ci := 0) E 1 dJx4a65c_grow_92f84_1 iw_Jx4a65c_grow_92f84_Jx4a65c rfl (by decide) (by decide +kernel) rfl (by first | with_reducible assumption | exact hput_eq _ _ _ | exact (hput_ne _ (by first | assumption | exact Ne.symm (by assumption))).trans (by assumption) | exact (hput_ne _ (by first | assumption | exact Ne.symm (by assumption))).trans (hput_eq _ _ _) | exact (hput_ne _ (by first | assumption | exact Ne.symm (by assumption))).trans ((hput_ne _ (by first | assumption | exact Ne.symm (by assumption))).trans (by assumption)) | exact (hput_ne _ (by first | assumption | exact Ne.symm (by assumption))).trans ((hput_ne _ (by first | assumption | exact Ne.symm (by assumption))).trans (hput_eq _ _ _))) rfl ?_
    refine j_alen E dJx4a65c_grow_92f84_4 (by first | with_reducible assumption | exact hput_eq _ _ _ | exact (hput_ne _ (by first | assumption | exact Ne.symm (by assumption))).trans (by assumption) | exact (hput_ne _ (by first | assumption | exact Ne.symm (by assumption))).trans (hput_eq _ _ _) | exact (hput_ne _ (by first | assumption | exact Ne.symm (by assumption))).trans ((hput_ne _ (by first | assumption | exact Ne.symm (by assumption))).trans (by assumption)) | exact (hput_ne _ (by first | assumption | exact Ne.symm (by assumption))).trans ((hput_ne _ (by first | assumption | exact Ne.symm (by assumption))).trans (hput_eq _ _ _))) ?_
    refine j_istore_n E dJx4a65c_grow_92f84_5 (by decide) ?_
    refine j_iload_n E dJx4a65c_grow_92f84_6 rfl ?_
    refine j_if_gt E (tgt := 20) dJx4a65c_grow_92f84_7 (by decide) (fun c => ?_) (fun c => ?_)
    ·
      refine j_iload_n E dJx4a65c_grow_92f84_20 rfl ?_
      refine j_iload_n E dJx4a65c_grow_92f84_21 rfl ?_
      refine j_iload_n E dJx4a65c_grow_92f84_22 rfl ?_
      refine j_isub E dJx4a65c_grow_92f84_23 ?_
      refine j_iload_n E dJx4a65c_grow_92f84_24 rfl ?_
      refine j_iconst (x := 1) E dJx4a65c_grow_92f84_25 (by decide) ?_
      refine j_ishr E dJx4a65c_grow_92f84_26 ?_
      refine J.stk (st' := [.int 5, .int 1, .int 10]) (by decide) ?_
      refine j_callS (np := 3) E (c_newLength v) gJx4a65c_grow_92f84_J8_newLength_cabcc rfl ⟨by decide, by decide, by decide +kernel⟩ dJx4a65c_grow_92f84_27 (by omega) (by decide) rfl rfl (Nat.le_of_ble_eq_true rfl) (by omega) (by omega) (fun r h1 p => ?_)
      obtain ⟨rfl, rfl⟩ := p
      refine j_istore_n E dJx4a65c_grow_92f84_30 (by decide) ?_
      refine j_aload_n E dJx4a65c_grow_92f84_31 rfl ?_
      refine j_aload_n E dJx4a65c_grow_92f84_32 rfl ?_
      refine j_getfield (ref := "java/util/ArrayList") (C := RJx4a65c) (T := TJx4a65c) (N := 3) (ci := 0) E 1 dJx4a65c_grow_92f84_33 iw_Jx4a65c_grow_92f84_Jx4a65c rfl (by decide) (by decide +kernel) rfl (by first | with_reducible assumption | exact hput_eq _ _ _ | exact (hput_ne _ (by first | assumption | exact Ne.symm (by assumption))).trans (by assumption) | exact (hput_ne _ (by first | assumption | exact Ne.symm (by assumption))).trans (hput_eq _ _ _) | exact (hput_ne _ (by first | assumption | exact Ne.symm (by assumption))).trans ((hput_ne _ (by first | assumption | exact Ne.symm (by assumption))).trans (by assumption)) | exact (hput_ne _ (by first | assumption | exact Ne.symm (by assumption))).trans ((hput_ne _ (by first | assumption | exact Ne.symm (by assumption))).trans (hput_eq _ _ _))) rfl ?_
      refine j_iload_n E dJx4a65c_grow_92f84_36 rfl ?_
      refine j_callS (np := 2) E (c_copyOf2 (n := 15) v he (by decide) (by decide) (by decide) hel) gJx4a65c_grow_92f84_J7_copyOf_1904c rfl ⟨by decide, by decide, by decide +kernel⟩ dJx4a65c_grow_92f84_37 (by omega) (by decide) rfl rfl (Nat.le_of_ble_eq_true rfl) (by omega) (by omega) (fun r h1 p => ?_)
      obtain ⟨q, g, rfl, p2, p3, rfl, p5⟩ := p
      have haq : a ≠ q := hm_neN ha p2
      refine j_dup_x1 E dJx4a65c_grow_92f84_40 rfl rfl ?_
      refine j_putfield (ref := "java/util/ArrayList") (C := RJx4a65c) (T := TJx4a65c) (N := 3) (ci := 0) E 1 dJx4a65c_grow_92f84_41 iw_Jx4a65c_grow_92f84_Jx4a65c tyJx4a65c tyJx4a65c_ok nmJx4a65c rfl (by decide) (by decide +kernel) rfl rfl rfl rfl (by first | with_reducible assumption | exact hput_eq _ _ _ | exact (hput_ne _ (by first | assumption | exact Ne.symm (by assumption))).trans (by assumption) | exact (hput_ne _ (by first | assumption | exact Ne.symm (by assumption))).trans (hput_eq _ _ _) | exact (hput_ne _ (by first | assumption | exact Ne.symm (by assumption))).trans ((hput_ne _ (by first | assumption | exact Ne.symm (by assumption))).trans (by assumption)) | exact (hput_ne _ (by first | assumption | exact Ne.symm (by assumption))).trans ((hput_ne _ (by first | assumption | exact Ne.symm (by assumption))).trans (hput_eq _ _ _))) (Nat.le_of_ble_eq_true rfl) ?_
      exact j_aret E dJx4a65c_grow_92f84_44 rfl (Or.inr ⟨_, rfl⟩) (by omega) (by omega) ⟨q, g, 15, rfl, p2, p3, Or.inr rfl, by decide, rfl, p5⟩
    · exact absurd (by decide) c
theorem iw_Jx4a65c_grow_d5877_Jx4a65c : ∀ w ∈ u_ws RJx4a65c TJx4a65c 3, w ∈ wsJx4a65c_grow_d5877 := by decide +kernel
theorem c_grow0 (v : Nat) {a e n : Nat} {m : Int32} {f : Nat → Option Nat} (ha : h a = some (hO 0 [.int m, .ref e, .int (nI n)])) (he : h e = some (hQ n f)) (hn : (n = 0 ∧ e = E0) ∨ n = 10) (hel : ∀ i : Nat, i < n → ∀ y : Nat, f i = some y → hOb h y) : CM l B E0 D yJx4a65c_grow_d5877 wsJx4a65c_grow_d5877 (v + 4) 1 15 [.ref a] h (fun r h1 => ∃ (q : Nat) (g : Nat → Option Nat) (cap : Nat), r = some (.ref q) ∧ h q = none ∧ B ≤ q ∧ (cap = 10 ∨ cap = 15) ∧ n < cap ∧ h1 = hput (hput h q (hQ cap g)) a (hO 0 [.int m, .ref q, .int (nI n)]) ∧ ∀ i, i < n → g i = f i) := by
  refine CM.of (cc := cJx4a65c_grow_d5877) (maxL := 1) (ret := (some (.array (.object "java/lang/Object")))) (by decide) rfl (Nat.le_of_ble_eq_true rfl) (fun X E hin => ?_)
  show J X B D 1 _ h 0 0 0 [(0, .ref a)] []
  refine j_aload_n E dJx4a65c_grow_d5877_0 rfl ?_
  refine j_aload_n E dJx4a65c_grow_d5877_1 rfl ?_
  refine j_getfield (ref := "java/util/ArrayList") (C := RJx4a65c) (T := TJx4a65c) (N := 3) (ci := 0) E 2 dJx4a65c_grow_d5877_2 iw_Jx4a65c_grow_d5877_Jx4a65c rfl (by decide) (by decide +kernel) rfl (by first | with_reducible assumption | exact hput_eq _ _ _ | exact (hput_ne _ (by first | assumption | exact Ne.symm (by assumption))).trans (by assumption) | exact (hput_ne _ (by first | assumption | exact Ne.symm (by assumption))).trans (hput_eq _ _ _) | exact (hput_ne _ (by first | assumption | exact Ne.symm (by assumption))).trans ((hput_ne _ (by first | assumption | exact Ne.symm (by assumption))).trans (by assumption)) | exact (hput_ne _ (by first | assumption | exact Ne.symm (by assumption))).trans ((hput_ne _ (by first | assumption | exact Ne.symm (by assumption))).trans (hput_eq _ _ _))) rfl ?_
  refine j_iconst (x := 1) E dJx4a65c_grow_d5877_5 (by decide) ?_
  refine j_iadd E dJx4a65c_grow_d5877_6 ?_
  refine J.topi (x' := nI (n + 1)) (nI_1 n) ?_
  refine j_callV (np := 1) (C := RJx4a65c) (T := TJx4a65c) (N := 3) (ci := 0) E (c_growI v ha he hn hel) gJx4a65c_grow_d5877_Jx4a65c_grow_92f84 rfl ⟨rfl, by decide, by decide, by decide +kernel⟩ dJx4a65c_grow_d5877_7 (by omega) (by decide) rfl (by first | with_reducible assumption | exact hput_eq _ _ _ | exact (hput_ne _ (by first | assumption | exact Ne.symm (by assumption))).trans (by assumption) | exact (hput_ne _ (by first | assumption | exact Ne.symm (by assumption))).trans (hput_eq _ _ _) | exact (hput_ne _ (by first | assumption | exact Ne.symm (by assumption))).trans ((hput_ne _ (by first | assumption | exact Ne.symm (by assumption))).trans (by assumption)) | exact (hput_ne _ (by first | assumption | exact Ne.symm (by assumption))).trans ((hput_ne _ (by first | assumption | exact Ne.symm (by assumption))).trans (hput_eq _ _ _))) rfl rfl (Nat.le_of_ble_eq_true rfl) (by omega) (by omega) (fun r h1 p => ?_)
  obtain ⟨q, g, cap, rfl, p2, p3, p4, p5, rfl, p6⟩ := p
  exact j_aret E dJx4a65c_grow_d5877_10 rfl (Or.inr ⟨_, rfl⟩) (by omega) (by omega) ⟨q, g, cap, rfl, p2, p3, p4, p5, rfl, p6⟩
/-- behind add: the list, what else stayed -/
def addP (E0 : Nat) (h : HM) (a e : Nat) (els : List Nat) (y : Nat) (h1 : HM) : Prop := ∃ e1 : Nat, AL E0 h1 a e1 (els ++ [y]) ∧ FR h h1 (fun q => q = a ∨ (q = e ∧ q ≠ E0)) ∧ (e1 = e ∨ h e1 = none)
theorem al_put {a e n cap y : Nat} {els : List Nat} {m : Int32} {f : Nat → Option Nat} (hlen : els.length = n) (hc : n < cap) (hcap : cap = 10 ∨ cap = 15) (hf : ∀ i, i < n → f i = els[i]?) (ha : h a = some (hO 0 [.int m, .ref e, .int (nI (n + 1))])) (he : h e = some (hQ cap (va_up f n (some y)))) : AL E0 h a e (els ++ [y]) := by
  refine ⟨m, cap, _, ?_, he, ?_, Or.inr hcap, ?_⟩
  · rw [List.length_append, hlen]; exact ha
  · rw [List.length_append, hlen]; exact hc
  · intro i hi
    rw [List.length_append, hlen, List.length_singleton] at hi
    by_cases e1 : i = n
    · rw [e1, va_up_self, List.getElem?_append_right (by omega), hlen, Nat.sub_self]; rfl
    · rw [va_up_ne _ _ e1, List.getElem?_append_left (by omega)]; exact hf i (by omega)
theorem iw_Jx4a65c_add_72be8_Jx4a65c : ∀ w ∈ u_ws RJx4a65c TJx4a65c 3, w ∈ wsJx4a65c_add_72be8 := by decide +kernel
theorem c_add3 (v : Nat) {a e y n cap : Nat} {els : List Nat} {m : Int32} {f f0 : Nat → Option Nat} (hlen : els.length = n) (hE : h E0 = some (hQ 0 f0)) (ha : h a = some (hO 0 [.int m, .ref e, .int (nI n)])) (he : h e = some (hQ cap f)) (hn : n ≤ cap) (hc : (cap = 0 ∧ e = E0) ∨ cap = 10 ∨ cap = 15) (h12 : n < 12) (hf : ∀ i, i < n → f i = els[i]?) (hel : ∀ z ∈ els, hOb h z) (hy : hOb h y) : CM l B E0 D yJx4a65c_add_72be8 wsJx4a65c_add_72be8 (v + 5) 1 15 [.ref a, .ref y, .ref e, .int (nI n)] h (fun r h1 => r = none ∧ addP E0 h a e els y h1) := by
  have hae : a ≠ e := hm_ne ha he (by intro z; cases z)
  have hcap : cap < 100 := by omega
  obtain ⟨yc, yf, yr, hy1, hy2⟩ := hy
  have hye : y ≠ e := hm_ne hy1 he (by intro z; cases z)
  refine CM.of (cc := cJx4a65c_add_72be8) (maxL := 4) (ret := none) (by decide) rfl (Nat.le_of_ble_eq_true rfl) (fun X E hin => ?_)
  show J X B D 4 _ h 0 0 0 [(0, .ref a), (1, .ref y), (2, .ref e), (3, .int (nI n))] []
  refine j_iload_n E dJx4a65c_add_72be8_0 rfl ?_
  refine j_aload_n E dJx4a65c_add_72be8_1 rfl ?_
  refine j_alen E dJx4a65c_add_72be8_2 (by first | with_reducible assumption | exact hput_eq _ _ _ | exact (hput_ne _ (by first | assumption | exact Ne.symm (by assumption))).trans (by assumption) | exact (hput_ne _ (by first | assumption | exact Ne.symm (by assumption))).trans (hput_eq _ _ _) | exact (hput_ne _ (by first | assumption | exact Ne.symm (by assumption))).trans ((hput_ne _ (by first | assumption | exact Ne.symm (by assumption))).trans (by assumption)) | exact (hput_ne _ (by first | assumption | exact Ne.symm (by assumption))).trans ((hput_ne _ (by first | assumption | exact Ne.symm (by assumption))).trans (hput_eq _ _ _))) ?_
  refine j_icmp_ne E (tgt := 11) dJx4a65c_add_72be8_3 (by decide) (fun c => ?_) (fun c => ?_)
  · have hlt : n < cap := by
      rcases Nat.lt_or_ge n cap with z | z
      · exact z
      · exact absurd (by rw [show n = cap by omega]) c
    have heE : e ≠ E0 := hm_ne he hE (by intro z; cases z; omega)
    refine j_aload_n E dJx4a65c_add_72be8_11 rfl ?_
    refine j_iload_n E dJx4a65c_add_72be8_12 rfl ?_
    refine j_aload_n E dJx4a65c_add_72be8_13 rfl ?_
    refine j_aastore E n dJx4a65c_add_72be8_14 he rfl hlt (by omega) hy1 hy2 ?_
    refine j_aload_n E dJx4a65c_add_72be8_15 rfl ?_
    refine j_iload_n E dJx4a65c_add_72be8_16 rfl ?_
    refine j_iconst (x := 1) E dJx4a65c_add_72be8_17 (by decide) ?_
    refine j_iadd E dJx4a65c_add_72be8_18 ?_
    refine J.topi (x' := nI (n + 1)) (nI_1 n) ?_
    refine j_putfield (ref := "java/util/ArrayList") (C := RJx4a65c) (T := TJx4a65c) (N := 3) (ci := 0) E 2 dJx4a65c_add_72be8_19 iw_Jx4a65c_add_72be8_Jx4a65c tyJx4a65c tyJx4a65c_ok nmJx4a65c rfl (by decide) (by decide +kernel) rfl rfl rfl rfl (by first | with_reducible assumption | exact hput_eq _ _ _ | exact (hput_ne _ (by first | assumption | exact Ne.symm (by assumption))).trans (by assumption) | exact (hput_ne _ (by first | assumption | exact Ne.symm (by assumption))).trans (hput_eq _ _ _) | exact (hput_ne _ (by first | assumption | exact Ne.symm (by assumption))).trans ((hput_ne _ (by first | assumption | exact Ne.symm (by assumption))).trans (by assumption)) | exact (hput_ne _ (by first | assumption | exact Ne.symm (by assumption))).trans ((hput_ne _ (by first | assumption | exact Ne.symm (by assumption))).trans (hput_eq _ _ _))) (Nat.le_of_ble_eq_true rfl) ?_
    exact j_vret E dJx4a65c_add_72be8_22 rfl (by omega) (by omega) ⟨rfl, e, al_put hlen hlt (by omega) hf (hput_eq _ _ _) ((hput_ne _ hae.symm).trans (hput_eq _ _ _)), fun q h1 h2 => (hput_ne _ (fun z => h2 (Or.inl z))).trans (hput_ne _ (fun z => h2 (Or.inr ⟨z, by rw [z]; exact heE⟩))), Or.inl rfl⟩
  · have hce : n = cap := (nI_eq (by omega) (by omega)).mp c
    subst hce
    refine j_aload_n E dJx4a65c_add_72be8_6 rfl ?_
    refine j_callV (np := 0) (C := RJx4a65c) (T := TJx4a65c) (N := 3) (ci := 0) E (c_grow0 v ha he (by omega) (fun i hi z hz => hel z (List.mem_of_getElem? ((hf i hi).symm.trans hz)))) gJx4a65c_add_72be8_Jx4a65c_grow_d5877 rfl ⟨rfl, by decide, by decide, by decide +kernel⟩ dJx4a65c_add_72be8_7 (by omega) (by decide) rfl (by first | with_reducible assumption | exact hput_eq _ _ _ | exact (hput_ne _ (by first | assumption | exact Ne.symm (by assumption))).trans (by assumption) | exact (hput_ne _ (by first | assumption | exact Ne.symm (by assumption))).trans (hput_eq _ _ _) | exact (hput_ne _ (by first | assumption | exact Ne.symm (by assumption))).trans ((hput_ne _ (by first | assumption | exact Ne.symm (by assumption))).trans (by assumption)) | exact (hput_ne _ (by first | assumption | exact Ne.symm (by assumption))).trans ((hput_ne _ (by first | assumption | exact Ne.symm (by assumption))).trans (hput_eq _ _ _))) rfl rfl (Nat.le_of_ble_eq_true rfl) (by omega) (by omega) (fun r h1 p => ?_)
    obtain ⟨q, g, cap, rfl, p2, p3, p4, p5, rfl, p6⟩ := p
    have haq : a ≠ q := hm_neN ha p2
    have hyq : y ≠ q := hm_neN hy1 p2
    have hg : ∀ i, i < n → g i = els[i]? := fun i hi => (p6 i hi).trans (hf i hi)
    refine j_astore_n E dJx4a65c_add_72be8_10 (by decide) ?_
    refine j_aload_n E dJx4a65c_add_72be8_11 rfl ?_
    refine j_iload_n E dJx4a65c_add_72be8_12 rfl ?_
    refine j_aload_n E dJx4a65c_add_72be8_13 rfl ?_
    by_cases hya : y = a
    · refine j_aastore E n dJx4a65c_add_72be8_14 ((hput_ne _ haq.symm).trans (hput_eq _ _ _)) rfl p5 (by omega) (by rw [hya]; exact hput_eq _ _ _) rfl ?_
      refine j_aload_n E dJx4a65c_add_72be8_15 rfl ?_
      refine j_iload_n E dJx4a65c_add_72be8_16 rfl ?_
      refine j_iconst (x := 1) E dJx4a65c_add_72be8_17 (by decide) ?_
      refine j_iadd E dJx4a65c_add_72be8_18 ?_
      refine J.topi (x' := nI (n + 1)) (nI_1 n) ?_
      refine j_putfield (ref := "java/util/ArrayList") (C := RJx4a65c) (T := TJx4a65c) (N := 3) (ci := 0) E 2 dJx4a65c_add_72be8_19 iw_Jx4a65c_add_72be8_Jx4a65c tyJx4a65c tyJx4a65c_ok nmJx4a65c rfl (by decide) (by decide +kernel) rfl rfl rfl rfl (by first | with_reducible assumption | exact hput_eq _ _ _ | exact (hput_ne _ (by first | assumption | exact Ne.symm (by assumption))).trans (by assumption) | exact (hput_ne _ (by first | assumption | exact Ne.symm (by assumption))).trans (hput_eq _ _ _) | exact (hput_ne _ (by first | assumption | exact Ne.symm (by assumption))).trans ((hput_ne _ (by first | assumption | exact Ne.symm (by assumption))).trans (by assumption)) | exact (hput_ne _ (by first | assumption | exact Ne.symm (by assumption))).trans ((hput_ne _ (by first | assumption | exact Ne.symm (by assumption))).trans (hput_eq _ _ _))) (Nat.le_of_ble_eq_true rfl) ?_
      exact j_vret E dJx4a65c_add_72be8_22 rfl (by omega) (by omega) ⟨rfl, q, al_put hlen p5 p4 hg (hput_eq _ _ _) ((hput_ne _ haq.symm).trans (hput_eq _ _ _)), fun z h1 h2 => (hput_ne _ (fun w => h2 (Or.inl w))).trans ((hput_ne _ (fun w => h1 (by rw [w]; exact p2))).trans ((hput_ne _ (fun w => h2 (Or.inl w))).trans (hput_ne _ (fun w => h1 (by rw [w]; exact p2))))), Or.inr p2⟩
    · refine j_aastore E n dJx4a65c_add_72be8_14 ((hput_ne _ haq.symm).trans (hput_eq _ _ _)) rfl p5 (by omega) ((hput_ne _ hya).trans ((hput_ne _ hyq).trans hy1)) hy2 ?_
      refine j_aload_n E dJx4a65c_add_72be8_15 rfl ?_
      refine j_iload_n E dJx4a65c_add_72be8_16 rfl ?_
      refine j_iconst (x := 1) E dJx4a65c_add_72be8_17 (by decide) ?_
      refine j_iadd E dJx4a65c_add_72be8_18 ?_
      refine J.topi (x' := nI (n + 1)) (nI_1 n) ?_
      refine j_putfield (ref := "java/util/ArrayList") (C := RJx4a65c) (T := TJx4a65c) (N := 3) (ci := 0) E 2 dJx4a65c_add_72be8_19 iw_Jx4a65c_add_72be8_Jx4a65c tyJx4a65c tyJx4a65c_ok nmJx4a65c rfl (by decide) (by decide +kernel) rfl rfl rfl rfl (by first | with_reducible assumption | exact hput_eq _ _ _ | exact (hput_ne _ (by first | assumption | exact Ne.symm (by assumption))).trans (by assumption) | exact (hput_ne _ (by first | assumption | exact Ne.symm (by assumption))).trans (hput_eq _ _ _) | exact (hput_ne _ (by first | assumption | exact Ne.symm (by assumption))).trans ((hput_ne _ (by first | assumption | exact Ne.symm (by assumption))).trans (by assumption)) | exact (hput_ne _ (by first | assumption | exact Ne.symm (by assumption))).trans ((hput_ne _ (by first | assumption | exact Ne.symm (by assumption))).trans (hput_eq _ _ _))) (Nat.le_of_ble_eq_true rfl) ?_
      exact j_vret E dJx4a65c_add_72be8_22 rfl (by omega) (by omega) ⟨rfl, q, al_put hlen p5 p4 hg (hput_eq _ _ _) ((hput_ne _ haq.symm).trans (hput_eq _ _ _)), fun z h1 h2 => (hput_ne _ (fun w => h2 (Or.inl w))).trans ((hput_ne _ (fun w => h1 (by rw [w]; exact p2))).trans ((hput_ne _ (fun w => h2 (Or.inl w))).trans (hput_ne _ (fun w => h1 (by rw [w]; exact p2))))), Or.inr p2⟩
theorem iw_Jx4a65c_add_9ea2d_Jx4a65c : ∀ w ∈ u_ws RJx4a65c TJx4a65c 3, w ∈ wsJx4a65c_add_9ea2d := by decide +kernel
theorem c_add (v : Nat) {a e y : Nat} {els : List Nat} {f0 : Nat → Option Nat} (H : AL E0 h a e els) (hE : h E0 = some (hQ 0 f0)) (h12 : els.length < 12) (hel : ∀ z ∈ els, hOb h z) (hy : hOb h y) : CM l B E0 D yJx4a65c_add_9ea2d wsJx4a65c_add_9ea2d (v + 6) 1 15 [.ref a, .ref y] h (fun r h1 => r = some (.int 1) ∧ addP E0 h a e els y h1) := by
  obtain ⟨m, cap, f, ha, he, hc, hk, hf⟩ := H
  have hae : a ≠ e := hm_ne ha he (by intro z; cases z)
  have haE : a ≠ E0 := hm_ne ha hE (by intro z; cases z)
  refine CM.of (cc := cJx4a65c_add_9ea2d) (maxL := 2) (ret := (some .boolean)) (by decide) rfl (Nat.le_of_ble_eq_true rfl) (fun X E hin => ?_)
  show J X B D 2 _ h 0 0 0 [(0, .ref a), (1, .ref y)] []
  refine j_aload_n E dJx4a65c_add_9ea2d_0 rfl ?_
  refine j_dup E dJx4a65c_add_9ea2d_1 rfl ?_
  refine j_getfieldU (ref := "java/util/ArrayList") (C := RJx4a65c) (T := TJx4a65c) (N := 3) (ci := 0) E 0 dJx4a65c_add_9ea2d_2 iw_Jx4a65c_add_9ea2d_Jx4a65c rfl (by decide) (by decide +kernel) (by decide +kernel) (by first | with_reducible assumption | exact hput_eq _ _ _ | exact (hput_ne _ (by first | assumption | exact Ne.symm (by assumption))).trans (by assumption) | exact (hput_ne _ (by first | assumption | exact Ne.symm (by assumption))).trans (hput_eq _ _ _) | exact (hput_ne _ (by first | assumption | exact Ne.symm (by assumption))).trans ((hput_ne _ (by first | assumption | exact Ne.symm (by assumption))).trans (by assumption)) | exact (hput_ne _ (by first | assumption | exact Ne.symm (by assumption))).trans ((hput_ne _ (by first | assumption | exact Ne.symm (by assumption))).trans (hput_eq _ _ _))) rfl ?_
  refine j_iconst (x := 1) E dJx4a65c_add_9ea2d_5 (by decide) ?_
  refine j_iadd E dJx4a65c_add_9ea2d_6 ?_
  refine j_putfieldU (ref := "java/util/ArrayList") (C := RJx4a65c) (T := TJx4a65c) (N := 3) (ci := 0) E 0 dJx4a65c_add_9ea2d_7 iw_Jx4a65c_add_9ea2d_Jx4a65c tyJx4a65c tyJx4a65c_ok nmJx4a65c rfl (by decide) (by decide +kernel) (by decide +kernel) rfl rfl rfl (by first | with_reducible assumption | exact hput_eq _ _ _ | exact (hput_ne _ (by first | assumption | exact Ne.symm (by assumption))).trans (by assumption) | exact (hput_ne _ (by first | assumption | exact Ne.symm (by assumption))).trans (hput_eq _ _ _) | exact (hput_ne _ (by first | assumption | exact Ne.symm (by assumption))).trans ((hput_ne _ (by first | assumption | exact Ne.symm (by assumption))).trans (by assumption)) | exact (hput_ne _ (by first | assumption | exact Ne.symm (by assumption))).trans ((hput_ne _ (by first | assumption | exact Ne.symm (by assumption))).trans (hput_eq _ _ _))) (Nat.le_of_ble_eq_true rfl) ?_
  refine j_aload_n E dJx4a65c_add_9ea2d_10 rfl ?_
  refine j_aload_n E dJx4a65c_add_9ea2d_11 rfl ?_
  refine j_aload_n E dJx4a65c_add_9ea2d_12 rfl ?_
  refine j_getfield (ref := "java/util/ArrayList") (C := RJx4a65c) (T := TJx4a65c) (N := 3) (ci := 0) E 1 dJx4a65c_add_9ea2d_13 iw_Jx4a65c_add_9ea2d_Jx4a65c rfl (by decide) (by decide +kernel) rfl (by first | with_reducible assumption | exact hput_eq _ _ _ | exact (hput_ne _ (by first | assumption | exact Ne.symm (by assumption))).trans (by assumption) | exact (hput_ne _ (by first | assumption | exact Ne.symm (by assumption))).trans (hput_eq _ _ _) | exact (hput_ne _ (by first | assumption | exact Ne.symm (by assumption))).trans ((hput_ne _ (by first | assumption | exact Ne.symm (by assumption))).trans (by assumption)) | exact (hput_ne _ (by first | assumption | exact Ne.symm (by assumption))).trans ((hput_ne _ (by first | assumption | exact Ne.symm (by assumption))).trans (hput_eq _ _ _))) rfl ?_
  refine j_aload_n E dJx4a65c_add_9ea2d_16 rfl ?_
  refine j_getfield (ref := "java/util/ArrayList") (C := RJx4a65c) (T := TJx4a65c) (N := 3) (ci := 0) E 2 dJx4a65c_add_9ea2d_17 iw_Jx4a65c_add_9ea2d_Jx4a65c rfl (by decide) (by decide +kernel) rfl (by first | with_reducible assumption | exact hput_eq _ _ _ | exact (hput_ne _ (by first | assumption | exact Ne.symm (by assumption))).trans (by assumption) | exact (hput_ne _ (by first | assumption | exact Ne.symm (by assumption))).trans (hput_eq _ _ _) | exact (hput_ne _ (by first | assumption | exact Ne.symm (by assumption))).trans ((hput_ne _ (by first | assumption | exact Ne.symm (by assumption))).trans (by assumption)) | exact (hput_ne _ (by first | assumption | exact Ne.symm (by assumption))).trans ((hput_ne _ (by first | assumption | exact Ne.symm (by assumption))).trans (hput_eq _ _ _))) rfl ?_
  generalize hh : hput h a (hO 0 (List.set [.int m, .ref e, .int (nI els.length)] 0 (.int (m + 1)))) = h2
  have hob : ∀ z, hOb h z → hOb h2 z := by
    intro z hz
    by_cases hza : z = a
    · exact ⟨0, _, _, by rw [← hh, hza]; exact hput_eq _ _ _, rfl⟩
    · obtain ⟨ci, fs, rr, g1, g2⟩ := hz
      exact ⟨ci, fs, rr, by rw [← hh]; exact (hput_ne _ hza).trans g1, g2⟩
  refine j_callV (np := 3) (C := RJx4a65c) (T := TJx4a65c) (N := 3) (ci := 0) E (c_add3 (m := m + 1) v rfl (by rw [← hh]; exact (hput_ne _ haE.symm).trans hE) (by rw [← hh]; exact hput_eq _ _ _) (by rw [← hh]; exact (hput_ne _ hae.symm).trans he) hc hk h12 hf (fun z hz => hob z (hel z hz)) (hob y hy)) gJx4a65c_add_9ea2d_Jx4a65c_add_72be8 rfl ⟨rfl, by decide, by decide, by decide +kernel⟩ dJx4a65c_add_9ea2d_20 (by omega) (by decide) rfl (by rw [← hh]; exact hput_eq _ _ _) rfl rfl (Nat.le_of_ble_eq_true rfl) (by omega) (by omega) (fun r h1 p => ?_)
  obtain ⟨rfl, e1, p1, p2, p3⟩ := p
  refine j_iconst (x := 1) E dJx4a65c_add_9ea2d_23 (by decide) ?_
  exact j_iret E dJx4a65c_add_9ea2d_24 rfl rfl (by omega) (by omega) ⟨rfl, e1, p1, fun q h1 h2 => (p2 q (by rw [← hh, hput_ne _ (fun z => h2 (Or.inl z))]; exact h1) h2).trans (by rw [← hh]; exact hput_ne _ (fun z => h2 (Or.inl z))), p3.elim Or.inl (fun z => Or.inr (by rw [← hh] at z; exact (hput_none z).1))⟩
theorem iw_Jx4a65c_clear_da8c8_Jx4a65c : ∀ w ∈ u_ws RJx4a65c TJx4a65c 3, w ∈ wsJx4a65c_clear_da8c8 := by decide +kernel
theorem c_alClear (v : Nat) {a e : Nat} {els : List Nat} {f0 : Nat → Option Nat} (H : AL E0 h a e els) (hE : h E0 = some (hQ 0 f0)) : CM l B E0 D yJx4a65c_clear_da8c8 wsJx4a65c_clear_da8c8 (v + 1) 0 0 [.ref a] h (fun r h1 => r = none ∧ AL E0 h1 a e [] ∧ FR h h1 (fun q => q = a ∨ (q = e ∧ q ≠ E0))) := by
  obtain ⟨m, cap, f, ha, he, hc, hk, hf⟩ := H
  have hae : a ≠ e := hm_ne ha he (by intro z; cases z)
  have hcap : cap < 100 := by omega
  refine CM.of (cc := cJx4a65c_clear_da8c8) (maxL := 4) (ret := none) (by decide) rfl (Nat.le_of_ble_eq_true rfl) (fun X E hin => ?_)
  show J X B D 4 _ h 0 0 0 [(0, .ref a)] []
  refine j_aload_n E dJx4a65c_clear_da8c8_0 rfl ?_
  refine j_dup E dJx4a65c_clear_da8c8_1 rfl ?_
  refine j_getfieldU (ref := "java/util/ArrayList") (C := RJx4a65c) (T := TJx4a65c) (N := 3) (ci := 0) E 0 dJx4a65c_clear_da8c8_2 iw_Jx4a65c_clear_da8c8_Jx4a65c rfl (by decide) (by decide +kernel) (by decide +kernel) (by first | with_reducible assumption | exact hput_eq _ _ _ | exact (hput_ne _ (by first | assumption | exact Ne.symm (by assumption))).trans (by assumption) | exact (hput_ne _ (by first | assumption | exact Ne.symm (by assumption))).trans (hput_eq _ _ _) | exact (hput_ne _ (by first | assumption | exact Ne.symm (by assumption))).trans ((hput_ne _ (by first | assumption | exact Ne.symm (by assumption))).trans (by assumption)) | exact (hput_ne _ (by first | assumption | exact Ne.symm (by assumption))).trans ((hput_ne _ (by first | assumption | exact Ne.symm (by assumption))).trans (hput_eq _ _ _))) rfl ?_
  refine j_iconst (x := 1) E dJx4a65c_clear_da8c8_5 (by decide) ?_
  refine j_iadd E dJx4a65c_clear_da8c8_6 ?_
  refine j_putfieldU (ref := "java/util/ArrayList") (C := RJx4a65c) (T := TJx4a65c) (N := 3) (ci := 0) E 0 dJx4a65c_clear_da8c8_7 iw_Jx4a65c_clear_da8c8_Jx4a65c tyJx4a65c tyJx4a65c_ok nmJx4a65c rfl (by decide) (by decide +kernel) (by decide +kernel) rfl rfl rfl (by first | with_reducible assumption | exact hput_eq _ _ _ | exact (hput_ne _ (by first | assumption | exact Ne.symm (by assumption))).trans (by assumption) | exact (hput_ne _ (by first | assumption | exact Ne.symm (by assumption))).trans (hput_eq _ _ _) | exact (hput_ne _ (by first | assumption | exact Ne.symm (by assumption))).trans ((hput_ne _ (by first | assumption | exact Ne.symm (by assumption))).trans (by assumption)) | exact (hput_ne _ (by first | assumption | exact Ne.symm (by assumption))).trans ((hput_ne _ (by first | assumption | exact Ne.symm (by assumption))).trans (hput_eq _ _ _))) (Nat.le_of_ble_eq_true rfl) ?_
  refine j_aload_n E dJx4a65c_clear_da8c8_10 rfl ?_
  refine j_getfield (ref := "java/util/ArrayList") (C := RJx4a65c) (T := TJx4a65c) (N := 3) (ci := 0) E 1 dJx4a65c_clear_da8c8_11 iw_Jx4a65c_clear_da8c8_Jx4a65c rfl (by decide) (by decide +kernel) rfl (by first | with_reducible assumption | exact hput_eq _ _ _ | exact (hput_ne _ (by first | assumption | exact Ne.symm (by assumption))).trans (by assumption) | exact (hput_ne _ (by first | assumption | exact Ne.symm (by assumption))).trans (hput_eq _ _ _) | exact (hput_ne _ (by first | assumption | exact Ne.symm (by assumption))).trans ((hput_ne _ (by first | assumption | exact Ne.symm (by assumption))).trans (by assumption)) | exact (hput_ne _ (by first | assumption | exact Ne.symm (by assumption))).trans ((hput_ne _ (by first | assumption | exact Ne.symm (by assumption))).trans (hput_eq _ _ _))) rfl ?_
  refine j_astore_n E dJx4a65c_clear_da8c8_14 (by decide) ?_
  refine j_aload_n E dJx4a65c_clear_da8c8_15 rfl ?_
  refine j_getfield (ref := "java/util/ArrayList") (C := RJx4a65c) (T := TJx4a65c) (N := 3) (ci := 0) E 2 dJx4a65c_clear_da8c8_16 iw_Jx4a65c_clear_da8c8_Jx4a65c rfl (by decide) (by decide +kernel) rfl (by first | with_reducible assumption | exact hput_eq _ _ _ | exact (hput_ne _ (by first | assumption | exact Ne.symm (by assumption))).trans (by assumption) | exact (hput_ne _ (by first | assumption | exact Ne.symm (by assumption))).trans (hput_eq _ _ _) | exact (hput_ne _ (by first | assumption | exact Ne.symm (by assumption))).trans ((hput_ne _ (by first | assumption | exact Ne.symm (by assumption))).trans (by assumption)) | exact (hput_ne _ (by first | assumption | exact Ne.symm (by assumption))).trans ((hput_ne _ (by first | assumption | exact Ne.symm (by assumption))).trans (hput_eq _ _ _))) rfl ?_
  refine j_istore_n E dJx4a65c_clear_da8c8_19 (by decide) ?_
  refine j_aload_n E dJx4a65c_clear_da8c8_20 rfl ?_
  refine j_iconst (x := 0) E dJx4a65c_clear_da8c8_21 (by decide) ?_
  refine j_dup_x1 E dJx4a65c_clear_da8c8_22 rfl rfl ?_
  refine j_putfield (ref := "java/util/ArrayList") (C := RJx4a65c) (T := TJx4a65c) (N := 3) (ci := 0) E 2 dJx4a65c_clear_da8c8_23 iw_Jx4a65c_clear_da8c8_Jx4a65c tyJx4a65c tyJx4a65c_ok nmJx4a65c rfl (by decide) (by decide +kernel) rfl rfl rfl rfl (by first | with_reducible assumption | exact hput_eq _ _ _ | exact (hput_ne _ (by first | assumption | exact Ne.symm (by assumption))).trans (by assumption) | exact (hput_ne _ (by first | assumption | exact Ne.symm (by assumption))).trans (hput_eq _ _ _) | exact (hput_ne _ (by first | assumption | exact Ne.symm (by assumption))).trans ((hput_ne _ (by first | assumption | exact Ne.symm (by assumption))).trans (by assumption)) | exact (hput_ne _ (by first | assumption | exact Ne.symm (by assumption))).trans ((hput_ne _ (by first | assumption | exact Ne.symm (by assumption))).trans (hput_eq _ _ _))) (Nat.le_of_ble_eq_true rfl) ?_
  refine j_istore_n E dJx4a65c_clear_da8c8_26 (by decide) ?_
  generalize hn : els.length = n at hc
  have key : ∀ (j i : Nat) (g : Nat → Option Nat) (hx : HM), i + j = n → hx a = some (hO 0 [.int (m + 1), .ref e, .int 0]) → hx e = some (hQ cap g) → FR h hx (fun q => q = a ∨ (q = e ∧ q ≠ E0)) → J X B D 4 (jQ X B D 0 0 (fun r h1 => r = none ∧ AL E0 h1 a e [] ∧ FR h h1 (fun q => q = a ∨ (q = e ∧ q ≠ E0)))) hx 0 0 27 [(3, .int (nI i)), (2, .int (nI n)), (1, .ref e), (0, .ref a)] [] := by
    intro j
    induction j with
    | zero =>
      intro i g hx hi hxa hxe hfr
      refine j_iload_n E dJx4a65c_clear_da8c8_27 rfl ?_
      refine j_iload_n E dJx4a65c_clear_da8c8_28 rfl ?_
      refine j_icmp_ge E (tgt := 42) dJx4a65c_clear_da8c8_29 (by decide) (fun c => ?_) (fun c => ?_)
      ·
        exact j_vret E dJx4a65c_clear_da8c8_42 rfl (by omega) (by omega) ⟨rfl, ⟨m + 1, cap, g, hxa, hxe, Nat.zero_le _, hk, fun i hi => absurd hi (Nat.not_lt_zero i)⟩, hfr⟩
      · exact absurd (nI_le (show n ≤ i by omega) (by omega)) c
    | succ j ih =>
      intro i g hx hi hxa hxe hfr
      have heE : e ≠ E0 := fun z => by rw [z] at he; have := he.symm.trans hE; cases this; omega
      refine j_iload_n E dJx4a65c_clear_da8c8_27 rfl ?_
      refine j_iload_n E dJx4a65c_clear_da8c8_28 rfl ?_
      refine j_icmp_ge E (tgt := 42) dJx4a65c_clear_da8c8_29 (by decide) (fun c => ?_) (fun c => ?_)
      · exact absurd c (nI_ge (show i < n by omega) (by omega))
      ·
        refine j_aload_n E dJx4a65c_clear_da8c8_32 rfl ?_
        refine j_iload_n E dJx4a65c_clear_da8c8_33 rfl ?_
        refine j_null E dJx4a65c_clear_da8c8_34 ?_
        refine j_aastoreN E i dJx4a65c_clear_da8c8_35 hxe rfl (by omega) (by omega) ?_
        refine j_iinc E dJx4a65c_clear_da8c8_36 rfl (nI_1 i) (by decide) ?_
        refine j_goto E (tgt := 27) dJx4a65c_clear_da8c8_39 (by decide) ?_
        refine J.sub [(3, .int (nI (i + 1))), (2, .int (nI n)), (1, .ref e), (0, .ref a)] ⟨rfl, rfl, rfl, rfl, trivial⟩ ?_
        exact ih (i + 1) _ _ (by omega) ((hput_ne _ hae).trans hxa) (hput_eq _ _ _) (fun q h1 h2 => (hput_ne _ (fun z => h2 (Or.inr ⟨z, by rw [z]; exact heE⟩))).trans (hfr q h1 h2))
  refine J.sub [(3, .int (nI 0)), (2, .int (nI n)), (1, .ref e), (0, .ref a)] ⟨rfl, by rw [← hn]; rfl, rfl, rfl, trivial⟩ ?_
  exact key n 0 f _ (by omega) (by rw [hput_hput]; exact hput_eq _ _ _) (by rw [hput_hput]; exact (hput_ne _ hae.symm).trans he) (fun q h1 h2 => by rw [hput_hput]; exact hput_ne _ (fun z => h2 (Or.inl z)))
end LISTS
