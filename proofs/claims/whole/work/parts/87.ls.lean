/-! the law's start -/
section LS
variable {X : JC} {ret : Option FieldType} {B E0 : Nat} {D : va_G} {l : Launch} {v : Nat} {Q : State → Prop} {b N : Nat} {xs : Nat → Int32}
theorem law_start (E : JE X RL cL_law 8 wsL_law ret B E0 D l v 601024 7293000) (hXN : XN (jx_s X)) (hX : va_X b N xs (jx_s X) (jx_s X).heap) (hb : b < (jx_s X).heap.size ∧ b < B) (hN : N ≤ 3073) (hv : 40 ≤ v)
    (hend : ∀ (h : HM) (k n : Nat) (L : List (Nat × Value)), k ≤ 601024 → n ≤ 7293000 → J X B D 8 Q h k n 1056 L [.int (nI 1)]) {h : HM} {f0 : Nat → Option Nat} (hE : h E0 = some (hQ 0 f0)) : J X B D 8 Q h 0 0 0 [(0, .ref b)] [] := by
  refine j_new (C := RX6) (T := TX6) (N := 6) (ci := 7) E [.long 0, .null, .null, .int 0, .null, .int 0] dL_law_0 inlX6 tyX6 tyX6_ok (by decide +kernel) (by decide +kernel) (by decide +kernel) rfl (by decide) (by omega) (by omega) (fun x nx bx => ?_)
  refine j_dup E dL_law_3 rfl ?_
  refine j_aload_n E dL_law_4 rfl ?_
  refine j_iconst (x := nI 0) E dL_law_5 (by decide) ?_
  refine j_cell E hX hb (by omega) gL_law_L_cell dL_law_6 (by omega) (Nat.le_of_ble_eq_true rfl) (by omega) (by omega) ?_
  refine j_i2l E dL_law_9 ?_
  generalize hz : (cell0 N xs).toInt64 = z
  have nxE : E0 ≠ x := hm_neN hE nx
  refine j_callI (np := 1) E (c_init 0 (T := fun _ => 4) ((hput_ne _ nxE).trans hE) (hput_eq _ _ _) rfl z) gL_law_X6_init rfl (by decide +kernel) (by decide +kernel) (by decide +kernel) rfl ⟨by decide, by decide, by decide +kernel⟩ dL_law_10 (by omega) (by decide) rfl rfl (Nat.le_of_ble_eq_true rfl) (by omega) (by omega) (fun r h1 p => ?_)
  obtain ⟨rfl, T1, la, ra, R0, -⟩ := p
  refine J.wide (k' := 3) (n' := 21) (by omega) (by omega) ?_
  have R : CR E0 h1 (mkT h1 T1 (fun _ => 0)) x (clampD z) [] none [] False [] la E0 ra .null := R0.re (fun q _ _ _ _ => rfl) (fun q q0 => mkT_old q0) rfl R0.2.1 R0.2.2.2.2.2.1 (Or.inl ⟨rfl, rfl⟩)
  have T0 : ∀ q, h1 q = none → mkT h1 T1 (fun _ => 0) q = 0 := fun q q0 => mkT_new q0
  generalize mkT h1 T1 (fun _ => 0) = T at R T0
  clear R0
  obtain ⟨fE, rE⟩ := R.1
  refine j_astore_n E dL_law_13 (by decide) ?_
  refine j_new (C := RX7) (T := TX7) (N := 27) (ci := 8) E d0 dL_law_14 inlX7 tyX7 tyX7_ok (by decide +kernel) (by decide +kernel) (by decide +kernel) rfl (by decide) (by omega) (by omega) (fun m nm bm => ?_)
  have tm := T0 m nm
  refine j_dup E dL_law_17 rfl ?_
  refine j_aload_n E dL_law_18 rfl ?_
  refine j_iconst (x := nI 0) E dL_law_19 (by decide) ?_
  refine j_cell E hX hb (by omega) gL_law_L_cell dL_law_20 (by omega) (Nat.le_of_ble_eq_true rfl) (by omega) (by omega) ?_
  refine j_i2l E dL_law_23 ?_
  refine J.topl (x' := z) ?_ ?_
  · exact hz
  have om : ∀ q, h1 q ≠ none → hput h1 m (hO 8 d0) q = h1 q := fun q q0 => hput_ne _ (fun e => q0 (by rw [e]; exact nm))
  have R2 : CR E0 (hput h1 m (hO 8 d0)) T x (clampD z) [] none [] False [] la E0 ra .null := R.mv (fun q q0 _ => om q q0) (om E0 (by rw [rE]; intro w; cases w))
  have nn2 : ∀ q, hput h1 m (hO 8 d0) q = none → h1 q = none ∧ q ≠ m := fun q q0 => hput_none q0
  refine j_callI (np := 1) E (m_init 0 (hput_eq _ _ _) z) gL_law_X7_init rfl (by decide +kernel) (by decide +kernel) (by decide +kernel) rfl ⟨by decide, by decide, by decide +kernel⟩ dL_law_24 (by omega) (by decide) rfl rfl (Nat.le_of_ble_eq_true rfl) (by omega) (by omega) (fun r h3 p => ?_)
  obtain ⟨rfl, a, s, I, G, M, na, A, K⟩ := p
  refine J.wide (k' := 22) (n' := 548) (by omega) (by omega) ?_
  have ta : ∀ k, k ∈ mK → T (a k) = 0 := fun k hk => T0 _ (nn2 _ (na k hk)).1
  have R3 : CR E0 h3 T x (clampD z) [] none [] False [] la E0 ra .null := R2.mv (fun q q0 qt => M.fr q (fun e => qt (by rw [e]; exact tm)) (fun k hk e => qt (by rw [e]; exact ta k hk))) (M.fr E0 (fun e => by rw [e, nm] at rE; cases rE) (fun k hk e => by rw [e, (nn2 _ (na k hk)).1] at rE; cases rE))
  obtain ⟨fE3, rE3⟩ := R3.1
  refine j_astore_n E dL_law_27 (by decide) ?_
  refine j_iconst (x := nI 1) E dL_law_28 (by decide) ?_
  refine j_newJ E 1 dL_law_29 (by decide +kernel) rfl (by omega) (by omega) (by omega) (fun ou nou bou => ?_)
  have tou : T ou = 0 := by
    refine T0 ou ?_
    cases e : h1 ou with
    | none => rfl
    | some o =>
      have n1 : h1 ou ≠ none := by rw [e]; intro w; cases w
      have e2 := om ou n1
      have n2 : hput h1 m (hO 8 d0) ou ≠ none := by rw [e2]; exact n1
      have e3 := M.fr ou (fun e => n1 (by rw [e]; exact nm)) (fun k hk e => n2 (by rw [e]; exact na k hk))
      rw [nou] at e3
      exact absurd e3.symm n2
  have oo : ∀ q, h3 q ≠ none → hput h3 ou (hJ 1 (fun _ => 0)) q = h3 q := fun q q0 => hput_ne _ (fun e => q0 (by rw [e]; exact nou))
  have R4 : CR E0 (hput h3 ou (hJ 1 (fun _ => 0))) T x (clampD z) [] none [] False [] la E0 ra .null := R3.mv (fun q q0 _ => oo q q0) (oo E0 (by rw [rE3]; intro w; cases w))
  have M4 := M.mvo (h1 := hput h3 ou (hJ 1 (fun _ => 0))) (oo m (by rw [M.obj]; intro w; cases w)) (fun k hk => oo (a k) (M.ar hk).1)
  have S : LW E0 (hput h3 ou (hJ 1 (fun _ => 0))) T x m ou (clampD z) [] none [] False := LW_fin ⟨⟨Nat.zero_le _, Nat.zero_le _, fun j hj => absurd hj (Nat.not_lt_zero _)⟩, fun ps e => (by cases e), UK.none [], clampD_b z⟩ ⟨_, _, _, _, _, R4⟩ M4 A K (fun k hk => ⟨ta k hk, fun e => (M.ar hk).1 (by rw [e]; exact nou)⟩) tm tou (fun e => by rw [e, M.obj] at nou; cases nou) (hput_eq _ _ _)
  refine j_astore_n E dL_law_31 (by decide) ?_
  refine j_iconst (x := nI 1) E dL_law_32 (by decide) ?_
  refine j_istore E dL_law_33 (by decide) ?_
  refine J.sub [(4, .int (nI (1 + 6 * 0))), (3, .ref ou), (2, .ref m), (1, .ref x), (0, .ref b)] ⟨rfl, rfl, rfl, rfl, rfl, trivial⟩ ?_
  refine J.wide (k' := 100 + 100 * 0) (n' := 1000 + 1000 * 0) (by omega) (by omega) ?_
  exact law_loop E hXN hX hb hN hv hend 513 0 _ T [] none [] False (by omega) S
end LS
