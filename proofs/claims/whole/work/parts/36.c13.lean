/-! the class made; numberOfTrailingZeros -/
theorem clamp_eq (x : Int64) : (if (if x < lZ 65536 then x else lZ 65536) < lZ 1 then lZ 1 else (if x < lZ 65536 then x else lZ 65536)) = lZ (clampD x) := by
  unfold clampD
  by_cases e1 : x < lZ 65536
  · rw [if_pos e1]
    by_cases e2 : x < lZ 1
    · rw [if_pos e2, if_pos e2]
    · rw [if_neg e2, if_neg e2, if_neg (fun z => Int64.lt_irrefl (Int64.lt_trans z e1))]
      exact (lZ_of x).symm
  · rw [if_neg e1, if_neg (show ¬ lZ 65536 < lZ 1 by decide), if_neg (fun z => e1 (Int64.lt_trans z (by decide)))]
    by_cases e2 : lZ 65536 < x
    · rw [if_pos e2]
    · rw [if_neg e2]
      have : x = lZ 65536 := by
        rw [Int64.lt_iff_toInt_lt] at e1 e2
        exact Int64.toInt_inj.mp (by omega)
      rw [this]; rfl
section C13
variable {l : Launch} {B E0 : Nat} {D : va_G} {h : HM} {T : Nat → Nat} {c : Nat}
theorem iw_X6_init_Jx4a65c : ∀ w ∈ u_ws RJx4a65c TJx4a65c 3, w ∈ wsX6_init := by decide +kernel
theorem iw_X6_init_X6 : ∀ w ∈ u_ws RX6 TX6 6, w ∈ wsX6_init := by decide +kernel
theorem c_init (v : Nat) {f0 : Nat → Option Nat} (hE : h E0 = some (hQ 0 f0)) (hc : h c = some (hO 7 [.long 0, .null, .null, .int 0, .null, .int 0])) (hT : T c = 4) (x : Int64) : CM l B E0 D yX6_init wsX6_init (v + 4) 2 15 [.ref c, .long x] h (fun r h1 => r = none ∧ ∃ T1 la ra, CR E0 h1 T1 c (clampD x) [] none [] False [] la E0 ra .null ∧ CF h T h1 T1) := by
  refine CM.of (cc := cX6_init) (maxL := 5) (ret := none) (by decide) rfl (Nat.le_of_ble_eq_true rfl) (fun X E hin => ?_)
  show J X B D 5 _ h 0 0 0 [(0, .ref c), (1, .long x)] []
  generalize hQ : jQ X B D _ _ _ = Q
  refine j_aload_n E dX6_init_0 rfl ?_
  refine j_objInit E dX6_init_1 (by decide +kernel) (by decide +kernel) (by decide +kernel) (by omega) (Nat.le_of_ble_eq_true rfl) ?_
  refine j_aload_n E dX6_init_4 rfl ?_
  refine j_new (C := RJx4a65c) (T := TJx4a65c) (N := 3) (ci := 0) E [.int 0, .null, .int 0] dX6_init_5 iw_X6_init_Jx4a65c tyJx4a65c tyJx4a65c_ok (by decide +kernel) (by decide +kernel) (by decide +kernel) rfl (by decide) (by omega) (by omega) (fun la nla bla => ?_)
  have n1 : c ≠ la := hm_neN hc nla
  have n2 : E0 ≠ la := hm_neN hE nla
  have n3 : c ≠ E0 := hm_ne hc hE (by intro z; cases z)
  refine j_dup E dX6_init_8 rfl ?_
  refine j_callI (np := 0) E (c_alInit v (m := 0) (x := .null) (y := .int 0) (hput_eq _ _ _)) gX6_init_Jx4a65c_init_da8c8 rfl (by decide +kernel) (by decide +kernel) (by decide +kernel) rfl ⟨by decide, by decide, by decide +kernel⟩ dX6_init_9 (by omega) (by decide) rfl rfl (Nat.le_of_ble_eq_true rfl) (by omega) (by omega) (fun r h1 p => ?_)
  obtain ⟨rfl, rfl⟩ := p
  rw [hput_hput]
  refine J.wide (k' := 1) (n' := 3) (by omega) (by omega) ?_
  refine j_putfin (C := RX6) (T := TX6) (N := 6) (ci := 7) E 1 dX6_init_12 iw_X6_init_X6 tyX6 tyX6_ok nmX6 rfl (by decide) (by decide +kernel) rfl rfl hin rfl rfl rfl (by first | with_reducible assumption | exact hput_eq _ _ _ | exact (hput_ne _ (by first | assumption | exact Ne.symm (by assumption))).trans (by assumption) | exact (hput_ne _ (by first | assumption | exact Ne.symm (by assumption))).trans (hput_eq _ _ _) | exact (hput_ne _ (by first | assumption | exact Ne.symm (by assumption))).trans ((hput_ne _ (by first | assumption | exact Ne.symm (by assumption))).trans (by assumption)) | exact (hput_ne _ (by first | assumption | exact Ne.symm (by assumption))).trans ((hput_ne _ (by first | assumption | exact Ne.symm (by assumption))).trans (hput_eq _ _ _))) (Nat.le_of_ble_eq_true rfl) ?_
  refine j_aload_n E dX6_init_15 rfl ?_
  refine j_bipush (x := nI 12) E dX6_init_16 (by decide) ?_
  refine j_newI E 12 dX6_init_18 (by decide +kernel) rfl (by omega) (by omega) (by omega) (fun ra nra bra => ?_)
  have nra2 := hput_none nra
  have nra3 := hput_none nra2.1
  have n4 : c ≠ ra := fun e => nra2.2 e.symm
  have n5 : la ≠ ra := fun e => nra3.2 e.symm
  have n6 : E0 ≠ ra := hm_neN hE nra3.1
  refine j_putfin (C := RX6) (T := TX6) (N := 6) (ci := 7) E 2 dX6_init_20 iw_X6_init_X6 tyX6 tyX6_ok nmX6 rfl (by decide) (by decide +kernel) rfl rfl hin rfl rfl rfl (by first | with_reducible assumption | exact hput_eq _ _ _ | exact (hput_ne _ (by first | assumption | exact Ne.symm (by assumption))).trans (by assumption) | exact (hput_ne _ (by first | assumption | exact Ne.symm (by assumption))).trans (hput_eq _ _ _) | exact (hput_ne _ (by first | assumption | exact Ne.symm (by assumption))).trans ((hput_ne _ (by first | assumption | exact Ne.symm (by assumption))).trans (by assumption)) | exact (hput_ne _ (by first | assumption | exact Ne.symm (by assumption))).trans ((hput_ne _ (by first | assumption | exact Ne.symm (by assumption))).trans (hput_eq _ _ _))) (Nat.le_of_ble_eq_true rfl) ?_
  refine j_aload_n E dX6_init_23 rfl ?_
  refine j_iconst (x := nI 0) E dX6_init_24 (by decide) ?_
  refine j_putfield (ref := "ColourParts") (C := RX6) (T := TX6) (N := 6) (ci := 7) E 3 dX6_init_25 iw_X6_init_X6 tyX6 tyX6_ok nmX6 rfl (by decide) (by decide +kernel) rfl rfl rfl rfl (by first | with_reducible assumption | exact hput_eq _ _ _ | exact (hput_ne _ (by first | assumption | exact Ne.symm (by assumption))).trans (by assumption) | exact (hput_ne _ (by first | assumption | exact Ne.symm (by assumption))).trans (hput_eq _ _ _) | exact (hput_ne _ (by first | assumption | exact Ne.symm (by assumption))).trans ((hput_ne _ (by first | assumption | exact Ne.symm (by assumption))).trans (by assumption)) | exact (hput_ne _ (by first | assumption | exact Ne.symm (by assumption))).trans ((hput_ne _ (by first | assumption | exact Ne.symm (by assumption))).trans (hput_eq _ _ _))) (Nat.le_of_ble_eq_true rfl) ?_
  refine j_aload_n E dX6_init_28 rfl ?_
  refine j_null E dX6_init_29 ?_
  refine j_putfield (ref := "ColourParts") (C := RX6) (T := TX6) (N := 6) (ci := 7) E 4 dX6_init_30 iw_X6_init_X6 tyX6 tyX6_ok nmX6 rfl (by decide) (by decide +kernel) rfl rfl rfl rfl (by first | with_reducible assumption | exact hput_eq _ _ _ | exact (hput_ne _ (by first | assumption | exact Ne.symm (by assumption))).trans (by assumption) | exact (hput_ne _ (by first | assumption | exact Ne.symm (by assumption))).trans (hput_eq _ _ _) | exact (hput_ne _ (by first | assumption | exact Ne.symm (by assumption))).trans ((hput_ne _ (by first | assumption | exact Ne.symm (by assumption))).trans (by assumption)) | exact (hput_ne _ (by first | assumption | exact Ne.symm (by assumption))).trans ((hput_ne _ (by first | assumption | exact Ne.symm (by assumption))).trans (hput_eq _ _ _))) (Nat.le_of_ble_eq_true rfl) ?_
  refine j_aload_n E dX6_init_33 rfl ?_
  refine j_iconst (x := nI 0) E dX6_init_34 (by decide) ?_
  refine j_putfield (ref := "ColourParts") (C := RX6) (T := TX6) (N := 6) (ci := 7) E 5 dX6_init_35 iw_X6_init_X6 tyX6 tyX6_ok nmX6 rfl (by decide) (by decide +kernel) rfl rfl rfl rfl (by first | with_reducible assumption | exact hput_eq _ _ _ | exact (hput_ne _ (by first | assumption | exact Ne.symm (by assumption))).trans (by assumption) | exact (hput_ne _ (by first | assumption | exact Ne.symm (by assumption))).trans (hput_eq _ _ _) | exact (hput_ne _ (by first | assumption | exact Ne.symm (by assumption))).trans ((hput_ne _ (by first | assumption | exact Ne.symm (by assumption))).trans (by assumption)) | exact (hput_ne _ (by first | assumption | exact Ne.symm (by assumption))).trans ((hput_ne _ (by first | assumption | exact Ne.symm (by assumption))).trans (hput_eq _ _ _))) (Nat.le_of_ble_eq_true rfl) ?_
  refine j_lconst (x := lZ 1) E dX6_init_38 (by decide) ?_
  refine j_ldc2 E (x := lZ (65536)) dX6_init_39 (show Cond.constantLong _ _ (65536) ∈ _ by decide +kernel) ?_
  refine j_lload_n E dX6_init_42 rfl ?_
  refine j_mminl E dX6_init_43 (by decide +kernel) (by decide +kernel) (by decide +kernel) (by decide +kernel) (by omega) (Nat.le_of_ble_eq_true rfl) (by omega) (by omega) ?_
  refine J.topl (x' := (if x < lZ 65536 then x else lZ 65536)) (rfl) ?_
  refine j_mmaxl E dX6_init_46 (by decide +kernel) (by decide +kernel) (by decide +kernel) (by decide +kernel) (by omega) (Nat.le_of_ble_eq_true rfl) (by omega) (by omega) ?_
  refine J.topl (x' := lZ (clampD x)) (clamp_eq x) ?_
  refine j_lstore_n E dX6_init_49 (by decide) ?_
  refine j_aload_n E dX6_init_50 rfl ?_
  refine j_lload_n E dX6_init_51 rfl ?_
  refine j_lload_n E dX6_init_52 rfl ?_
  refine j_lmul E dX6_init_53 ?_
  refine J.topl (x' := lZ (clampD x * clampD x)) (lZ_mul _ _) ?_
  refine j_putfin (C := RX6) (T := TX6) (N := 6) (ci := 7) E 0 dX6_init_54 iw_X6_init_X6 tyX6 tyX6_ok nmX6 rfl (by decide) (by decide +kernel) rfl rfl hin rfl rfl rfl (by first | with_reducible assumption | exact hput_eq _ _ _ | exact (hput_ne _ (by first | assumption | exact Ne.symm (by assumption))).trans (by assumption) | exact (hput_ne _ (by first | assumption | exact Ne.symm (by assumption))).trans (hput_eq _ _ _) | exact (hput_ne _ (by first | assumption | exact Ne.symm (by assumption))).trans ((hput_ne _ (by first | assumption | exact Ne.symm (by assumption))).trans (by assumption)) | exact (hput_ne _ (by first | assumption | exact Ne.symm (by assumption))).trans ((hput_ne _ (by first | assumption | exact Ne.symm (by assumption))).trans (hput_eq _ _ _))) (Nat.le_of_ble_eq_true rfl) ?_
  have nn : ∀ {q o}, h q = some o → h q ≠ none := fun e w => by rw [e] at w; cases w
  rw [← hQ]
  refine j_vret E dX6_init_57 rfl (by omega) (by omega) ⟨rfl, mkT h T (fun z => if z = la then 1 else 5), la, ra, ⟨⟨f0, ?_⟩, ?_, ⟨0, 0, f0, ?_, ?_, Nat.le_refl _, Or.inl ⟨rfl, rfl⟩, fun i hi => absurd hi (Nat.not_lt_zero _)⟩, rfl, fun j hj => absurd hj (Nat.not_lt_zero _), ⟨fun _ => 0, ?_, by decide, fun k hk => absurd hk (Nat.not_lt_zero _)⟩, Or.inl ⟨rfl, rfl⟩, (mkT_old (nn hc)).trans hT, (mkT_new nla).trans (if_pos rfl), fun e => absurd rfl e, (mkT_new nra3.1).trans (if_neg n5.symm), fun j hj => absurd hj (Nat.not_lt_zero _)⟩, fun q q1 q2 => ⟨?_, (mkT_old q1).trans q2⟩⟩
  · simp only [hput_hput]
    rw [hput_ne _ n3.symm, hput_ne _ n6, hput_ne _ n3.symm, hput_ne _ n2]
    exact hE
  · simp only [hput_hput]
    rw [hput_eq, bI_f id]
    rfl
  · simp only [hput_hput]
    rw [hput_ne _ n1.symm, hput_ne _ n5, hput_ne _ n1.symm, hput_eq]
    rfl
  · simp only [hput_hput]
    rw [hput_ne _ n3.symm, hput_ne _ n6, hput_ne _ n3.symm, hput_ne _ n2]
    exact hE
  · simp only [hput_hput]
    rw [hput_ne _ n4.symm, hput_eq]
  · have qc : q ≠ c := fun e => by rw [e, hT] at q2; cases q2
    simp only [hput_hput]
    rw [hput_ne _ qc, hput_ne _ (fun e => q1 (by rw [e]; exact nra3.1)), hput_ne _ qc, hput_ne _ (fun e => q1 (by rw [e]; exact nla))]
end C13
