/-! shapes: what writes them -/
theorem nc_app' {a : SH} {p : Int × Int} : nc (a.1 ++ [p], a.2) = nc a + 1 := nc_app
theorem bxA_app {a : SH} {p : Int × Int} {i : Nat} (hi : i < nc a / 2) : bxA (a.1 ++ [p], a.2) i = bxA a i := by
  unfold bxA bx0 bx1 by0 by1
  rw [cx_init (show 2 * i < nc a by omega), cx_init (show 2 * i + 1 < nc a by omega), cy_init (show 2 * i < nc a by omega), cy_init (show 2 * i + 1 < nc a by omega)]
theorem bxA_new {a : SH} {x y : Int} (ho : nc a % 2 = 1) : bxA (a.1 ++ [(x, y)], a.2) (nc a / 2) = (min (cx a (nc a - 1)) x, min (cy a (nc a - 1)) y, max (cx a (nc a - 1)) x, max (cy a (nc a - 1)) y) := by
  unfold bxA bx0 bx1 by0 by1
  rw [show 2 * (nc a / 2) + 1 = nc a by omega, show 2 * (nc a / 2) = nc a - 1 by omega, cx_last, cy_last, cx_init (show nc a - 1 < nc a by omega), cy_init (show nc a - 1 < nc a by omega)]
theorem AL.ob {E0 : Nat} {h : HM} {a e : Nat} {els : List Nat} (H : AL E0 h a e els) : hOb h a := by
  obtain ⟨m, cap, f, g1, -⟩ := H
  exact ⟨0, _, _, g1, rfl⟩
theorem AL.ty {E0 : Nat} {h : HM} {a e : Nat} {els : List Nat} (H : AL E0 h a e els) : (∃ z, h a = some (hO 0 z)) ∧ ∃ n f, h e = some (hQ n f) := by
  obtain ⟨m, cap, f, g1, g2, -⟩ := H
  exact ⟨⟨_, g1⟩, _, _, g2⟩
theorem hOb_put {h : HM} {z q ci : Nat} {fs : List Value} {r} (hr : vwCl[ci]? = some r) (hz : hOb h z) : hOb (hput h q (hO ci fs)) z := by
  by_cases e : z = q
  · exact ⟨ci, fs, r, by rw [e]; exact hput_eq _ _ _, hr⟩
  · obtain ⟨c2, f2, r2, h1, h2⟩ := hz
    exact ⟨c2, f2, r2, (hput_ne _ e).trans h1, h2⟩
def isQ (o : HO) : Prop := ∃ n f, o = hQ n f
section C3
variable {l : Launch} {B E0 : Nat} {D : va_G} {h : HM} {d : Int}
theorem iw_X5_addCorner_X0 : ∀ w ∈ u_ws RX0 TX0 4, w ∈ wsX5_addCorner := by decide +kernel
theorem iw_X5_addCorner_X5 : ∀ w ∈ u_ws RX5 TX5 9, w ∈ wsX5_addCorner := by decide +kernel
theorem c_addCorner (v : Nat) {a : SH} {nr : Int32} {g : SG} {f0 : Nat → Option Nat} (R : shR E0 h a nr g) (hw : wfS a) (hE : h E0 = some (hQ 0 f0)) (h8 : nc a < 8) {x y : Int} (hx : -1000000 ≤ x ∧ x ≤ 1000000) (hy : -1000000 ≤ y ∧ y ≤ 1000000) : CM l B E0 D yX5_addCorner wsX5_addCorner (v + 7) 2 19 [.ref g.1, .long (lZ x), .long (lZ y)] h (fun r h1 => r = some (.int (bI ((nc a + 1) % 2 = 0))) ∧ ∃ e1 els1, shR E0 h1 (a.1 ++ [(x, y)], a.2) nr (g.1, g.2.1, e1, g.2.2.2.1, els1) ∧ FR h h1 (fun q => q = g.1 ∨ q = g.2.1 ∨ (q = g.2.2.1 ∧ q ≠ E0)) ∧ (e1 = g.2.2.1 ∨ h e1 = none) ∧ ∀ z ∈ els1, z ∈ g.2.2.2.2 ∨ (h z = none ∧ h1 z ≠ none)) := by
  obtain ⟨⟨hx0, hy0, R1, R2⟩, ⟨L1, L2, L3⟩, f, R4, R5⟩ := R
  rw [bxs_len] at L2
  unfold shF at R1
  obtain ⟨⟨zl, hl1⟩, ne, fe, hl2⟩ := L1.ty
  have n1 : g.1 ≠ g.2.1 := hm_ne R1 hl1 (by intro z; cases z)
  have n2 : g.1 ≠ g.2.2.1 := hm_ne R1 hl2 (by intro z; cases z)
  have n3 : g.2.2.2.1 ≠ g.1 := hm_ne R4 R1 (by intro z; cases z)
  refine CM.of (cc := cX5_addCorner) (maxL := 5) (ret := (some .boolean)) (by decide) rfl (Nat.le_of_ble_eq_true rfl) (fun X E hin => ?_)
  show J X B D 5 _ h 0 0 0 [(0, .ref g.1), (1, .long (lZ x)), (3, .long (lZ y))] []
  generalize hQ : jQ X B D _ _ _ = Q
  refine j_aload_n E dX5_addCorner_0 rfl ?_
  refine j_getfield (ref := "ColourParts$Shape") (C := RX5) (T := TX5) (N := 9) (ci := 6) E 6 dX5_addCorner_1 iw_X5_addCorner_X5 rfl (by decide) (by decide +kernel) rfl (by first | with_reducible assumption | exact hput_eq _ _ _ | exact (hput_ne _ (by first | assumption | exact Ne.symm (by assumption))).trans (by assumption) | exact (hput_ne _ (by first | assumption | exact Ne.symm (by assumption))).trans (hput_eq _ _ _) | exact (hput_ne _ (by first | assumption | exact Ne.symm (by assumption))).trans ((hput_ne _ (by first | assumption | exact Ne.symm (by assumption))).trans (by assumption)) | exact (hput_ne _ (by first | assumption | exact Ne.symm (by assumption))).trans ((hput_ne _ (by first | assumption | exact Ne.symm (by assumption))).trans (hput_eq _ _ _))) rfl ?_
  refine j_if_eq E (tgt := 61) dX5_addCorner_4 (by decide) (fun c1 => ?_) (fun c1 => ?_)
  · have ev := bI_z.mp c1
    refine j_aload_n E dX5_addCorner_61 rfl ?_
    refine j_lload_n E dX5_addCorner_62 rfl ?_
    refine j_putfield (ref := "ColourParts$Shape") (C := RX5) (T := TX5) (N := 9) (ci := 6) E 7 dX5_addCorner_63 iw_X5_addCorner_X5 tyX5 tyX5_ok nmX5 rfl (by decide) (by decide +kernel) rfl rfl rfl rfl (by first | with_reducible assumption | exact hput_eq _ _ _ | exact (hput_ne _ (by first | assumption | exact Ne.symm (by assumption))).trans (by assumption) | exact (hput_ne _ (by first | assumption | exact Ne.symm (by assumption))).trans (hput_eq _ _ _) | exact (hput_ne _ (by first | assumption | exact Ne.symm (by assumption))).trans ((hput_ne _ (by first | assumption | exact Ne.symm (by assumption))).trans (by assumption)) | exact (hput_ne _ (by first | assumption | exact Ne.symm (by assumption))).trans ((hput_ne _ (by first | assumption | exact Ne.symm (by assumption))).trans (hput_eq _ _ _))) (Nat.le_of_ble_eq_true rfl) ?_
    refine j_aload_n E dX5_addCorner_66 rfl ?_
    refine j_lload_n E dX5_addCorner_67 rfl ?_
    refine j_putfield (ref := "ColourParts$Shape") (C := RX5) (T := TX5) (N := 9) (ci := 6) E 8 dX5_addCorner_68 iw_X5_addCorner_X5 tyX5 tyX5_ok nmX5 rfl (by decide) (by decide +kernel) rfl rfl rfl rfl (by first | with_reducible assumption | exact hput_eq _ _ _ | exact (hput_ne _ (by first | assumption | exact Ne.symm (by assumption))).trans (by assumption) | exact (hput_ne _ (by first | assumption | exact Ne.symm (by assumption))).trans (hput_eq _ _ _) | exact (hput_ne _ (by first | assumption | exact Ne.symm (by assumption))).trans ((hput_ne _ (by first | assumption | exact Ne.symm (by assumption))).trans (by assumption)) | exact (hput_ne _ (by first | assumption | exact Ne.symm (by assumption))).trans ((hput_ne _ (by first | assumption | exact Ne.symm (by assumption))).trans (hput_eq _ _ _))) (Nat.le_of_ble_eq_true rfl) ?_
    refine j_aload_n E dX5_addCorner_71 rfl ?_
    refine j_iconst (x := nI 1) E dX5_addCorner_72 (by decide) ?_
    refine j_putfield (ref := "ColourParts$Shape") (C := RX5) (T := TX5) (N := 9) (ci := 6) E 6 dX5_addCorner_73 iw_X5_addCorner_X5 tyX5 tyX5_ok nmX5 rfl (by decide) (by decide +kernel) rfl rfl rfl rfl (by first | with_reducible assumption | exact hput_eq _ _ _ | exact (hput_ne _ (by first | assumption | exact Ne.symm (by assumption))).trans (by assumption) | exact (hput_ne _ (by first | assumption | exact Ne.symm (by assumption))).trans (hput_eq _ _ _) | exact (hput_ne _ (by first | assumption | exact Ne.symm (by assumption))).trans ((hput_ne _ (by first | assumption | exact Ne.symm (by assumption))).trans (by assumption)) | exact (hput_ne _ (by first | assumption | exact Ne.symm (by assumption))).trans ((hput_ne _ (by first | assumption | exact Ne.symm (by assumption))).trans (hput_eq _ _ _))) (Nat.le_of_ble_eq_true rfl) ?_
    refine j_iconst (x := nI 0) E dX5_addCorner_76 (by decide) ?_
    refine J.topi (x' := bI ((nc a + 1) % 2 = 0)) ((bI_f (by omega)).symm) ?_
    rw [hput_hput, hput_hput]
    have hfr : ∀ q, q ≠ g.1 → hput h g.1 (hO 6 (((([.ref g.2.1, .ref g.2.2.2.1, .int (nI (nk a)), .int (iZ (sd a)), .int (iZ (tl a)), .int nr, .int (bI (nc a % 2 = 1)), .long hx0, .long hy0] : List Value).set 7 (.long (lZ x))).set 8 (.long (lZ y))).set 6 (.int (nI 1)))) q = h q := fun q hq => hput_ne _ hq
    refine J.wide (k' := 2) (n' := 19) (by omega) (by omega) ?_
    rw [← hQ]
    refine j_iret E dX5_addCorner_77 rfl (nb_bI _) (by omega) (by omega) ⟨rfl, g.2.2.1, g.2.2.2.2, ⟨⟨lZ x, lZ y, ?_, fun _ => ⟨by rw [nc_app]; exact congrArg lZ cx_last.symm, by rw [nc_app]; exact congrArg lZ cy_last.symm⟩⟩, ⟨L1.keep (hfr _ n1.symm) (hfr _ n2.symm), ?_, fun i hi => ?_⟩, f, (hfr _ n3).trans R4, R5⟩, fun q h1 h2 => hfr q (fun z => h2 (Or.inl z)), Or.inl rfl, fun z hz => Or.inl hz⟩
    · rw [hput_eq]
      unfold shF
      rw [nc_app, bI_t (show (nc a + 1) % 2 = 1 by omega)]
      rfl
    · rw [bxs_len, nc_app, L2]; omega
    · have h3 := L3 i hi
      have hi2 : i < nc a / 2 := by rw [← L2]; exact hi
      rw [bxs_get hi2] at h3
      rw [bxs_get (show i < nc (a.1 ++ [(x, y)], a.2) / 2 by rw [nc_app]; omega), bxA_app hi2]
      exact (hfr _ (hm_ne h3 R1 (by intro z; cases z))).trans h3
  · have od := bI_n.mp c1
    obtain ⟨rfl, rfl⟩ := R2 od
    have hcb := hw.2.2.2.1 (nc a - 1) (by omega)
    have o1 : lOK (cx a (nc a - 1)) := by unfold lOK; omega
    have o2 : lOK (cy a (nc a - 1)) := by unfold lOK; omega
    have o3 : lOK x := by unfold lOK; omega
    have o4 : lOK y := by unfold lOK; omega
    refine j_aload_n E dX5_addCorner_7 rfl ?_
    refine j_getfield (ref := "ColourParts$Shape") (C := RX5) (T := TX5) (N := 9) (ci := 6) E 0 dX5_addCorner_8 iw_X5_addCorner_X5 rfl (by decide) (by decide +kernel) rfl (by first | with_reducible assumption | exact hput_eq _ _ _ | exact (hput_ne _ (by first | assumption | exact Ne.symm (by assumption))).trans (by assumption) | exact (hput_ne _ (by first | assumption | exact Ne.symm (by assumption))).trans (hput_eq _ _ _) | exact (hput_ne _ (by first | assumption | exact Ne.symm (by assumption))).trans ((hput_ne _ (by first | assumption | exact Ne.symm (by assumption))).trans (by assumption)) | exact (hput_ne _ (by first | assumption | exact Ne.symm (by assumption))).trans ((hput_ne _ (by first | assumption | exact Ne.symm (by assumption))).trans (hput_eq _ _ _))) rfl ?_
    refine j_new (C := RX0) (T := TX0) (N := 4) (ci := 1) E [.long 0, .long 0, .long 0, .long 0] dX5_addCorner_11 iw_X5_addCorner_X0 tyX0 tyX0_ok (by decide +kernel) (by decide +kernel) (by decide +kernel) rfl (by decide) (by omega) (by omega) (fun q nq bq => ?_)
    have hqn : ∀ z o, h z = some o → z ≠ q := fun z o hz => hm_neN hz nq
    have n4 : g.1 ≠ q := hqn _ _ R1
    refine j_dup E dX5_addCorner_14 rfl ?_
    refine j_aload_n E dX5_addCorner_15 rfl ?_
    refine j_getfield (ref := "ColourParts$Shape") (C := RX5) (T := TX5) (N := 9) (ci := 6) E 7 dX5_addCorner_16 iw_X5_addCorner_X5 rfl (by decide) (by decide +kernel) rfl (by first | with_reducible assumption | exact hput_eq _ _ _ | exact (hput_ne _ (by first | assumption | exact Ne.symm (by assumption))).trans (by assumption) | exact (hput_ne _ (by first | assumption | exact Ne.symm (by assumption))).trans (hput_eq _ _ _) | exact (hput_ne _ (by first | assumption | exact Ne.symm (by assumption))).trans ((hput_ne _ (by first | assumption | exact Ne.symm (by assumption))).trans (by assumption)) | exact (hput_ne _ (by first | assumption | exact Ne.symm (by assumption))).trans ((hput_ne _ (by first | assumption | exact Ne.symm (by assumption))).trans (hput_eq _ _ _))) rfl ?_
    refine j_lload_n E dX5_addCorner_19 rfl ?_
    refine j_mminl E dX5_addCorner_20 (by decide +kernel) (by decide +kernel) (by decide +kernel) (by decide +kernel) (by omega) (Nat.le_of_ble_eq_true rfl) (by omega) (by omega) ?_
    refine J.topl (x' := lZ (min (cx a (nc a - 1)) x)) (lmin o1 o3) ?_
    refine j_aload_n E dX5_addCorner_23 rfl ?_
    refine j_getfield (ref := "ColourParts$Shape") (C := RX5) (T := TX5) (N := 9) (ci := 6) E 8 dX5_addCorner_24 iw_X5_addCorner_X5 rfl (by decide) (by decide +kernel) rfl (by first | with_reducible assumption | exact hput_eq _ _ _ | exact (hput_ne _ (by first | assumption | exact Ne.symm (by assumption))).trans (by assumption) | exact (hput_ne _ (by first | assumption | exact Ne.symm (by assumption))).trans (hput_eq _ _ _) | exact (hput_ne _ (by first | assumption | exact Ne.symm (by assumption))).trans ((hput_ne _ (by first | assumption | exact Ne.symm (by assumption))).trans (by assumption)) | exact (hput_ne _ (by first | assumption | exact Ne.symm (by assumption))).trans ((hput_ne _ (by first | assumption | exact Ne.symm (by assumption))).trans (hput_eq _ _ _))) rfl ?_
    refine j_lload_n E dX5_addCorner_27 rfl ?_
    refine j_mminl E dX5_addCorner_28 (by decide +kernel) (by decide +kernel) (by decide +kernel) (by decide +kernel) (by omega) (Nat.le_of_ble_eq_true rfl) (by omega) (by omega) ?_
    refine J.topl (x' := lZ (min (cy a (nc a - 1)) y)) (lmin o2 o4) ?_
    refine j_aload_n E dX5_addCorner_31 rfl ?_
    refine j_getfield (ref := "ColourParts$Shape") (C := RX5) (T := TX5) (N := 9) (ci := 6) E 7 dX5_addCorner_32 iw_X5_addCorner_X5 rfl (by decide) (by decide +kernel) rfl (by first | with_reducible assumption | exact hput_eq _ _ _ | exact (hput_ne _ (by first | assumption | exact Ne.symm (by assumption))).trans (by assumption) | exact (hput_ne _ (by first | assumption | exact Ne.symm (by assumption))).trans (hput_eq _ _ _) | exact (hput_ne _ (by first | assumption | exact Ne.symm (by assumption))).trans ((hput_ne _ (by first | assumption | exact Ne.symm (by assumption))).trans (by assumption)) | exact (hput_ne _ (by first | assumption | exact Ne.symm (by assumption))).trans ((hput_ne _ (by first | assumption | exact Ne.symm (by assumption))).trans (hput_eq _ _ _))) rfl ?_
    refine j_lload_n E dX5_addCorner_35 rfl ?_
    refine j_mmaxl E dX5_addCorner_36 (by decide +kernel) (by decide +kernel) (by decide +kernel) (by decide +kernel) (by omega) (Nat.le_of_ble_eq_true rfl) (by omega) (by omega) ?_
    refine J.topl (x' := lZ (max (cx a (nc a - 1)) x)) (lmax o1 o3) ?_
    refine j_aload_n E dX5_addCorner_39 rfl ?_
    refine j_getfield (ref := "ColourParts$Shape") (C := RX5) (T := TX5) (N := 9) (ci := 6) E 8 dX5_addCorner_40 iw_X5_addCorner_X5 rfl (by decide) (by decide +kernel) rfl (by first | with_reducible assumption | exact hput_eq _ _ _ | exact (hput_ne _ (by first | assumption | exact Ne.symm (by assumption))).trans (by assumption) | exact (hput_ne _ (by first | assumption | exact Ne.symm (by assumption))).trans (hput_eq _ _ _) | exact (hput_ne _ (by first | assumption | exact Ne.symm (by assumption))).trans ((hput_ne _ (by first | assumption | exact Ne.symm (by assumption))).trans (by assumption)) | exact (hput_ne _ (by first | assumption | exact Ne.symm (by assumption))).trans ((hput_ne _ (by first | assumption | exact Ne.symm (by assumption))).trans (hput_eq _ _ _))) rfl ?_
    refine j_lload_n E dX5_addCorner_43 rfl ?_
    refine j_mmaxl E dX5_addCorner_44 (by decide +kernel) (by decide +kernel) (by decide +kernel) (by decide +kernel) (by omega) (Nat.le_of_ble_eq_true rfl) (by omega) (by omega) ?_
    refine J.topl (x' := lZ (max (cy a (nc a - 1)) y)) (lmax o2 o4) ?_
    refine j_callI (np := 4) E (c_boxInit (v + 2) (min (cx a (nc a - 1)) x, min (cy a (nc a - 1)) y, max (cx a (nc a - 1)) x, max (cy a (nc a - 1)) y) (hput_eq _ _ _)) gX5_addCorner_X0_init rfl (by decide +kernel) (by decide +kernel) (by decide +kernel) rfl ⟨by decide, by decide, by decide +kernel⟩ dX5_addCorner_47 (by omega) (by decide) rfl rfl (Nat.le_of_ble_eq_true rfl) (by omega) (by omega) (fun r h1 p => ?_)
    obtain ⟨rfl, rfl⟩ := p
    rw [hput_hput]
    generalize hb : ((min (cx a (nc a - 1)) x, min (cy a (nc a - 1)) y, max (cx a (nc a - 1)) x, max (cy a (nc a - 1)) y) : BB) = b
    have hbb : bxA (a.1 ++ [(x, y)], a.2) (nc a / 2) = b := (bxA_new od).trans hb
    generalize hh2 : hput h q (bxO b) = h2
    have k2 : ∀ z o, h z = some o → h2 z = some o := fun z o hz => by rw [← hh2]; exact (hput_ne _ (hqn z o hz)).trans hz
    have kq : h2 q = some (bxO b) := by rw [← hh2]; exact hput_eq _ _ _
    have kne : ∀ z, h z ≠ none → h2 z = h z := fun z hz => by
      cases e : h z with
      | none => exact absurd e hz
      | some o => exact k2 z o e
    have L1' : AL E0 h2 g.2.1 g.2.2.1 g.2.2.2.2 := L1.keep ((k2 _ _ hl1).trans hl1.symm) ((k2 _ _ hl2).trans hl2.symm)
    refine J.wide (k' := 1) (n' := 4) (by omega) (by omega) ?_
    have hob : ∀ z ∈ g.2.2.2.2, hOb h2 z := fun z hz => by
      obtain ⟨i, hi, rfl⟩ := List.mem_iff_getElem.mp hz
      exact ⟨1, _, _, k2 _ _ (L3 i hi), rfl⟩
    refine j_callV (np := 1) (C := RJx4a65c) (T := TJx4a65c) (N := 3) (ci := 0) E (c_add v L1' (k2 _ _ hE) (by omega) hob ⟨1, _, _, kq, rfl⟩) gX5_addCorner_Jx4a65c_add_9ea2d rfl ⟨rfl, by decide, by decide, by decide +kernel⟩ dX5_addCorner_50 (by omega) (by decide) rfl (k2 _ _ hl1) rfl rfl (Nat.le_of_ble_eq_true rfl) (by omega) (by omega) (fun r h3 p => ?_)
    obtain ⟨rfl, e1, p1, p2, p3⟩ := p
    have k3 : ∀ z o, h2 z = some o → (∀ w, o ≠ hO 0 w) → ¬ isQ o → h3 z = some o := by
      intro z o hz ho1 ho2
      refine (p2 z (by rw [hz]; intro w; cases w) (fun w => ?_)).trans hz
      rcases w with rfl | ⟨rfl, -⟩
      · exact ho1 _ (Option.some.inj (hz.symm.trans (k2 _ _ hl1)))
      · exact ho2 ⟨_, _, Option.some.inj (hz.symm.trans (k2 _ _ hl2))⟩
    have kg := k3 _ _ (k2 _ _ R1) (by intro w z; cases z) (by rintro ⟨n, f, z⟩; cases z)
    obtain ⟨⟨zl3, hl3⟩, ne3, fe3, hl4⟩ := p1.ty
    have m1 : g.2.1 ≠ g.1 := n1.symm
    have m2 : e1 ≠ g.1 := hm_ne hl4 kg (by intro z; cases z)
    refine j_pop E dX5_addCorner_53 rfl ?_
    refine j_aload_n E dX5_addCorner_54 rfl ?_
    refine j_iconst (x := nI 0) E dX5_addCorner_55 (by decide) ?_
    refine j_putfield (ref := "ColourParts$Shape") (C := RX5) (T := TX5) (N := 9) (ci := 6) E 6 dX5_addCorner_56 iw_X5_addCorner_X5 tyX5 tyX5_ok nmX5 rfl (by decide) (by decide +kernel) rfl rfl rfl rfl (by first | with_reducible assumption | exact hput_eq _ _ _ | exact (hput_ne _ (by first | assumption | exact Ne.symm (by assumption))).trans (by assumption) | exact (hput_ne _ (by first | assumption | exact Ne.symm (by assumption))).trans (hput_eq _ _ _) | exact (hput_ne _ (by first | assumption | exact Ne.symm (by assumption))).trans ((hput_ne _ (by first | assumption | exact Ne.symm (by assumption))).trans (by assumption)) | exact (hput_ne _ (by first | assumption | exact Ne.symm (by assumption))).trans ((hput_ne _ (by first | assumption | exact Ne.symm (by assumption))).trans (hput_eq _ _ _))) (Nat.le_of_ble_eq_true rfl) ?_
    refine j_iconst (x := nI 1) E dX5_addCorner_59 (by decide) ?_
    refine J.topi (x' := bI ((nc a + 1) % 2 = 0)) ((bI_t (by omega)).symm) ?_
    refine J.wide (k' := 2) (n' := 19) (by omega) (by omega) ?_
    rw [← hQ]
    refine j_iret E dX5_addCorner_60 rfl (nb_bI _) (by omega) (by omega) ⟨rfl, e1, g.2.2.2.2 ++ [q], ⟨⟨lZ (cx a (nc a - 1)), lZ (cy a (nc a - 1)), ?_, fun z => by rw [nc_app] at z; omega⟩, ⟨p1.keep (hput_ne _ m1) (hput_ne _ m2), ?_, fun i hi => ?_⟩, f, (hput_ne _ n3).trans (k3 _ _ (k2 _ _ R4) (by intro w z; cases z) (by rintro ⟨n, f, z⟩; cases z)), R5⟩, fun z z1 z2 => ?_, p3.imp id (fun z => ?_), fun z hz => ?_⟩
    · rw [hput_eq]
      unfold shF
      rw [nc_app, bI_f (show ¬ (nc a + 1) % 2 = 1 by omega)]
      rfl
    · rw [bxs_len, nc_app, List.length_append, L2]
      show nc a / 2 + 1 = _
      omega
    · have hn2 : nc (a.1 ++ [(x, y)], a.2) / 2 = nc a / 2 + 1 := by rw [nc_app]; omega
      rw [List.length_append] at hi
      have hi3 : i < nc a / 2 + 1 := by rw [← L2]; exact hi
      rw [bxs_get (show i < nc (a.1 ++ [(x, y)], a.2) / 2 by omega)]
      by_cases e : i = nc a / 2
      · subst e
        have eq1 : (g.2.2.2.2 ++ [q])[nc a / 2] = q := by
          rw [List.getElem_append_right (by omega)]
          simp
        rw [eq1, hbb]
        exact (hput_ne _ n4.symm).trans (k3 _ _ kq (by intro w z; cases z) (by rintro ⟨n, f, z⟩; cases z))
      · have hi2 : i < g.2.2.2.2.length := by omega
        have h4 := L3 i hi2
        rw [bxs_get (show i < nc a / 2 by omega)] at h4
        rw [List.getElem_append_left hi2, bxA_app (show i < nc a / 2 by omega)]
        have h5 := k3 _ _ (k2 _ _ h4) (by intro w z; cases z) (by rintro ⟨n, f, z⟩; cases z)
        exact (hput_ne _ (hm_ne h5 kg (by intro z; cases z))).trans h5
    · have z3 : h2 z ≠ none := by rw [kne z z1]; exact z1
      exact (hput_ne _ (fun w => z2 (Or.inl w))).trans ((p2 z z3 (fun w => z2 (Or.inr w))).trans (kne z z1))
    · rw [← hh2] at z; exact (hput_none z).1
    · rcases List.mem_append.mp hz with w | w
      · exact Or.inl w
      · rw [List.mem_singleton] at w
        subst w
        refine Or.inr ⟨nq, ?_⟩
        rw [hput_ne _ n4.symm, k3 _ _ kq (by intro w z; cases z) (by rintro ⟨n, f, z⟩; cases z)]
        intro w; cases w
theorem iw_X5_addStitch_X5 : ∀ w ∈ u_ws RX5 TX5 9, w ∈ wsX5_addStitch := by decide +kernel
theorem c_addStitch (v : Nat) {a : SH} {nr : Int32} {g : SG} (R : shR E0 h a nr g) (hw : wfS a) (h3 : nk a < 3) {z w : Int} (hz : -1000000 ≤ z ∧ z ≤ 1000000) (hww : w = 0 ∨ w = 1) (hno : ∀ k, k < nk a → ¬ ct a k = z) : CM l B E0 D yX5_addStitch wsX5_addStitch (v + 1) 0 0 [.ref g.1, .long (lZ z), .int (iZ w)] h (fun r h1 => r = none ∧ shR E0 h1 (a.1, insC a.2.1 z, w, a.2.2.2) nr g ∧ FR h h1 (fun q => q = g.1 ∨ q = g.2.2.2.1)) := by
  obtain ⟨⟨hx, hy, R1, R2⟩, ⟨L1, L2, L3⟩, f, R4, R5⟩ := R
  unfold shF at R1
  obtain ⟨⟨zl, hl1⟩, ne, fe, hl2⟩ := L1.ty
  have n1 : g.1 ≠ g.2.1 := hm_ne R1 hl1 (by intro z; cases z)
  have n2 : g.1 ≠ g.2.2.1 := hm_ne R1 hl2 (by intro z; cases z)
  have n3 : g.2.2.2.1 ≠ g.1 := hm_ne R4 R1 (by intro z; cases z)
  have n4 : g.2.2.2.1 ≠ g.2.1 := hm_ne R4 hl1 (by intro z; cases z)
  have n5 : g.2.2.2.1 ≠ g.2.2.1 := hm_ne R4 hl2 (by intro z; cases z)
  have hcb : ∀ k, k < nk a → lOK (ct a k) := fun k hk => by
    have := ct_bnd hw hk
    unfold lOK; omega
  have oz : lOK z := by unfold lOK; omega
  have hmono := hw.2.2.2.2.2.1
  refine CM.of (cc := cX5_addStitch) (maxL := 5) (ret := none) (by decide) rfl (Nat.le_of_ble_eq_true rfl) (fun X E hin => ?_)
  show J X B D 5 _ h 0 0 0 [(0, .ref g.1), (1, .long (lZ z)), (3, .int (iZ w))] []
  generalize hQ : jQ X B D _ _ _ = Q
  refine j_aload_n E dX5_addStitch_0 rfl ?_
  refine j_getfield (ref := "ColourParts$Shape") (C := RX5) (T := TX5) (N := 9) (ci := 6) E 2 dX5_addStitch_1 iw_X5_addStitch_X5 rfl (by decide) (by decide +kernel) rfl (by first | with_reducible assumption | exact hput_eq _ _ _ | exact (hput_ne _ (by first | assumption | exact Ne.symm (by assumption))).trans (by assumption) | exact (hput_ne _ (by first | assumption | exact Ne.symm (by assumption))).trans (hput_eq _ _ _) | exact (hput_ne _ (by first | assumption | exact Ne.symm (by assumption))).trans ((hput_ne _ (by first | assumption | exact Ne.symm (by assumption))).trans (by assumption)) | exact (hput_ne _ (by first | assumption | exact Ne.symm (by assumption))).trans ((hput_ne _ (by first | assumption | exact Ne.symm (by assumption))).trans (hput_eq _ _ _))) rfl ?_
  refine j_iconst (x := nI 3) E dX5_addStitch_4 (by decide) ?_
  refine j_icmp_lt E (tgt := 9) dX5_addStitch_5 (by decide) (fun c1 => ?_) (fun c1 => ?_)
  · have key : ∀ (k : Nat) (h1 : HM) (f1 : Nat → Int64), k ≤ nk a → h1 g.1 = h g.1 → h1 g.2.2.2.1 = some (hJ 3 f1) → (∀ q, q ≠ g.2.2.2.1 → h1 q = h q) → (∀ i, i < k → f1 i = lZ (ct a i)) → (∀ i, k ≤ i → i < nk a → f1 (i + 1) = lZ (ct a i) ∧ z < ct a i) → J X B D 5 Q h1 0 0 15 [(4, .int (nI k)), (0, .ref g.1), (1, .long (lZ z)), (3, .int (iZ w))] [] := by
      have last : ∀ (k : Nat) (h1 : HM) (f1 : Nat → Int64), k ≤ nk a → h1 g.1 = h g.1 → h1 g.2.2.2.1 = some (hJ 3 f1) → (∀ q, q ≠ g.2.2.2.1 → h1 q = h q) → (∀ i, i < k → f1 i = lZ (ct a i) ∧ ct a i < z) → (∀ i, k ≤ i → i < nk a → f1 (i + 1) = lZ (ct a i) ∧ z < ct a i) → J X B D 5 Q h1 0 0 56 [(4, .int (nI k)), (0, .ref g.1), (1, .long (lZ z)), (3, .int (iZ w))] [] := by
        intro k h1 f1 hk hg hp hfr hlo hhi
        rw [R1] at hg
        obtain ⟨i1, i2, i3, i4⟩ := insC_get (l := a.2.1) (z := z) (k := k) (fun i hi => (hlo i hi).2) (fun i hi hi2 => (hhi i hi hi2).2) hk
        refine j_aload_n E dX5_addStitch_56 rfl ?_
        refine j_getfield (ref := "ColourParts$Shape") (C := RX5) (T := TX5) (N := 9) (ci := 6) E 1 dX5_addStitch_57 iw_X5_addStitch_X5 rfl (by decide) (by decide +kernel) rfl (by first | with_reducible assumption | exact hput_eq _ _ _ | exact (hput_ne _ (by first | assumption | exact Ne.symm (by assumption))).trans (by assumption) | exact (hput_ne _ (by first | assumption | exact Ne.symm (by assumption))).trans (hput_eq _ _ _) | exact (hput_ne _ (by first | assumption | exact Ne.symm (by assumption))).trans ((hput_ne _ (by first | assumption | exact Ne.symm (by assumption))).trans (by assumption)) | exact (hput_ne _ (by first | assumption | exact Ne.symm (by assumption))).trans ((hput_ne _ (by first | assumption | exact Ne.symm (by assumption))).trans (hput_eq _ _ _))) rfl ?_
        refine j_iload E dX5_addStitch_60 rfl ?_
        refine j_lload_n E dX5_addStitch_62 rfl ?_
        refine j_lastore E k dX5_addStitch_63 hp rfl (by omega) (by omega) ?_
        refine j_aload_n E dX5_addStitch_64 rfl ?_
        refine j_dup E dX5_addStitch_65 rfl ?_
        refine j_getfield (ref := "ColourParts$Shape") (C := RX5) (T := TX5) (N := 9) (ci := 6) E 2 dX5_addStitch_66 iw_X5_addStitch_X5 rfl (by decide) (by decide +kernel) rfl (by first | with_reducible assumption | exact hput_eq _ _ _ | exact (hput_ne _ (by first | assumption | exact Ne.symm (by assumption))).trans (by assumption) | exact (hput_ne _ (by first | assumption | exact Ne.symm (by assumption))).trans (hput_eq _ _ _) | exact (hput_ne _ (by first | assumption | exact Ne.symm (by assumption))).trans ((hput_ne _ (by first | assumption | exact Ne.symm (by assumption))).trans (by assumption)) | exact (hput_ne _ (by first | assumption | exact Ne.symm (by assumption))).trans ((hput_ne _ (by first | assumption | exact Ne.symm (by assumption))).trans (hput_eq _ _ _))) rfl ?_
        refine j_iconst (x := nI 1) E dX5_addStitch_69 (by decide) ?_
        refine j_iadd E dX5_addStitch_70 ?_
        refine J.topi (x' := nI (nk a + 1)) (nI_1 _) ?_
        refine j_putfield (ref := "ColourParts$Shape") (C := RX5) (T := TX5) (N := 9) (ci := 6) E 2 dX5_addStitch_71 iw_X5_addStitch_X5 tyX5 tyX5_ok nmX5 rfl (by decide) (by decide +kernel) rfl rfl rfl rfl (by first | with_reducible assumption | exact hput_eq _ _ _ | exact (hput_ne _ (by first | assumption | exact Ne.symm (by assumption))).trans (by assumption) | exact (hput_ne _ (by first | assumption | exact Ne.symm (by assumption))).trans (hput_eq _ _ _) | exact (hput_ne _ (by first | assumption | exact Ne.symm (by assumption))).trans ((hput_ne _ (by first | assumption | exact Ne.symm (by assumption))).trans (by assumption)) | exact (hput_ne _ (by first | assumption | exact Ne.symm (by assumption))).trans ((hput_ne _ (by first | assumption | exact Ne.symm (by assumption))).trans (hput_eq _ _ _))) (Nat.le_of_ble_eq_true rfl) ?_
        refine j_aload_n E dX5_addStitch_74 rfl ?_
        refine j_iload_n E dX5_addStitch_75 rfl ?_
        refine j_putfield (ref := "ColourParts$Shape") (C := RX5) (T := TX5) (N := 9) (ci := 6) E 3 dX5_addStitch_76 iw_X5_addStitch_X5 tyX5 tyX5_ok nmX5 rfl (by decide) (by decide +kernel) rfl rfl (by rcases hww with rfl | rfl <;> rfl) (by rcases hww with rfl | rfl <;> rfl) (by first | with_reducible assumption | exact hput_eq _ _ _ | exact (hput_ne _ (by first | assumption | exact Ne.symm (by assumption))).trans (by assumption) | exact (hput_ne _ (by first | assumption | exact Ne.symm (by assumption))).trans (hput_eq _ _ _) | exact (hput_ne _ (by first | assumption | exact Ne.symm (by assumption))).trans ((hput_ne _ (by first | assumption | exact Ne.symm (by assumption))).trans (by assumption)) | exact (hput_ne _ (by first | assumption | exact Ne.symm (by assumption))).trans ((hput_ne _ (by first | assumption | exact Ne.symm (by assumption))).trans (hput_eq _ _ _))) (Nat.le_of_ble_eq_true rfl) ?_
        rw [hput_hput]
        rw [← hQ]
        refine j_vret E dX5_addStitch_79 rfl (by omega) (by omega) ⟨rfl, ⟨⟨hx, hy, ?_, R2⟩, ⟨L1.keep ?_ ?_, L2, fun i hi => ?_⟩, _, (hput_ne _ n3).trans (hput_eq _ _ _), fun j hj => ?_⟩, fun q q1 q2 => (hput_ne _ (fun e => q2 (Or.inl e))).trans ((hput_ne _ (fun e => q2 (Or.inr e))).trans (hfr q (fun e => q2 (Or.inr e))))⟩
        · rw [hput_eq]
          unfold shF
          have e : nk (a.1, insC a.2.1 z, w, a.2.2.2) = nk a + 1 := i1
          rw [e]
          rfl
        · exact (hput_ne _ n1.symm).trans ((hput_ne _ n4.symm).trans (hfr _ n4.symm))
        · exact (hput_ne _ n2.symm).trans ((hput_ne _ n5.symm).trans (hfr _ n5.symm))
        · have h4 := L3 i hi
          have m1 := hm_ne h4 R1 (by intro z; cases z)
          have m2 := hm_ne h4 R4 (by intro z; cases z)
          exact (hput_ne _ m1).trans ((hput_ne _ m2).trans ((hfr _ m2).trans h4))
        · have hj2 : j < nk a + 1 := i1 ▸ (show j < (insC a.2.1 z).length from hj)
          show vp_updL f1 k (lZ z) j = lZ ((insC a.2.1 z).getD j 0)
          by_cases e : j = k
          · rw [e, i3]; exact if_pos rfl
          · refine (show vp_updL f1 k (lZ z) j = f1 j from if_neg e).trans ?_
            by_cases e2 : j < k
            · rw [i2 j e2]; exact (hlo j e2).1
            · obtain ⟨j, rfl⟩ : ∃ j2, j = j2 + 1 := ⟨j - 1, by omega⟩
              rw [i4 j (by omega)]
              exact (hhi j (by omega) (by omega)).1
      intro k
      induction k with
      | zero =>
        intro h1 f1 hk hg hp hfr hlo hhi
        refine j_iload E dX5_addStitch_15 rfl ?_
        refine j_if_le E (tgt := 56) dX5_addStitch_17 (by decide) (fun c2 => ?_) (fun c2 => ?_)
        · exact last 0 h1 f1 hk hg hp hfr (fun i hi => absurd hi (Nat.not_lt_zero _)) hhi
        · exact absurd (Int32.le_refl _) c2
      | succ k ih =>
        intro h1 f1 hk hg hp hfr hlo hhi
        have hg1 := hg
        rw [R1] at hg1
        refine j_iload E dX5_addStitch_15 rfl ?_
        refine j_if_le E (tgt := 56) dX5_addStitch_17 (by decide) (fun c2 => ?_) (fun c2 => ?_)
        · exact absurd c2 (Int32.not_le.mpr (nI_lt (show 0 < k + 1 by omega) (by omega)))
        ·
          refine j_aload_n E dX5_addStitch_20 rfl ?_
          refine j_getfield (ref := "ColourParts$Shape") (C := RX5) (T := TX5) (N := 9) (ci := 6) E 1 dX5_addStitch_21 iw_X5_addStitch_X5 rfl (by decide) (by decide +kernel) rfl (by first | with_reducible assumption | exact hput_eq _ _ _ | exact (hput_ne _ (by first | assumption | exact Ne.symm (by assumption))).trans (by assumption) | exact (hput_ne _ (by first | assumption | exact Ne.symm (by assumption))).trans (hput_eq _ _ _) | exact (hput_ne _ (by first | assumption | exact Ne.symm (by assumption))).trans ((hput_ne _ (by first | assumption | exact Ne.symm (by assumption))).trans (by assumption)) | exact (hput_ne _ (by first | assumption | exact Ne.symm (by assumption))).trans ((hput_ne _ (by first | assumption | exact Ne.symm (by assumption))).trans (hput_eq _ _ _))) rfl ?_
          refine j_iload E dX5_addStitch_24 rfl ?_
          refine j_iconst (x := nI 1) E dX5_addStitch_26 (by decide) ?_
          refine j_isub E dX5_addStitch_27 ?_
          refine J.topi (x' := nI k) (nI_pred k) ?_
          refine j_laload E k dX5_addStitch_28 hp rfl (by omega) (by omega) ?_
          refine J.topl (x' := lZ (ct a k)) (hlo k (by omega)) ?_
          refine j_lload_n E dX5_addStitch_29 rfl ?_
          refine j_lcmp E dX5_addStitch_30 ?_
          refine j_if_le E (tgt := 56) dX5_addStitch_31 (by decide) (fun c3 => ?_) (fun c3 => ?_)
          · have c4 : ct a k ≤ z := (lZ_le (hcb k (by omega)) oz).mp (cmp_le.mp c3)
            refine last (k + 1) h1 f1 hk hg hp hfr (fun i hi => ⟨hlo i hi, ?_⟩) hhi
            have hne := hno k (by omega)
            by_cases e : i = k
            · rw [e]; omega
            · have := hmono i k (by omega) (by omega)
              omega
          · have c4 : z < ct a k := (lZ_lt oz (hcb k (by omega))).mp (cmp_gt.mp (Int32.not_le.mp c3))
            refine j_aload_n E dX5_addStitch_34 rfl ?_
            refine j_getfield (ref := "ColourParts$Shape") (C := RX5) (T := TX5) (N := 9) (ci := 6) E 1 dX5_addStitch_35 iw_X5_addStitch_X5 rfl (by decide) (by decide +kernel) rfl (by first | with_reducible assumption | exact hput_eq _ _ _ | exact (hput_ne _ (by first | assumption | exact Ne.symm (by assumption))).trans (by assumption) | exact (hput_ne _ (by first | assumption | exact Ne.symm (by assumption))).trans (hput_eq _ _ _) | exact (hput_ne _ (by first | assumption | exact Ne.symm (by assumption))).trans ((hput_ne _ (by first | assumption | exact Ne.symm (by assumption))).trans (by assumption)) | exact (hput_ne _ (by first | assumption | exact Ne.symm (by assumption))).trans ((hput_ne _ (by first | assumption | exact Ne.symm (by assumption))).trans (hput_eq _ _ _))) rfl ?_
            refine j_iload E dX5_addStitch_38 rfl ?_
            refine j_aload_n E dX5_addStitch_40 rfl ?_
            refine j_getfield (ref := "ColourParts$Shape") (C := RX5) (T := TX5) (N := 9) (ci := 6) E 1 dX5_addStitch_41 iw_X5_addStitch_X5 rfl (by decide) (by decide +kernel) rfl (by first | with_reducible assumption | exact hput_eq _ _ _ | exact (hput_ne _ (by first | assumption | exact Ne.symm (by assumption))).trans (by assumption) | exact (hput_ne _ (by first | assumption | exact Ne.symm (by assumption))).trans (hput_eq _ _ _) | exact (hput_ne _ (by first | assumption | exact Ne.symm (by assumption))).trans ((hput_ne _ (by first | assumption | exact Ne.symm (by assumption))).trans (by assumption)) | exact (hput_ne _ (by first | assumption | exact Ne.symm (by assumption))).trans ((hput_ne _ (by first | assumption | exact Ne.symm (by assumption))).trans (hput_eq _ _ _))) rfl ?_
            refine j_iload E dX5_addStitch_44 rfl ?_
            refine j_iconst (x := nI 1) E dX5_addStitch_46 (by decide) ?_
            refine j_isub E dX5_addStitch_47 ?_
            refine J.topi (x' := nI k) (nI_pred k) ?_
            refine j_laload E k dX5_addStitch_48 hp rfl (by omega) (by omega) ?_
            refine J.topl (x' := lZ (ct a k)) (hlo k (by omega)) ?_
            refine j_lastore E (k + 1) dX5_addStitch_49 hp rfl (by omega) (by omega) ?_
            refine j_iinc E dX5_addStitch_50 rfl (nI_m1 k) (by decide) ?_
            refine j_goto E (tgt := 15) dX5_addStitch_53 (by decide) ?_
            refine J.sub [(4, .int (nI k)), (0, .ref g.1), (1, .long (lZ z)), (3, .int (iZ w))] ⟨rfl, rfl, rfl, rfl, trivial⟩ ?_
            refine ih _ _ (by omega) ((hput_ne _ n3.symm).trans hg) (hput_eq _ _ _) (fun q hq => (hput_ne _ hq).trans (hfr q hq)) (fun i hi => ?_) (fun i hi hi2 => ?_)
            · exact (show vp_updL f1 (k + 1) (lZ (ct a k)) i = f1 i from if_neg (by omega)).trans (hlo i (by omega))
            · by_cases e : i = k
              · rw [e]; exact ⟨if_pos rfl, c4⟩
              · exact ⟨(show vp_updL f1 (k + 1) (lZ (ct a k)) (i + 1) = f1 (i + 1) from if_neg (by omega)).trans (hhi i (by omega) hi2).1, (hhi i (by omega) hi2).2⟩
    refine j_aload_n E dX5_addStitch_9 rfl ?_
    refine j_getfield (ref := "ColourParts$Shape") (C := RX5) (T := TX5) (N := 9) (ci := 6) E 2 dX5_addStitch_10 iw_X5_addStitch_X5 rfl (by decide) (by decide +kernel) rfl (by first | with_reducible assumption | exact hput_eq _ _ _ | exact (hput_ne _ (by first | assumption | exact Ne.symm (by assumption))).trans (by assumption) | exact (hput_ne _ (by first | assumption | exact Ne.symm (by assumption))).trans (hput_eq _ _ _) | exact (hput_ne _ (by first | assumption | exact Ne.symm (by assumption))).trans ((hput_ne _ (by first | assumption | exact Ne.symm (by assumption))).trans (by assumption)) | exact (hput_ne _ (by first | assumption | exact Ne.symm (by assumption))).trans ((hput_ne _ (by first | assumption | exact Ne.symm (by assumption))).trans (hput_eq _ _ _))) rfl ?_
    refine j_istore E dX5_addStitch_13 (by decide) ?_
    refine J.sub [(4, .int (nI (nk a))), (0, .ref g.1), (1, .long (lZ z)), (3, .int (iZ w))] ⟨rfl, rfl, rfl, rfl, trivial⟩ ?_
    exact key (nk a) h f (Nat.le_refl _) rfl R4 (fun _ _ => rfl) R5 (fun i h1 h2 => absurd h1 (by omega))
  · exact absurd (nI_lt h3 (by decide)) c1
end C3
