/-! the reference's geometry -/
section M2
variable {l : Launch} {B E0 : Nat} {D : va_G} {h0 h : HM} {m : Nat} {a : Nat → Nat} {d : Int} {s : Nat → Int32} {I : Nat → Nat → Int32} {G : Nat → Nat → Int64} {ss : List SH}
theorem lOK_s {z : Int} (h : -1000000 ≤ z ∧ z ≤ 1000000) : lOK z := ⟨by omega, by omega⟩
/-- a box in an array of four -/
def isB (f : Nat → Int64) (x0 y0 x1 y1 : Int) : Prop := f 0 = lZ x0 ∧ f 1 = lZ y0 ∧ f 2 = lZ x1 ∧ f 3 = lZ y1
theorem isB_up (f : Nat → Int64) (x0 y0 x1 y1 : Int) : isB (vp_updL (vp_updL (vp_updL (vp_updL f 0 (lZ x0)) 1 (lZ y0)) 2 (lZ x1)) 3 (lZ y1)) x0 y0 x1 y1 := ⟨rfl, rfl, rfl, rfl⟩
theorem uA_uA {α : Type} (f : Nat → α) (k : Nat) (x y : α) : uA (uA f k x) k y = uA f k y := by
  funext j; by_cases e : j = k <;> simp [uA, e]
theorem iw_X7_load_X7 : ∀ w ∈ u_ws RX7 TX7 27, w ∈ wsX7_load := by decide +kernel
theorem m_load (v : Nat) (hM : MR h0 h m a (lZ d) s I G) (A : MA ss s I G) (hw : wfSS ss) {j k b : Nat} (hj : j < ss.length) (hk : k ≤ nk (gS ss j)) (hb : b < nb (gS ss j)) (ff : Bool) : CM l B E0 D yX7_load wsX7_load (v + 2) 0 0 [.ref m, .int (nI j), .int (nI k), .int (nI b), .int (if ff then 1 else 0)] h (fun r h1 => r = none ∧ ∃ f, MR h0 h1 m a (lZ d) s I (uA G (if ff then 14 else 15) f) ∧ isB f (px0 (gS ss j) k b) (py0 (gS ss j) k b) (px1 (gS ss j) k b) (py1 (gS ss j) k b)) := by
  have hl := hw.1
  obtain ⟨a5, a8, a6, a9, aX, aK⟩ := A.2 j hj
  have hn := hw.2.2 j hj
  generalize hsh : gS ss j = sh at *
  have hb2 := nb_lt hn hb
  have n8 := hn.1
  obtain ⟨X0, Y0⟩ := aX (2 * b) (by omega)
  obtain ⟨X1, Y1⟩ := aX (2 * b + 1) (by omega)
  have c0 := hn.2.2.2.1 (2 * b) (by omega)
  have c1 := hn.2.2.2.1 (2 * b + 1) (by omega)
  refine CM.of (cc := cX7_load) (maxL := 14) (ret := none) (by decide) rfl (Nat.le_of_ble_eq_true rfl) (fun X E hin => ?_)
  show J X B D 14 _ h 0 0 0 [(0, .ref m), (1, .int (nI j)), (2, .int (nI k)), (3, .int (nI b)), (4, .int (if ff then 1 else 0))] []
  refine j_bipush (x := nI 8) E dX7_load_0 (by decide) ?_
  refine j_iload_n E dX7_load_2 rfl ?_
  refine j_imul E dX7_load_3 ?_
  refine J.topi (x' := nI (8 * j)) (pk_mul _ _) ?_
  refine j_iconst (x := nI 2) E dX7_load_4 (by decide) ?_
  refine j_iload_n E dX7_load_5 rfl ?_
  refine j_imul E dX7_load_6 ?_
  refine J.topi (x' := nI (2 * b)) (pk_mul _ _) ?_
  refine j_iadd E dX7_load_7 ?_
  refine J.topi (x' := nI (8 * j + 2 * b)) (nI_add _ _) ?_
  refine j_istore E dX7_load_8 (by decide) ?_
  refine j_aload_n E dX7_load_10 rfl ?_
  refine j_getfield (ref := "ColourPartsModel") (C := RX7) (T := TX7) (N := 27) (ci := 8) E 3 dX7_load_11 iw_X7_load_X7 rfl (by decide) (by decide +kernel) rfl hM.obj rfl ?_
  refine j_iload E dX7_load_14 rfl ?_
  refine j_laload E (8 * j + 2 * b) dX7_load_16 (hM.gJ 3 80 (by decide)) rfl (by omega) (by omega) ?_
  refine J.topl (x' := lZ (cx sh (2 * b))) (X0) ?_
  refine j_aload_n E dX7_load_17 rfl ?_
  refine j_getfield (ref := "ColourPartsModel") (C := RX7) (T := TX7) (N := 27) (ci := 8) E 3 dX7_load_18 iw_X7_load_X7 rfl (by decide) (by decide +kernel) rfl hM.obj rfl ?_
  refine j_iload E dX7_load_21 rfl ?_
  refine j_iconst (x := nI 1) E dX7_load_23 (by decide) ?_
  refine j_iadd E dX7_load_24 ?_
  refine J.topi (x' := nI (8 * j + (2 * b + 1))) (nI_add _ _) ?_
  refine j_laload E (8 * j + (2 * b + 1)) dX7_load_25 (hM.gJ 3 80 (by decide)) rfl (by omega) (by omega) ?_
  refine J.topl (x' := lZ (cx sh (2 * b + 1))) (X1) ?_
  refine j_callS (np := 2) E (m_low v (lOK_s (by omega)) (lOK_s (by omega))) gX7_load_X7_low rfl ⟨by decide, by decide, by decide +kernel⟩ dX7_load_26 (by omega) (by decide) rfl rfl (Nat.le_of_ble_eq_true rfl) (by omega) (by omega) (fun r9 h9 p9 => J.pure p9 ?_)
  refine j_lstore E dX7_load_29 (by decide) ?_
  refine j_aload_n E dX7_load_31 rfl ?_
  refine j_getfield (ref := "ColourPartsModel") (C := RX7) (T := TX7) (N := 27) (ci := 8) E 3 dX7_load_32 iw_X7_load_X7 rfl (by decide) (by decide +kernel) rfl hM.obj rfl ?_
  refine j_iload E dX7_load_35 rfl ?_
  refine j_laload E (8 * j + 2 * b) dX7_load_37 (hM.gJ 3 80 (by decide)) rfl (by omega) (by omega) ?_
  refine J.topl (x' := lZ (cx sh (2 * b))) (X0) ?_
  refine j_aload_n E dX7_load_38 rfl ?_
  refine j_getfield (ref := "ColourPartsModel") (C := RX7) (T := TX7) (N := 27) (ci := 8) E 3 dX7_load_39 iw_X7_load_X7 rfl (by decide) (by decide +kernel) rfl hM.obj rfl ?_
  refine j_iload E dX7_load_42 rfl ?_
  refine j_iconst (x := nI 1) E dX7_load_44 (by decide) ?_
  refine j_iadd E dX7_load_45 ?_
  refine J.topi (x' := nI (8 * j + (2 * b + 1))) (nI_add _ _) ?_
  refine j_laload E (8 * j + (2 * b + 1)) dX7_load_46 (hM.gJ 3 80 (by decide)) rfl (by omega) (by omega) ?_
  refine J.topl (x' := lZ (cx sh (2 * b + 1))) (X1) ?_
  refine j_callS (np := 2) E (m_high v (lOK_s (by omega)) (lOK_s (by omega))) gX7_load_X7_high rfl ⟨by decide, by decide, by decide +kernel⟩ dX7_load_47 (by omega) (by decide) rfl rfl (Nat.le_of_ble_eq_true rfl) (by omega) (by omega) (fun r9 h9 p9 => J.pure p9 ?_)
  refine j_lstore E dX7_load_50 (by decide) ?_
  refine j_aload_n E dX7_load_52 rfl ?_
  refine j_getfield (ref := "ColourPartsModel") (C := RX7) (T := TX7) (N := 27) (ci := 8) E 4 dX7_load_53 iw_X7_load_X7 rfl (by decide) (by decide +kernel) rfl hM.obj rfl ?_
  refine j_iload E dX7_load_56 rfl ?_
  refine j_laload E (8 * j + 2 * b) dX7_load_58 (hM.gJ 4 80 (by decide)) rfl (by omega) (by omega) ?_
  refine J.topl (x' := lZ (cy sh (2 * b))) (Y0) ?_
  refine j_aload_n E dX7_load_59 rfl ?_
  refine j_getfield (ref := "ColourPartsModel") (C := RX7) (T := TX7) (N := 27) (ci := 8) E 4 dX7_load_60 iw_X7_load_X7 rfl (by decide) (by decide +kernel) rfl hM.obj rfl ?_
  refine j_iload E dX7_load_63 rfl ?_
  refine j_iconst (x := nI 1) E dX7_load_65 (by decide) ?_
  refine j_iadd E dX7_load_66 ?_
  refine J.topi (x' := nI (8 * j + (2 * b + 1))) (nI_add _ _) ?_
  refine j_laload E (8 * j + (2 * b + 1)) dX7_load_67 (hM.gJ 4 80 (by decide)) rfl (by omega) (by omega) ?_
  refine J.topl (x' := lZ (cy sh (2 * b + 1))) (Y1) ?_
  refine j_callS (np := 2) E (m_low v (lOK_s (by omega)) (lOK_s (by omega))) gX7_load_X7_low rfl ⟨by decide, by decide, by decide +kernel⟩ dX7_load_68 (by omega) (by decide) rfl rfl (Nat.le_of_ble_eq_true rfl) (by omega) (by omega) (fun r9 h9 p9 => J.pure p9 ?_)
  refine j_lstore E dX7_load_71 (by decide) ?_
  refine j_aload_n E dX7_load_73 rfl ?_
  refine j_getfield (ref := "ColourPartsModel") (C := RX7) (T := TX7) (N := 27) (ci := 8) E 4 dX7_load_74 iw_X7_load_X7 rfl (by decide) (by decide +kernel) rfl hM.obj rfl ?_
  refine j_iload E dX7_load_77 rfl ?_
  refine j_laload E (8 * j + 2 * b) dX7_load_79 (hM.gJ 4 80 (by decide)) rfl (by omega) (by omega) ?_
  refine J.topl (x' := lZ (cy sh (2 * b))) (Y0) ?_
  refine j_aload_n E dX7_load_80 rfl ?_
  refine j_getfield (ref := "ColourPartsModel") (C := RX7) (T := TX7) (N := 27) (ci := 8) E 4 dX7_load_81 iw_X7_load_X7 rfl (by decide) (by decide +kernel) rfl hM.obj rfl ?_
  refine j_iload E dX7_load_84 rfl ?_
  refine j_iconst (x := nI 1) E dX7_load_86 (by decide) ?_
  refine j_iadd E dX7_load_87 ?_
  refine J.topi (x' := nI (8 * j + (2 * b + 1))) (nI_add _ _) ?_
  refine j_laload E (8 * j + (2 * b + 1)) dX7_load_88 (hM.gJ 4 80 (by decide)) rfl (by omega) (by omega) ?_
  refine J.topl (x' := lZ (cy sh (2 * b + 1))) (Y1) ?_
  refine j_callS (np := 2) E (m_high v (lOK_s (by omega)) (lOK_s (by omega))) gX7_load_X7_high rfl ⟨by decide, by decide, by decide +kernel⟩ dX7_load_89 (by omega) (by decide) rfl rfl (Nat.le_of_ble_eq_true rfl) (by omega) (by omega) (fun r9 h9 p9 => J.pure p9 ?_)
  have T : ∀ (x0 x1 y0 y1 : Int), x0 = px0 sh k b → x1 = px1 sh k b → y0 = py0 sh k b → y1 = py1 sh k b → J X B D 14 (jQ X B D 0 0 (fun r h1 => r = none ∧ ∃ f, MR h0 h1 m a (lZ d) s I (uA G (if ff then 14 else 15) f) ∧ isB f (px0 sh k b) (py0 sh k b) (px1 sh k b) (py1 sh k b))) h (0 + 0 + 0 + 0 + 0) (0 + 0 + 0 + 0 + 0) 224 [(12, .long (lZ y1)), (10, .long (lZ y0)), (8, .long (lZ x1)), (6, .long (lZ x0)), (4, .int (if ff then 1 else 0)), (0, .ref m)] [] := by
    intro x0 x1 y0 y1 e1 e2 e3 e4
    subst e1 e2 e3 e4
    cases ff with
    | true =>
      refine j_iload E dX7_load_224 rfl ?_
      refine j_if_eq E (tgt := 264) dX7_load_226 (by decide) (fun c => ?_) (fun c => ?_)
      · exact absurd c (by decide)
      ·
        refine j_aload_n E dX7_load_229 rfl ?_
        refine j_getfield (ref := "ColourPartsModel") (C := RX7) (T := TX7) (N := 27) (ci := 8) E 14 dX7_load_230 iw_X7_load_X7 rfl (by decide) (by decide +kernel) rfl hM.obj rfl ?_
        refine j_iconst (x := nI 0) E dX7_load_233 (by decide) ?_
        refine j_lload E dX7_load_234 rfl ?_
        refine j_lastore E 0 dX7_load_236 (hM.gJ 14 4 (by decide)) rfl (by omega) (by omega) ?_
        refine MR.gen (hM.pJ 14 4 _ (by decide)) (fun h hM => ?_)
        refine j_aload_n E dX7_load_237 rfl ?_
        refine j_getfield (ref := "ColourPartsModel") (C := RX7) (T := TX7) (N := 27) (ci := 8) E 14 dX7_load_238 iw_X7_load_X7 rfl (by decide) (by decide +kernel) rfl hM.obj rfl ?_
        refine j_iconst (x := nI 1) E dX7_load_241 (by decide) ?_
        refine j_lload E dX7_load_242 rfl ?_
        refine j_lastore E 1 dX7_load_244 (hM.gJ 14 4 (by decide)) rfl (by omega) (by omega) ?_
        refine MR.gen (hM.pJ 14 4 _ (by decide)) (fun h hM => ?_)
        refine j_aload_n E dX7_load_245 rfl ?_
        refine j_getfield (ref := "ColourPartsModel") (C := RX7) (T := TX7) (N := 27) (ci := 8) E 14 dX7_load_246 iw_X7_load_X7 rfl (by decide) (by decide +kernel) rfl hM.obj rfl ?_
        refine j_iconst (x := nI 2) E dX7_load_249 (by decide) ?_
        refine j_lload E dX7_load_250 rfl ?_
        refine j_lastore E 2 dX7_load_252 (hM.gJ 14 4 (by decide)) rfl (by omega) (by omega) ?_
        refine MR.gen (hM.pJ 14 4 _ (by decide)) (fun h hM => ?_)
        refine j_aload_n E dX7_load_253 rfl ?_
        refine j_getfield (ref := "ColourPartsModel") (C := RX7) (T := TX7) (N := 27) (ci := 8) E 14 dX7_load_254 iw_X7_load_X7 rfl (by decide) (by decide +kernel) rfl hM.obj rfl ?_
        refine j_iconst (x := nI 3) E dX7_load_257 (by decide) ?_
        refine j_lload E dX7_load_258 rfl ?_
        refine j_lastore E 3 dX7_load_260 (hM.gJ 14 4 (by decide)) rfl (by omega) (by omega) ?_
        refine MR.gen (hM.pJ 14 4 _ (by decide)) (fun h hM => ?_)
        refine j_goto E (tgt := 296) dX7_load_261 (by decide) ?_
        exact j_vret E dX7_load_296 rfl (by omega) (by omega) ⟨rfl, _, by rw [uA_uA, uA_uA, uA_uA, uA_eq, uA_eq, uA_eq] at hM; exact hM, isB_up _ _ _ _ _⟩
    | false =>
      refine j_iload E dX7_load_224 rfl ?_
      refine j_if_eq E (tgt := 264) dX7_load_226 (by decide) (fun c => ?_) (fun c => ?_)
      ·
        refine j_aload_n E dX7_load_264 rfl ?_
        refine j_getfield (ref := "ColourPartsModel") (C := RX7) (T := TX7) (N := 27) (ci := 8) E 15 dX7_load_265 iw_X7_load_X7 rfl (by decide) (by decide +kernel) rfl hM.obj rfl ?_
        refine j_iconst (x := nI 0) E dX7_load_268 (by decide) ?_
        refine j_lload E dX7_load_269 rfl ?_
        refine j_lastore E 0 dX7_load_271 (hM.gJ 15 4 (by decide)) rfl (by omega) (by omega) ?_
        refine MR.gen (hM.pJ 15 4 _ (by decide)) (fun h hM => ?_)
        refine j_aload_n E dX7_load_272 rfl ?_
        refine j_getfield (ref := "ColourPartsModel") (C := RX7) (T := TX7) (N := 27) (ci := 8) E 15 dX7_load_273 iw_X7_load_X7 rfl (by decide) (by decide +kernel) rfl hM.obj rfl ?_
        refine j_iconst (x := nI 1) E dX7_load_276 (by decide) ?_
        refine j_lload E dX7_load_277 rfl ?_
        refine j_lastore E 1 dX7_load_279 (hM.gJ 15 4 (by decide)) rfl (by omega) (by omega) ?_
        refine MR.gen (hM.pJ 15 4 _ (by decide)) (fun h hM => ?_)
        refine j_aload_n E dX7_load_280 rfl ?_
        refine j_getfield (ref := "ColourPartsModel") (C := RX7) (T := TX7) (N := 27) (ci := 8) E 15 dX7_load_281 iw_X7_load_X7 rfl (by decide) (by decide +kernel) rfl hM.obj rfl ?_
        refine j_iconst (x := nI 2) E dX7_load_284 (by decide) ?_
        refine j_lload E dX7_load_285 rfl ?_
        refine j_lastore E 2 dX7_load_287 (hM.gJ 15 4 (by decide)) rfl (by omega) (by omega) ?_
        refine MR.gen (hM.pJ 15 4 _ (by decide)) (fun h hM => ?_)
        refine j_aload_n E dX7_load_288 rfl ?_
        refine j_getfield (ref := "ColourPartsModel") (C := RX7) (T := TX7) (N := 27) (ci := 8) E 15 dX7_load_289 iw_X7_load_X7 rfl (by decide) (by decide +kernel) rfl hM.obj rfl ?_
        refine j_iconst (x := nI 3) E dX7_load_292 (by decide) ?_
        refine j_lload E dX7_load_293 rfl ?_
        refine j_lastore E 3 dX7_load_295 (hM.gJ 15 4 (by decide)) rfl (by omega) (by omega) ?_
        refine MR.gen (hM.pJ 15 4 _ (by decide)) (fun h hM => ?_)
        exact j_vret E dX7_load_296 rfl (by omega) (by omega) ⟨rfl, _, by rw [uA_uA, uA_uA, uA_uA, uA_eq, uA_eq, uA_eq] at hM; exact hM, isB_up _ _ _ _ _⟩
      · exact absurd rfl c
  refine j_lstore E dX7_load_92 (by decide) ?_
  refine j_aload_n E dX7_load_94 rfl ?_
  refine j_getfield (ref := "ColourPartsModel") (C := RX7) (T := TX7) (N := 27) (ci := 8) E 8 dX7_load_95 iw_X7_load_X7 rfl (by decide) (by decide +kernel) rfl hM.obj rfl ?_
  refine j_iload_n E dX7_load_98 rfl ?_
  refine j_iaload E j dX7_load_99 (hM.gI 8 10 (by decide)) rfl (by omega) (by omega) ?_
  refine J.topi (x' := nI (nk sh)) (a8) ?_
  have hk3 := hn.2.1
  by_cases hz : 0 < nk sh
  · have hb1 : b = 0 := by unfold nb at hb; rw [if_pos hz] at hb; omega
    refine j_if_le E (tgt := 165) dX7_load_100 (by decide) (fun c => ?_) (fun c => ?_)
    · exact absurd c (nI_nle hz (by omega))
    ·
      refine j_aload_n E dX7_load_103 rfl ?_
      refine j_getfield (ref := "ColourPartsModel") (C := RX7) (T := TX7) (N := 27) (ci := 8) E 9 dX7_load_104 iw_X7_load_X7 rfl (by decide) (by decide +kernel) rfl hM.obj rfl ?_
      refine j_iload_n E dX7_load_107 rfl ?_
      refine j_zaload E j dX7_load_108 (hM.gZ 9 10 (by decide)) rfl (by omega) (by omega) ?_
      refine J.topi (x' := iZ (sd sh)) (a9 hz) ?_
      rcases hn.2.2.2.2.2.2.1 with e | e
      · -- lying
        refine j_if_eq E (tgt := 165) dX7_load_109 (by decide) (fun c2 => ?_) (fun c2 => ?_)
        ·
          refine j_aload_n E dX7_load_165 rfl ?_
          refine j_getfield (ref := "ColourPartsModel") (C := RX7) (T := TX7) (N := 27) (ci := 8) E 8 dX7_load_166 iw_X7_load_X7 rfl (by decide) (by decide +kernel) rfl hM.obj rfl ?_
          refine j_iload_n E dX7_load_169 rfl ?_
          refine j_iaload E j dX7_load_170 (hM.gI 8 10 (by decide)) rfl (by omega) (by omega) ?_
          refine J.topi (x' := nI (nk sh)) (a8) ?_
          refine j_if_le E (tgt := 224) dX7_load_171 (by decide) (fun c3 => ?_) (fun c3 => ?_)
          · exact absurd c3 (nI_nle hz (by omega))
          · have ns : ¬ sd sh = 1 := by omega
            have e1 : bx0 sh b = px0 sh k b := by unfold px0; rw [if_neg (fun z => ns z.2.1)]
            have e2 : bx1 sh b = px1 sh k b := by unfold px1; rw [if_neg (fun z => ns z.2.1)]
            refine j_iload_n E dX7_load_174 rfl ?_
            refine j_if_le E (tgt := 193) dX7_load_175 (by decide) (fun c4 => ?_) (fun c4 => ?_)
            · have k0 : ¬ 0 < k := fun z => nI_nle z (by omega) c4
              have e3 : by0 sh b = py0 sh k b := by unfold py0; rw [if_neg (fun z => k0 z.2.2)]
              refine j_lload E dX7_load_193 rfl ?_
              refine j_lstore E dX7_load_195 (by decide) ?_
              refine j_iload_n E dX7_load_197 rfl ?_
              refine j_aload_n E dX7_load_198 rfl ?_
              refine j_getfield (ref := "ColourPartsModel") (C := RX7) (T := TX7) (N := 27) (ci := 8) E 8 dX7_load_199 iw_X7_load_X7 rfl (by decide) (by decide +kernel) rfl hM.obj rfl ?_
              refine j_iload_n E dX7_load_202 rfl ?_
              refine j_iaload E j dX7_load_203 (hM.gI 8 10 (by decide)) rfl (by omega) (by omega) ?_
              refine J.topi (x' := nI (nk sh)) (a8) ?_
              refine j_icmp_ge E (tgt := 220) dX7_load_204 (by decide) (fun c5 => ?_) (fun c5 => ?_)
              · have e4 : by1 sh b = py1 sh k b := by unfold py1; rw [if_neg (fun z => nI_ge z.2.2 (by omega) c5)]
                refine j_lload E dX7_load_220 rfl ?_
                refine j_lstore E dX7_load_222 (by decide) ?_
                refine J.sub [(12, .long (lZ (by1 sh b))), (10, .long (lZ (by0 sh b))), (8, .long (lZ (bx1 sh b))), (6, .long (lZ (bx0 sh b))), (4, .int (if ff then 1 else 0)), (0, .ref m)] ⟨rfl, rfl, rfl, rfl, rfl, rfl, trivial⟩ ?_
                exact T _ _ _ _ e1 e2 e3 e4
              · have kl : k < nk sh := by rcases Nat.lt_or_ge k (nk sh) with q | q; exact q; exact absurd (nI_le q (by omega)) c5
                have e4 : ct sh k = py1 sh k b := by unfold py1; rw [if_pos ⟨hz, ns, kl⟩]
                refine j_aload_n E dX7_load_207 rfl ?_
                refine j_getfield (ref := "ColourPartsModel") (C := RX7) (T := TX7) (N := 27) (ci := 8) E 7 dX7_load_208 iw_X7_load_X7 rfl (by decide) (by decide +kernel) rfl hM.obj rfl ?_
                refine j_iconst (x := nI 3) E dX7_load_211 (by decide) ?_
                refine j_iload_n E dX7_load_212 rfl ?_
                refine j_imul E dX7_load_213 ?_
                refine J.topi (x' := nI (3 * j)) (pk_mul _ _) ?_
                refine j_iload_n E dX7_load_214 rfl ?_
                refine j_iadd E dX7_load_215 ?_
                refine J.topi (x' := nI (3 * j + k)) (nI_add _ _) ?_
                refine j_laload E (3 * j + k) dX7_load_216 (hM.gJ 7 30 (by decide)) rfl (by omega) (by omega) ?_
                refine J.topl (x' := lZ (ct sh k)) (aK k kl) ?_
                refine j_goto E (tgt := 222) dX7_load_217 (by decide) ?_
                refine j_lstore E dX7_load_222 (by decide) ?_
                refine J.sub [(12, .long (lZ (ct sh k))), (10, .long (lZ (by0 sh b))), (8, .long (lZ (bx1 sh b))), (6, .long (lZ (bx0 sh b))), (4, .int (if ff then 1 else 0)), (0, .ref m)] ⟨rfl, rfl, rfl, rfl, rfl, rfl, trivial⟩ ?_
                exact T _ _ _ _ e1 e2 e3 e4
            · have k0 : 0 < k := by rcases Nat.eq_zero_or_pos k with q | q; exact absurd (by rw [q]; decide) c4; exact q
              have e3 : ct sh (k - 1) = py0 sh k b := by unfold py0; rw [if_pos ⟨hz, ns, k0⟩]
              refine j_aload_n E dX7_load_178 rfl ?_
              refine j_getfield (ref := "ColourPartsModel") (C := RX7) (T := TX7) (N := 27) (ci := 8) E 7 dX7_load_179 iw_X7_load_X7 rfl (by decide) (by decide +kernel) rfl hM.obj rfl ?_
              refine j_iconst (x := nI 3) E dX7_load_182 (by decide) ?_
              refine j_iload_n E dX7_load_183 rfl ?_
              refine j_imul E dX7_load_184 ?_
              refine J.topi (x' := nI (3 * j)) (pk_mul _ _) ?_
              refine j_iload_n E dX7_load_185 rfl ?_
              refine j_iadd E dX7_load_186 ?_
              refine J.topi (x' := nI (3 * j + k)) (nI_add _ _) ?_
              refine j_iconst (x := nI 1) E dX7_load_187 (by decide) ?_
              refine j_isub E dX7_load_188 ?_
              refine J.topi (x' := nI (3 * j + (k - 1))) (by rw [show 3 * j + k = (3 * j + (k - 1)) + 1 by omega]; exact nI_pred _) ?_
              refine j_laload E (3 * j + (k - 1)) dX7_load_189 (hM.gJ 7 30 (by decide)) rfl (by omega) (by omega) ?_
              refine J.topl (x' := lZ (ct sh (k - 1))) (aK (k - 1) (by omega)) ?_
              refine j_goto E (tgt := 195) dX7_load_190 (by decide) ?_
              refine j_lstore E dX7_load_195 (by decide) ?_
              refine j_iload_n E dX7_load_197 rfl ?_
              refine j_aload_n E dX7_load_198 rfl ?_
              refine j_getfield (ref := "ColourPartsModel") (C := RX7) (T := TX7) (N := 27) (ci := 8) E 8 dX7_load_199 iw_X7_load_X7 rfl (by decide) (by decide +kernel) rfl hM.obj rfl ?_
              refine j_iload_n E dX7_load_202 rfl ?_
              refine j_iaload E j dX7_load_203 (hM.gI 8 10 (by decide)) rfl (by omega) (by omega) ?_
              refine J.topi (x' := nI (nk sh)) (a8) ?_
              refine j_icmp_ge E (tgt := 220) dX7_load_204 (by decide) (fun c5 => ?_) (fun c5 => ?_)
              · have e4 : by1 sh b = py1 sh k b := by unfold py1; rw [if_neg (fun z => nI_ge z.2.2 (by omega) c5)]
                refine j_lload E dX7_load_220 rfl ?_
                refine j_lstore E dX7_load_222 (by decide) ?_
                refine J.sub [(12, .long (lZ (by1 sh b))), (10, .long (lZ (ct sh (k - 1)))), (8, .long (lZ (bx1 sh b))), (6, .long (lZ (bx0 sh b))), (4, .int (if ff then 1 else 0)), (0, .ref m)] ⟨rfl, rfl, rfl, rfl, rfl, rfl, trivial⟩ ?_
                exact T _ _ _ _ e1 e2 e3 e4
              · have kl : k < nk sh := by rcases Nat.lt_or_ge k (nk sh) with q | q; exact q; exact absurd (nI_le q (by omega)) c5
                have e4 : ct sh k = py1 sh k b := by unfold py1; rw [if_pos ⟨hz, ns, kl⟩]
                refine j_aload_n E dX7_load_207 rfl ?_
                refine j_getfield (ref := "ColourPartsModel") (C := RX7) (T := TX7) (N := 27) (ci := 8) E 7 dX7_load_208 iw_X7_load_X7 rfl (by decide) (by decide +kernel) rfl hM.obj rfl ?_
                refine j_iconst (x := nI 3) E dX7_load_211 (by decide) ?_
                refine j_iload_n E dX7_load_212 rfl ?_
                refine j_imul E dX7_load_213 ?_
                refine J.topi (x' := nI (3 * j)) (pk_mul _ _) ?_
                refine j_iload_n E dX7_load_214 rfl ?_
                refine j_iadd E dX7_load_215 ?_
                refine J.topi (x' := nI (3 * j + k)) (nI_add _ _) ?_
                refine j_laload E (3 * j + k) dX7_load_216 (hM.gJ 7 30 (by decide)) rfl (by omega) (by omega) ?_
                refine J.topl (x' := lZ (ct sh k)) (aK k kl) ?_
                refine j_goto E (tgt := 222) dX7_load_217 (by decide) ?_
                refine j_lstore E dX7_load_222 (by decide) ?_
                refine J.sub [(12, .long (lZ (ct sh k))), (10, .long (lZ (ct sh (k - 1)))), (8, .long (lZ (bx1 sh b))), (6, .long (lZ (bx0 sh b))), (4, .int (if ff then 1 else 0)), (0, .ref m)] ⟨rfl, rfl, rfl, rfl, rfl, rfl, trivial⟩ ?_
                exact T _ _ _ _ e1 e2 e3 e4
        · exact absurd (by rw [e]; decide) c2
      · -- standing
        refine j_if_eq E (tgt := 165) dX7_load_109 (by decide) (fun c2 => ?_) (fun c2 => ?_)
        · rw [e] at c2; exact absurd c2 (by decide)
        · have e3 : by0 sh b = py0 sh k b := by unfold py0; rw [if_neg (fun z => z.2.1 e)]
          have e4 : by1 sh b = py1 sh k b := by unfold py1; rw [if_neg (fun z => z.2.1 e)]
          refine j_iload_n E dX7_load_112 rfl ?_
          refine j_if_le E (tgt := 131) dX7_load_113 (by decide) (fun c4 => ?_) (fun c4 => ?_)
          · have k0 : ¬ 0 < k := fun z => nI_nle z (by omega) c4
            have e1 : bx0 sh b = px0 sh k b := by unfold px0; rw [if_neg (fun z => k0 z.2.2)]
            refine j_lload E dX7_load_131 rfl ?_
            refine j_lstore E dX7_load_133 (by decide) ?_
            refine j_iload_n E dX7_load_135 rfl ?_
            refine j_aload_n E dX7_load_136 rfl ?_
            refine j_getfield (ref := "ColourPartsModel") (C := RX7) (T := TX7) (N := 27) (ci := 8) E 8 dX7_load_137 iw_X7_load_X7 rfl (by decide) (by decide +kernel) rfl hM.obj rfl ?_
            refine j_iload_n E dX7_load_140 rfl ?_
            refine j_iaload E j dX7_load_141 (hM.gI 8 10 (by decide)) rfl (by omega) (by omega) ?_
            refine J.topi (x' := nI (nk sh)) (a8) ?_
            refine j_icmp_ge E (tgt := 158) dX7_load_142 (by decide) (fun c5 => ?_) (fun c5 => ?_)
            · have e2 : bx1 sh b = px1 sh k b := by unfold px1; rw [if_neg (fun z => nI_ge z.2.2 (by omega) c5)]
              refine j_lload E dX7_load_158 rfl ?_
              refine j_lstore E dX7_load_160 (by decide) ?_
              refine j_goto E (tgt := 224) dX7_load_162 (by decide) ?_
              refine J.sub [(12, .long (lZ (by1 sh b))), (10, .long (lZ (by0 sh b))), (8, .long (lZ (bx1 sh b))), (6, .long (lZ (bx0 sh b))), (4, .int (if ff then 1 else 0)), (0, .ref m)] ⟨rfl, rfl, rfl, rfl, rfl, rfl, trivial⟩ ?_
              exact T _ _ _ _ e1 e2 e3 e4
            · have kl : k < nk sh := by rcases Nat.lt_or_ge k (nk sh) with q | q; exact q; exact absurd (nI_le q (by omega)) c5
              have e2 : ct sh k = px1 sh k b := by unfold px1; rw [if_pos ⟨hz, e, kl⟩]
              refine j_aload_n E dX7_load_145 rfl ?_
              refine j_getfield (ref := "ColourPartsModel") (C := RX7) (T := TX7) (N := 27) (ci := 8) E 7 dX7_load_146 iw_X7_load_X7 rfl (by decide) (by decide +kernel) rfl hM.obj rfl ?_
              refine j_iconst (x := nI 3) E dX7_load_149 (by decide) ?_
              refine j_iload_n E dX7_load_150 rfl ?_
              refine j_imul E dX7_load_151 ?_
              refine J.topi (x' := nI (3 * j)) (pk_mul _ _) ?_
              refine j_iload_n E dX7_load_152 rfl ?_
              refine j_iadd E dX7_load_153 ?_
              refine J.topi (x' := nI (3 * j + k)) (nI_add _ _) ?_
              refine j_laload E (3 * j + k) dX7_load_154 (hM.gJ 7 30 (by decide)) rfl (by omega) (by omega) ?_
              refine J.topl (x' := lZ (ct sh k)) (aK k kl) ?_
              refine j_goto E (tgt := 160) dX7_load_155 (by decide) ?_
              refine j_lstore E dX7_load_160 (by decide) ?_
              refine j_goto E (tgt := 224) dX7_load_162 (by decide) ?_
              refine J.sub [(12, .long (lZ (by1 sh b))), (10, .long (lZ (by0 sh b))), (8, .long (lZ (ct sh k))), (6, .long (lZ (bx0 sh b))), (4, .int (if ff then 1 else 0)), (0, .ref m)] ⟨rfl, rfl, rfl, rfl, rfl, rfl, trivial⟩ ?_
              exact T _ _ _ _ e1 e2 e3 e4
          · have k0 : 0 < k := by rcases Nat.eq_zero_or_pos k with q | q; exact absurd (by rw [q]; decide) c4; exact q
            have e1 : ct sh (k - 1) = px0 sh k b := by unfold px0; rw [if_pos ⟨hz, e, k0⟩]
            refine j_aload_n E dX7_load_116 rfl ?_
            refine j_getfield (ref := "ColourPartsModel") (C := RX7) (T := TX7) (N := 27) (ci := 8) E 7 dX7_load_117 iw_X7_load_X7 rfl (by decide) (by decide +kernel) rfl hM.obj rfl ?_
            refine j_iconst (x := nI 3) E dX7_load_120 (by decide) ?_
            refine j_iload_n E dX7_load_121 rfl ?_
            refine j_imul E dX7_load_122 ?_
            refine J.topi (x' := nI (3 * j)) (pk_mul _ _) ?_
            refine j_iload_n E dX7_load_123 rfl ?_
            refine j_iadd E dX7_load_124 ?_
            refine J.topi (x' := nI (3 * j + k)) (nI_add _ _) ?_
            refine j_iconst (x := nI 1) E dX7_load_125 (by decide) ?_
            refine j_isub E dX7_load_126 ?_
            refine J.topi (x' := nI (3 * j + (k - 1))) (by rw [show 3 * j + k = (3 * j + (k - 1)) + 1 by omega]; exact nI_pred _) ?_
            refine j_laload E (3 * j + (k - 1)) dX7_load_127 (hM.gJ 7 30 (by decide)) rfl (by omega) (by omega) ?_
            refine J.topl (x' := lZ (ct sh (k - 1))) (aK (k - 1) (by omega)) ?_
            refine j_goto E (tgt := 133) dX7_load_128 (by decide) ?_
            refine j_lstore E dX7_load_133 (by decide) ?_
            refine j_iload_n E dX7_load_135 rfl ?_
            refine j_aload_n E dX7_load_136 rfl ?_
            refine j_getfield (ref := "ColourPartsModel") (C := RX7) (T := TX7) (N := 27) (ci := 8) E 8 dX7_load_137 iw_X7_load_X7 rfl (by decide) (by decide +kernel) rfl hM.obj rfl ?_
            refine j_iload_n E dX7_load_140 rfl ?_
            refine j_iaload E j dX7_load_141 (hM.gI 8 10 (by decide)) rfl (by omega) (by omega) ?_
            refine J.topi (x' := nI (nk sh)) (a8) ?_
            refine j_icmp_ge E (tgt := 158) dX7_load_142 (by decide) (fun c5 => ?_) (fun c5 => ?_)
            · have e2 : bx1 sh b = px1 sh k b := by unfold px1; rw [if_neg (fun z => nI_ge z.2.2 (by omega) c5)]
              refine j_lload E dX7_load_158 rfl ?_
              refine j_lstore E dX7_load_160 (by decide) ?_
              refine j_goto E (tgt := 224) dX7_load_162 (by decide) ?_
              refine J.sub [(12, .long (lZ (by1 sh b))), (10, .long (lZ (by0 sh b))), (8, .long (lZ (bx1 sh b))), (6, .long (lZ (ct sh (k - 1)))), (4, .int (if ff then 1 else 0)), (0, .ref m)] ⟨rfl, rfl, rfl, rfl, rfl, rfl, trivial⟩ ?_
              exact T _ _ _ _ e1 e2 e3 e4
            · have kl : k < nk sh := by rcases Nat.lt_or_ge k (nk sh) with q | q; exact q; exact absurd (nI_le q (by omega)) c5
              have e2 : ct sh k = px1 sh k b := by unfold px1; rw [if_pos ⟨hz, e, kl⟩]
              refine j_aload_n E dX7_load_145 rfl ?_
              refine j_getfield (ref := "ColourPartsModel") (C := RX7) (T := TX7) (N := 27) (ci := 8) E 7 dX7_load_146 iw_X7_load_X7 rfl (by decide) (by decide +kernel) rfl hM.obj rfl ?_
              refine j_iconst (x := nI 3) E dX7_load_149 (by decide) ?_
              refine j_iload_n E dX7_load_150 rfl ?_
              refine j_imul E dX7_load_151 ?_
              refine J.topi (x' := nI (3 * j)) (pk_mul _ _) ?_
              refine j_iload_n E dX7_load_152 rfl ?_
              refine j_iadd E dX7_load_153 ?_
              refine J.topi (x' := nI (3 * j + k)) (nI_add _ _) ?_
              refine j_laload E (3 * j + k) dX7_load_154 (hM.gJ 7 30 (by decide)) rfl (by omega) (by omega) ?_
              refine J.topl (x' := lZ (ct sh k)) (aK k kl) ?_
              refine j_goto E (tgt := 160) dX7_load_155 (by decide) ?_
              refine j_lstore E dX7_load_160 (by decide) ?_
              refine j_goto E (tgt := 224) dX7_load_162 (by decide) ?_
              refine J.sub [(12, .long (lZ (by1 sh b))), (10, .long (lZ (by0 sh b))), (8, .long (lZ (ct sh k))), (6, .long (lZ (ct sh (k - 1)))), (4, .int (if ff then 1 else 0)), (0, .ref m)] ⟨rfl, rfl, rfl, rfl, rfl, rfl, trivial⟩ ?_
              exact T _ _ _ _ e1 e2 e3 e4
  · have e1 : bx0 sh b = px0 sh k b := by unfold px0; rw [if_neg (fun z => hz z.1)]
    have e2 : bx1 sh b = px1 sh k b := by unfold px1; rw [if_neg (fun z => hz z.1)]
    have e3 : by0 sh b = py0 sh k b := by unfold py0; rw [if_neg (fun z => hz z.1)]
    have e4 : by1 sh b = py1 sh k b := by unfold py1; rw [if_neg (fun z => hz z.1)]
    have hz0 : nk sh = 0 := by omega
    refine j_if_le E (tgt := 165) dX7_load_100 (by decide) (fun c => ?_) (fun c => ?_)
    ·
      refine j_aload_n E dX7_load_165 rfl ?_
      refine j_getfield (ref := "ColourPartsModel") (C := RX7) (T := TX7) (N := 27) (ci := 8) E 8 dX7_load_166 iw_X7_load_X7 rfl (by decide) (by decide +kernel) rfl hM.obj rfl ?_
      refine j_iload_n E dX7_load_169 rfl ?_
      refine j_iaload E j dX7_load_170 (hM.gI 8 10 (by decide)) rfl (by omega) (by omega) ?_
      refine J.topi (x' := nI (nk sh)) (a8) ?_
      refine j_if_le E (tgt := 224) dX7_load_171 (by decide) (fun c3 => ?_) (fun c3 => ?_)
      · refine J.sub [(12, .long (lZ (by1 sh b))), (10, .long (lZ (by0 sh b))), (8, .long (lZ (bx1 sh b))), (6, .long (lZ (bx0 sh b))), (4, .int (if ff then 1 else 0)), (0, .ref m)] ⟨rfl, rfl, rfl, rfl, rfl, rfl, trivial⟩ ?_
        exact T _ _ _ _ e1 e2 e3 e4
      · exact absurd (by rw [hz0]; decide) c3
    · exact absurd (by rw [hz0]; decide) c
end M2
