/-! what is asked of the class -/
abbrev eI : String := "java/lang/IndexOutOfBoundsException"
abbrev eS : String := "java/lang/IllegalStateException"
abbrev eA : String := "java/lang/IllegalArgumentException"
theorem cnt_le (S : Nat → Prop) : ∀ n, cnt S n ≤ n
  | 0 => Nat.le_refl _
  | n + 1 => by have := cnt_le S n; have := bN_le (S n); show cnt S n + bN (S n) ≤ n + 1; omega
theorem cnt_congr {S U : Nat → Prop} : ∀ {n : Nat}, (∀ j, j < n → (S j ↔ U j)) → cnt S n = cnt U n
  | 0, _ => rfl
  | n + 1, h => by
    show cnt S n + bN _ = cnt U n + bN _
    rw [cnt_congr (fun j hj => h j (by omega)), propext (h n (by omega))]
theorem cnt_cut {S : Nat → Prop} {n : Nat} (h : ∀ j, n ≤ j → ¬ S j) : ∀ m, n ≤ m → cnt S m = cnt S n
  | 0, hm => by rw [show n = 0 by omega]
  | m + 1, hm => by
    by_cases e : n = m + 1
    · rw [e]
    · show cnt S m + bN _ = _
      rw [cnt_cut h m (by omega), bN_f (h m (by omega)), Nat.add_zero]
def sumN (f : Nat → Nat) : Nat → Nat
  | 0 => 0
  | n + 1 => sumN f n + f n
theorem sumN_congr {f g : Nat → Nat} : ∀ {n : Nat}, (∀ j, j < n → f j = g j) → sumN f n = sumN g n
  | 0, _ => rfl
  | n + 1, h => by
    show sumN f n + _ = sumN g n + _
    rw [sumN_congr (fun j hj => h j (by omega)), h n (by omega)]
theorem sumN_add (f g : Nat → Nat) : ∀ n, sumN (fun i => f i + g i) n = sumN f n + sumN g n
  | 0 => rfl
  | n + 1 => by
    show sumN _ n + (f n + g n) = sumN f n + f n + (sumN g n + g n)
    rw [sumN_add f g n]; omega
theorem sumN_le (f : Nat → Nat) (k : Nat) : ∀ n, (∀ j, j < n → f j ≤ k) → sumN f n ≤ n * k
  | 0, _ => Nat.zero_le _
  | n + 1, h => by
    have h1 := sumN_le f k n (fun j hj => h j (by omega))
    have h2 := h n (by omega)
    show sumN f n + f n ≤ _
    rw [Nat.succ_mul]; omega
theorem sumN_bN (S : Nat → Prop) : ∀ n, sumN (fun i => bN (S i)) n = cnt S n
  | 0 => rfl
  | n + 1 => by show sumN _ n + _ = cnt S n + _; rw [sumN_bN S n]
theorem totC_s (P : Nat → Nat → Prop) (n : Nat) : ∀ i, i ≤ n → totC P (n + 1) i = totC P n i + cnt (fun i => P i n) i
  | 0, _ => rfl
  | i + 1, h => by
    show totC P (n + 1) i + (rowC P i n + bN (i < n ∧ P i n)) = totC P n i + rowC P i n + (cnt (fun i => P i n) i + bN (P i n))
    rw [totC_s P n i (by omega), propext (show (i < n ∧ P i n) ↔ P i n from ⟨And.right, fun z => ⟨by omega, z⟩⟩)]
    omega
theorem dbl {W : Nat → Nat → Prop} (hs : ∀ i j, W i j → W j i) : ∀ n, sumN (fun i => cnt (fun j => j ≠ i ∧ W i j) n) n = 2 * totC W n n
  | 0 => rfl
  | n + 1 => by
    have e1 : sumN (fun i => cnt (fun j => j ≠ i ∧ W i j) (n + 1)) n = sumN (fun i => cnt (fun j => j ≠ i ∧ W i j) n + bN (W i n)) n := sumN_congr (fun i hi => by
      show cnt _ n + bN (n ≠ i ∧ W i n) = cnt _ n + bN _
      rw [propext (show (n ≠ i ∧ W i n) ↔ W i n from ⟨And.right, fun z => ⟨by omega, z⟩⟩)])
    have e2 : cnt (fun j => j ≠ n ∧ W n j) (n + 1) = cnt (fun i => W i n) n := by
      show cnt _ n + bN _ = _
      rw [bN_f (fun z => z.1 rfl), Nat.add_zero]
      exact cnt_congr (fun j hj => ⟨fun z => hs _ _ z.2, fun z => ⟨by omega, hs _ _ z⟩⟩)
    show sumN (fun i => cnt (fun j => j ≠ i ∧ W i j) (n + 1)) n + cnt (fun j => j ≠ n ∧ W n j) (n + 1) = 2 * (totC W (n + 1) n + rowC W n (n + 1))
    rw [e1, e2, sumN_add, dbl hs n, sumN_bN, rowC_0 W n (n + 1) (Nat.le_refl _), totC_s W n n (Nat.le_refl _)]
    omega
def nW (d : Int) (ss : List SH) (i j : Nat) : Prop := nearW d (gS ss i) (gS ss j)
theorem nrB_symm {d : Int} {b c : BB} (h : nrB d b c) : nrB d c b := by
  unfold nrB nearB at *
  rw [show gap c.1 c.2.2.1 b.1 b.2.2.1 = gap b.1 b.2.2.1 c.1 c.2.2.1 by unfold gap; omega, show gap c.2.1 c.2.2.2 b.2.1 b.2.2.2 = gap b.2.1 b.2.2.2 c.2.1 c.2.2.2 by unfold gap; omega]
  exact h
theorem nearW_symm {d : Int} {a b : SH} (h : nearW d a b) : nearW d b a := by
  obtain ⟨i, j, h1, h2, h3⟩ := h
  exact ⟨j, i, h2, h1, nrB_symm h3⟩
theorem iZ_i2l {z : Int} (h1 : -2147483648 ≤ z) (h2 : z < 2147483648) : (iZ z).toInt64 = lZ z := by
  refine Int64.toInt_inj.mp ?_
  rw [Int32.toInt_toInt64, lZ_toInt (by omega) (by omega), iZ_toInt h1 h2]
theorem balN (ps : KPs) (c : Int32) : ∀ n, balU ps c 0 n ≤ n
  | 0 => Int.le_refl _
  | n + 1 => by
    have h1 := balN ps c n
    have h2 : cI (nI (kC ps n) = c) (cI ((0 : Int32) = 0) (1 : Int) (kA ps n)) 0 ≤ 1 := by
      by_cases q : nI (kC ps n) = c
      · rw [cI_t q, cI_t rfl]; decide
      · rw [cI_f q]; decide
    show balU ps c 0 n + _ ≤ _
    omega
section C6
variable {l : Launch} {B E0 : Nat} {D : va_G} {h : HM} {T : Nat → Nat} {c : Nat} {d : Int} {ss : List SH} {kp : Option KPs} {rg : List Nat} {cl : Prop} {gs : List SG} {la le ra : Nat} {kr : Value}
theorem iw_X6_colour_X1 : ∀ w ∈ u_ws RX1 TX1 6, w ∈ wsX6_colour := by decide +kernel
theorem iw_X6_colour_X6 : ∀ w ∈ u_ws RX6 TX6 6, w ∈ wsX6_colour := by decide +kernel
theorem c_colour (v : Nat) (R : CR E0 h T c d ss kp rg cl gs la le ra kr) (hw : wfSS ss) (z : Int32) : CX l B E0 D yX6_colour wsX6_colour (v + 7) 1 6 [.ref c, .int z] h (fun r h1 => h1 = h ∧ ∃ j, j < ss.length ∧ z = nI j ∧ ((∃ ps f, kp = some ps ∧ isF ps j f ∧ r = some (.int (nI (kC ps f)))) ∨ ((∀ ps f, kp = some ps → ¬ isF ps j f) ∧ r = some (.int (-1))))) (fun E h1 => h1 = h ∧ E = eI ∧ ¬ isx z ss.length) := by
  have R1 := R.2.1
  have R2 := R.2.2.2.2.2.2.1
  have h10 := hw.1
  refine CX.of (cc := cX6_colour) (maxL := 2) (ret := (some .int)) (by decide) rfl (Nat.le_of_ble_eq_true rfl) (fun X E htab => ?_)
  show J X B D 2 _ h 0 0 0 [(0, .ref c), (1, .int z)] []
  generalize hQ : jX X B D _ _ _ _ = Q
  refine j_aload_n E dX6_colour_0 rfl ?_
  refine j_iload_n E dX6_colour_1 rfl ?_
  refine j_callX (np := 1) (C := RX6) (T := TX6) (N := 6) (ci := 7) E (c_needShape v R hw z) gX6_colour_X6_needShape rfl ⟨rfl, by decide, by decide, by decide +kernel⟩ dX6_colour_2 (by omega) (by decide) rfl (by first | with_reducible assumption | exact hput_eq _ _ _ | exact (hput_ne _ (by first | assumption | exact Ne.symm (by assumption))).trans (by assumption) | exact (hput_ne _ (by first | assumption | exact Ne.symm (by assumption))).trans (hput_eq _ _ _) | exact (hput_ne _ (by first | assumption | exact Ne.symm (by assumption))).trans ((hput_ne _ (by first | assumption | exact Ne.symm (by assumption))).trans (by assumption)) | exact (hput_ne _ (by first | assumption | exact Ne.symm (by assumption))).trans ((hput_ne _ (by first | assumption | exact Ne.symm (by assumption))).trans (hput_eq _ _ _))) rfl rfl (Nat.le_of_ble_eq_true rfl) (by omega) (by omega) (fun Ex h1 p => by rw [← hQ]; exact j_out E htab ⟨p.2.1, p.1, p.2.2⟩ (by omega) (by omega)) (fun r h1 p => ?_)
  obtain ⟨rfl, rfl, j, hj, rfl⟩ := p
  rcases R2 with ⟨rfl, rfl⟩ | ⟨ps, ko, rfl, rfl, k0, k1, k2, k3, k4, f0, f1, f2, f3, f4, hT, ho, ⟨a0, -⟩, hs, -⟩
  ·
    refine j_aload_n E dX6_colour_5 rfl ?_
    refine j_getfield (ref := "ColourParts") (C := RX6) (T := TX6) (N := 6) (ci := 7) E 4 dX6_colour_6 iw_X6_colour_X6 rfl (by decide) (by decide +kernel) rfl (by first | with_reducible assumption | exact hput_eq _ _ _ | exact (hput_ne _ (by first | assumption | exact Ne.symm (by assumption))).trans (by assumption) | exact (hput_ne _ (by first | assumption | exact Ne.symm (by assumption))).trans (hput_eq _ _ _) | exact (hput_ne _ (by first | assumption | exact Ne.symm (by assumption))).trans ((hput_ne _ (by first | assumption | exact Ne.symm (by assumption))).trans (by assumption)) | exact (hput_ne _ (by first | assumption | exact Ne.symm (by assumption))).trans ((hput_ne _ (by first | assumption | exact Ne.symm (by assumption))).trans (hput_eq _ _ _))) rfl ?_
    refine j_ifnonnullN E dX6_colour_9 ?_
    refine j_iconst (x := (-1)) E dX6_colour_12 (by decide) ?_
    refine j_goto E (tgt := 25) dX6_colour_13 (by decide) ?_
    refine J.wide (k' := 1) (n' := 6) (by omega) (by omega) ?_
    rw [← hQ]
    exact j_x (j_iret E dX6_colour_25 rfl rfl (by omega) (by omega) ⟨rfl, j, hj, rfl, Or.inr ⟨fun ps f z => (by cases z), rfl⟩⟩)
  ·
    refine j_aload_n E dX6_colour_5 rfl ?_
    refine j_getfield (ref := "ColourParts") (C := RX6) (T := TX6) (N := 6) (ci := 7) E 4 dX6_colour_6 iw_X6_colour_X6 rfl (by decide) (by decide +kernel) rfl (by first | with_reducible assumption | exact hput_eq _ _ _ | exact (hput_ne _ (by first | assumption | exact Ne.symm (by assumption))).trans (by assumption) | exact (hput_ne _ (by first | assumption | exact Ne.symm (by assumption))).trans (hput_eq _ _ _) | exact (hput_ne _ (by first | assumption | exact Ne.symm (by assumption))).trans ((hput_ne _ (by first | assumption | exact Ne.symm (by assumption))).trans (by assumption)) | exact (hput_ne _ (by first | assumption | exact Ne.symm (by assumption))).trans ((hput_ne _ (by first | assumption | exact Ne.symm (by assumption))).trans (hput_eq _ _ _))) rfl ?_
    refine j_ifnonnull E (tgt := 16) dX6_colour_9 (by decide) ?_
    refine j_aload_n E dX6_colour_16 rfl ?_
    refine j_getfield (ref := "ColourParts") (C := RX6) (T := TX6) (N := 6) (ci := 7) E 4 dX6_colour_17 iw_X6_colour_X6 rfl (by decide) (by decide +kernel) rfl (by first | with_reducible assumption | exact hput_eq _ _ _ | exact (hput_ne _ (by first | assumption | exact Ne.symm (by assumption))).trans (by assumption) | exact (hput_ne _ (by first | assumption | exact Ne.symm (by assumption))).trans (hput_eq _ _ _) | exact (hput_ne _ (by first | assumption | exact Ne.symm (by assumption))).trans ((hput_ne _ (by first | assumption | exact Ne.symm (by assumption))).trans (by assumption)) | exact (hput_ne _ (by first | assumption | exact Ne.symm (by assumption))).trans ((hput_ne _ (by first | assumption | exact Ne.symm (by assumption))).trans (hput_eq _ _ _))) rfl ?_
    refine j_getfield (ref := "ColourParts$Colouring") (C := RX1) (T := TX1) (N := 6) (ci := 2) E 0 dX6_colour_20 iw_X6_colour_X1 rfl (by decide) (by decide +kernel) rfl (by first | with_reducible assumption | exact hput_eq _ _ _ | exact (hput_ne _ (by first | assumption | exact Ne.symm (by assumption))).trans (by assumption) | exact (hput_ne _ (by first | assumption | exact Ne.symm (by assumption))).trans (hput_eq _ _ _) | exact (hput_ne _ (by first | assumption | exact Ne.symm (by assumption))).trans ((hput_ne _ (by first | assumption | exact Ne.symm (by assumption))).trans (by assumption)) | exact (hput_ne _ (by first | assumption | exact Ne.symm (by assumption))).trans ((hput_ne _ (by first | assumption | exact Ne.symm (by assumption))).trans (hput_eq _ _ _))) rfl ?_
    refine j_iload_n E dX6_colour_23 rfl ?_
    refine j_iaload E j dX6_colour_24 (by first | with_reducible assumption | exact hput_eq _ _ _ | exact (hput_ne _ (by first | assumption | exact Ne.symm (by assumption))).trans (by assumption) | exact (hput_ne _ (by first | assumption | exact Ne.symm (by assumption))).trans (hput_eq _ _ _) | exact (hput_ne _ (by first | assumption | exact Ne.symm (by assumption))).trans ((hput_ne _ (by first | assumption | exact Ne.symm (by assumption))).trans (by assumption)) | exact (hput_ne _ (by first | assumption | exact Ne.symm (by assumption))).trans ((hput_ne _ (by first | assumption | exact Ne.symm (by assumption))).trans (hput_eq _ _ _))) rfl (by omega) (by omega) ?_
    refine J.wide (k' := 1) (n' := 6) (by omega) (by omega) ?_
    rw [← hQ]
    refine j_x (j_iret E dX6_colour_25 rfl rfl (by omega) (by omega) ⟨rfl, j, hj, rfl, ?_⟩)
    rcases (hs j (by omega)).1 with ⟨f, hf, e⟩ | ⟨hf, e⟩
    · exact Or.inl ⟨ps, f, rfl, hf, by rw [e]⟩
    · exact Or.inr ⟨fun ps2 f z => by cases z; exact hf f, by rw [e]⟩
theorem iw_X6_used_X1 : ∀ w ∈ u_ws RX1 TX1 6, w ∈ wsX6_used := by decide +kernel
theorem iw_X6_used_X6 : ∀ w ∈ u_ws RX6 TX6 6, w ∈ wsX6_used := by decide +kernel
theorem c_used (v : Nat) (R : CR E0 h T c d ss kp rg cl gs la le ra kr) (hw : wfSS ss) (z k : Int32) : CX l B E0 D yX6_used wsX6_used (v + 7) 2 12 [.ref c, .int z, .int k] h (fun r h1 => h1 = h ∧ ∃ j q ps, j < ss.length ∧ z = nI j ∧ q < 12 ∧ k = nI q ∧ kp = some ps ∧ usedOK kp j q ∧ r = some (.int (bI (usB ps j q)))) (fun E h1 => h1 = h ∧ E = eI ∧ ¬ ∃ j K, j < ss.length ∧ z = nI j ∧ K < 2 ^ 31 ∧ k = nI K ∧ usedOK kp j K) := by
  have R1 := R.2.1
  have R2 := R.2.2.2.2.2.2.1
  have h10 := hw.1
  refine CX.of (cc := cX6_used) (maxL := 3) (ret := (some .boolean)) (by decide) rfl (Nat.le_of_ble_eq_true rfl) (fun X E htab => ?_)
  show J X B D 3 _ h 0 0 0 [(0, .ref c), (1, .int z), (2, .int k)] []
  generalize hQ : jX X B D _ _ _ _ = Q
  refine j_aload_n E dX6_used_0 rfl ?_
  refine j_iload_n E dX6_used_1 rfl ?_
  refine j_callX (np := 1) (C := RX6) (T := TX6) (N := 6) (ci := 7) E (c_needShape v R hw z) gX6_used_X6_needShape rfl ⟨rfl, by decide, by decide, by decide +kernel⟩ dX6_used_2 (by omega) (by decide) rfl (by first | with_reducible assumption | exact hput_eq _ _ _ | exact (hput_ne _ (by first | assumption | exact Ne.symm (by assumption))).trans (by assumption) | exact (hput_ne _ (by first | assumption | exact Ne.symm (by assumption))).trans (hput_eq _ _ _) | exact (hput_ne _ (by first | assumption | exact Ne.symm (by assumption))).trans ((hput_ne _ (by first | assumption | exact Ne.symm (by assumption))).trans (by assumption)) | exact (hput_ne _ (by first | assumption | exact Ne.symm (by assumption))).trans ((hput_ne _ (by first | assumption | exact Ne.symm (by assumption))).trans (hput_eq _ _ _))) rfl rfl (Nat.le_of_ble_eq_true rfl) (by omega) (by omega) (fun Ex h1 p => by rw [← hQ]; exact j_out E htab ⟨p.2.1, p.1, fun w => p.2.2 (w.elim fun j hj => ⟨j, hj.elim fun _ hk => hk.1, hj.elim fun _ hk => hk.2.1⟩)⟩ (by omega) (by omega)) (fun r h1 p => ?_)
  obtain ⟨rfl, rfl, j, hj, rfl⟩ := p
  have noj : ∀ {p : Prop}, (∀ K, K < 2 ^ 31 → k = nI K → ¬ usedOK kp j K) → ¬ ∃ j2 K, j2 < ss.length ∧ nI j = nI j2 ∧ K < 2 ^ 31 ∧ k = nI K ∧ usedOK kp j2 K := by
    intro _ hno
    rintro ⟨j2, K, h1, h2, h3, h4, h5⟩
    rw [← (nI_eq (show j < 2 ^ 31 by omega) (by omega)).mp h2] at h5
    exact hno K h3 h4 h5
  rcases R2 with ⟨rfl, rfl⟩ | ⟨ps, ko, rfl, rfl, k0, k1, k2, k3, k4, f0, f1, f2, f3, f4, hT, ho, ⟨-, a1, a2, -⟩, hs, -⟩
  ·
    refine j_aload_n E dX6_used_5 rfl ?_
    refine j_getfield (ref := "ColourParts") (C := RX6) (T := TX6) (N := 6) (ci := 7) E 4 dX6_used_6 iw_X6_used_X6 rfl (by decide) (by decide +kernel) rfl (by first | with_reducible assumption | exact hput_eq _ _ _ | exact (hput_ne _ (by first | assumption | exact Ne.symm (by assumption))).trans (by assumption) | exact (hput_ne _ (by first | assumption | exact Ne.symm (by assumption))).trans (hput_eq _ _ _) | exact (hput_ne _ (by first | assumption | exact Ne.symm (by assumption))).trans ((hput_ne _ (by first | assumption | exact Ne.symm (by assumption))).trans (by assumption)) | exact (hput_ne _ (by first | assumption | exact Ne.symm (by assumption))).trans ((hput_ne _ (by first | assumption | exact Ne.symm (by assumption))).trans (hput_eq _ _ _))) rfl ?_
    refine j_ifnullN E (tgt := 29) dX6_used_9 (by decide) ?_
    rw [← hQ]
    exact j_throw (cls := "java/lang/IndexOutOfBoundsException") (text := "no such stitch") (ik := 153) (is := 197) (ic := 157) E htab dX6_used_29 dX6_used_32 dX6_used_33 dX6_used_35 dX6_used_38 (by decide) (by decide +kernel) (by decide +kernel) (by decide) (by decide +kernel) (by decide +kernel) (by decide +kernel) (by omega) (Nat.le_of_ble_eq_true rfl) (by omega) (by omega) ⟨rfl, rfl, noj (p := True) (fun K _ _ w => by obtain ⟨ps, f, e, -⟩ := w; cases e)⟩
  · obtain ⟨-, ⟨n, n12, hn, hK⟩, hus⟩ := hs j (by omega)
    refine j_aload_n E dX6_used_5 rfl ?_
    refine j_getfield (ref := "ColourParts") (C := RX6) (T := TX6) (N := 6) (ci := 7) E 4 dX6_used_6 iw_X6_used_X6 rfl (by decide) (by decide +kernel) rfl (by first | with_reducible assumption | exact hput_eq _ _ _ | exact (hput_ne _ (by first | assumption | exact Ne.symm (by assumption))).trans (by assumption) | exact (hput_ne _ (by first | assumption | exact Ne.symm (by assumption))).trans (hput_eq _ _ _) | exact (hput_ne _ (by first | assumption | exact Ne.symm (by assumption))).trans ((hput_ne _ (by first | assumption | exact Ne.symm (by assumption))).trans (by assumption)) | exact (hput_ne _ (by first | assumption | exact Ne.symm (by assumption))).trans ((hput_ne _ (by first | assumption | exact Ne.symm (by assumption))).trans (hput_eq _ _ _))) rfl ?_
    refine j_ifnull E dX6_used_9 ?_
    refine j_iload_n E dX6_used_12 rfl ?_
    refine j_if_lt E (tgt := 29) dX6_used_13 (by decide) (fun c1 => ?_) (fun c1 => ?_)
    ·
      rw [← hQ]
      exact j_throw (cls := "java/lang/IndexOutOfBoundsException") (text := "no such stitch") (ik := 153) (is := 197) (ic := 157) E htab dX6_used_29 dX6_used_32 dX6_used_33 dX6_used_35 dX6_used_38 (by decide) (by decide +kernel) (by decide +kernel) (by decide) (by decide +kernel) (by decide +kernel) (by decide +kernel) (by omega) (Nat.le_of_ble_eq_true rfl) (by omega) (by omega) ⟨rfl, rfl, noj (p := True) (fun K h3 h4 w => by rw [h4] at c1; exact nI_pos h3 c1)⟩
    ·
      refine j_iload_n E dX6_used_16 rfl ?_
      refine j_aload_n E dX6_used_17 rfl ?_
      refine j_getfield (ref := "ColourParts") (C := RX6) (T := TX6) (N := 6) (ci := 7) E 4 dX6_used_18 iw_X6_used_X6 rfl (by decide) (by decide +kernel) rfl (by first | with_reducible assumption | exact hput_eq _ _ _ | exact (hput_ne _ (by first | assumption | exact Ne.symm (by assumption))).trans (by assumption) | exact (hput_ne _ (by first | assumption | exact Ne.symm (by assumption))).trans (hput_eq _ _ _) | exact (hput_ne _ (by first | assumption | exact Ne.symm (by assumption))).trans ((hput_ne _ (by first | assumption | exact Ne.symm (by assumption))).trans (by assumption)) | exact (hput_ne _ (by first | assumption | exact Ne.symm (by assumption))).trans ((hput_ne _ (by first | assumption | exact Ne.symm (by assumption))).trans (hput_eq _ _ _))) rfl ?_
      refine j_getfield (ref := "ColourParts$Colouring") (C := RX1) (T := TX1) (N := 6) (ci := 2) E 1 dX6_used_21 iw_X6_used_X1 rfl (by decide) (by decide +kernel) rfl (by first | with_reducible assumption | exact hput_eq _ _ _ | exact (hput_ne _ (by first | assumption | exact Ne.symm (by assumption))).trans (by assumption) | exact (hput_ne _ (by first | assumption | exact Ne.symm (by assumption))).trans (hput_eq _ _ _) | exact (hput_ne _ (by first | assumption | exact Ne.symm (by assumption))).trans ((hput_ne _ (by first | assumption | exact Ne.symm (by assumption))).trans (by assumption)) | exact (hput_ne _ (by first | assumption | exact Ne.symm (by assumption))).trans ((hput_ne _ (by first | assumption | exact Ne.symm (by assumption))).trans (hput_eq _ _ _))) rfl ?_
      refine j_iload_n E dX6_used_24 rfl ?_
      refine j_iaload E j dX6_used_25 (by first | with_reducible assumption | exact hput_eq _ _ _ | exact (hput_ne _ (by first | assumption | exact Ne.symm (by assumption))).trans (by assumption) | exact (hput_ne _ (by first | assumption | exact Ne.symm (by assumption))).trans (hput_eq _ _ _) | exact (hput_ne _ (by first | assumption | exact Ne.symm (by assumption))).trans ((hput_ne _ (by first | assumption | exact Ne.symm (by assumption))).trans (by assumption)) | exact (hput_ne _ (by first | assumption | exact Ne.symm (by assumption))).trans ((hput_ne _ (by first | assumption | exact Ne.symm (by assumption))).trans (hput_eq _ _ _))) rfl (by omega) (by omega) ?_
      refine J.topi (x' := nI n) (hn) ?_
      refine j_icmp_lt E (tgt := 39) dX6_used_26 (by decide) (fun c2 => ?_) (fun c2 => ?_)
      · obtain ⟨q, hq, rfl⟩ := isx_lt (show n < 2 ^ 31 by omega) c1 (Int32.not_le.mpr c2)
        refine J.wide (k' := 2) (n' := 12) (by omega) (by omega) ?_
        refine j_aload_n E dX6_used_39 rfl ?_
        refine j_getfield (ref := "ColourParts") (C := RX6) (T := TX6) (N := 6) (ci := 7) E 4 dX6_used_40 iw_X6_used_X6 rfl (by decide) (by decide +kernel) rfl (by first | with_reducible assumption | exact hput_eq _ _ _ | exact (hput_ne _ (by first | assumption | exact Ne.symm (by assumption))).trans (by assumption) | exact (hput_ne _ (by first | assumption | exact Ne.symm (by assumption))).trans (hput_eq _ _ _) | exact (hput_ne _ (by first | assumption | exact Ne.symm (by assumption))).trans ((hput_ne _ (by first | assumption | exact Ne.symm (by assumption))).trans (by assumption)) | exact (hput_ne _ (by first | assumption | exact Ne.symm (by assumption))).trans ((hput_ne _ (by first | assumption | exact Ne.symm (by assumption))).trans (hput_eq _ _ _))) rfl ?_
        refine j_getfield (ref := "ColourParts$Colouring") (C := RX1) (T := TX1) (N := 6) (ci := 2) E 2 dX6_used_43 iw_X6_used_X1 rfl (by decide) (by decide +kernel) rfl (by first | with_reducible assumption | exact hput_eq _ _ _ | exact (hput_ne _ (by first | assumption | exact Ne.symm (by assumption))).trans (by assumption) | exact (hput_ne _ (by first | assumption | exact Ne.symm (by assumption))).trans (hput_eq _ _ _) | exact (hput_ne _ (by first | assumption | exact Ne.symm (by assumption))).trans ((hput_ne _ (by first | assumption | exact Ne.symm (by assumption))).trans (by assumption)) | exact (hput_ne _ (by first | assumption | exact Ne.symm (by assumption))).trans ((hput_ne _ (by first | assumption | exact Ne.symm (by assumption))).trans (hput_eq _ _ _))) rfl ?_
        refine j_iload_n E dX6_used_46 rfl ?_
        refine j_iaload E j dX6_used_47 (by first | with_reducible assumption | exact hput_eq _ _ _ | exact (hput_ne _ (by first | assumption | exact Ne.symm (by assumption))).trans (by assumption) | exact (hput_ne _ (by first | assumption | exact Ne.symm (by assumption))).trans (hput_eq _ _ _) | exact (hput_ne _ (by first | assumption | exact Ne.symm (by assumption))).trans ((hput_ne _ (by first | assumption | exact Ne.symm (by assumption))).trans (by assumption)) | exact (hput_ne _ (by first | assumption | exact Ne.symm (by assumption))).trans ((hput_ne _ (by first | assumption | exact Ne.symm (by assumption))).trans (hput_eq _ _ _))) rfl (by omega) (by omega) ?_
        refine J.topi (x' := bS (usB ps j)) (hus) ?_
        refine j_iload_n E dX6_used_48 rfl ?_
        refine j_ishr E dX6_used_49 ?_
        refine j_iconst (x := nI 1) E dX6_used_50 (by decide) ?_
        refine j_iand E dX6_used_51 ?_
        refine J.topi (x' := bI (usB ps j q)) (bS_has _ (by omega)) ?_
        refine j_if_eq E (tgt := 59) dX6_used_52 (by decide) (fun c3 => ?_) (fun c3 => ?_)
        ·
          refine j_iconst (x := nI 0) E dX6_used_59 (by decide) ?_
          refine J.topi (x' := bI (usB ps j q)) (c3.symm) ?_
          rw [← hQ]
          exact j_x (j_iret E dX6_used_60 rfl (nb_bI _) (by omega) (by omega) ⟨rfl, j, q, ps, hj, rfl, by omega, rfl, rfl, (hK q).mp hq, rfl⟩)
        ·
          refine j_iconst (x := nI 1) E dX6_used_55 (by decide) ?_
          refine J.topi (x' := bI (usB ps j q)) ((bI_t (bI_n.mp c3)).symm) ?_
          refine j_goto E (tgt := 60) dX6_used_56 (by decide) ?_
          rw [← hQ]
          exact j_x (j_iret E dX6_used_60 rfl (nb_bI _) (by omega) (by omega) ⟨rfl, j, q, ps, hj, rfl, by omega, rfl, rfl, (hK q).mp hq, rfl⟩)
      ·
        rw [← hQ]
        exact j_throw (cls := "java/lang/IndexOutOfBoundsException") (text := "no such stitch") (ik := 153) (is := 197) (ic := 157) E htab dX6_used_29 dX6_used_32 dX6_used_33 dX6_used_35 dX6_used_38 (by decide) (by decide +kernel) (by decide +kernel) (by decide) (by decide +kernel) (by decide +kernel) (by decide +kernel) (by omega) (Nat.le_of_ble_eq_true rfl) (by omega) (by omega) ⟨rfl, rfl, noj (p := True) (fun K h3 h4 w => by rw [h4] at c2; exact c2 (nI_lt ((hK K).mpr w) (by omega)))⟩
theorem iw_X6_balance_X1 : ∀ w ∈ u_ws RX1 TX1 6, w ∈ wsX6_balance := by decide +kernel
theorem iw_X6_balance_X6 : ∀ w ∈ u_ws RX6 TX6 6, w ∈ wsX6_balance := by decide +kernel
theorem c_balance (v : Nat) (R : CR E0 h T c d ss kp rg cl gs la le ra kr) (hk : wfK kp) (z p : Int32) : CX l B E0 D yX6_balance wsX6_balance (v + 6) 1 6 [.ref c, .int z, .int p] h (fun r h1 => h1 = h ∧ cdBal z p = 0 ∧ (kp = none → r = some (.long (lZ 0))) ∧ ∀ ps, kp = some ps → r = some (.long (lZ (balU ps z p ps.length)))) (fun E h1 => h1 = h ∧ ((E = eI ∧ cdBal z p = 1) ∨ (E = eA ∧ cdBal z p = 2))) := by
  have R1 := R.2.1
  have R2 := R.2.2.2.2.2.2.1
  refine CX.of (cc := cX6_balance) (maxL := 3) (ret := (some .long)) (by decide) rfl (Nat.le_of_ble_eq_true rfl) (fun X E htab => ?_)
  show J X B D 3 _ h 0 0 0 [(0, .ref c), (1, .int z), (2, .int p)] []
  generalize hQ : jX X B D _ _ _ _ = Q
  refine j_iload_n E dX6_balance_0 rfl ?_
  refine j_if_lt E (tgt := 9) dX6_balance_1 (by decide) (fun c1 => ?_) (fun c1 => ?_)
  ·
    rw [← hQ]
    exact j_throw (cls := "java/lang/IndexOutOfBoundsException") (text := "no such part") (ik := 153) (is := 202) (ic := 157) E htab dX6_balance_9 dX6_balance_12 dX6_balance_13 dX6_balance_15 dX6_balance_18 (by decide) (by decide +kernel) (by decide +kernel) (by decide) (by decide +kernel) (by decide +kernel) (by decide +kernel) (by omega) (Nat.le_of_ble_eq_true rfl) (by omega) (by omega) ⟨rfl, Or.inl ⟨rfl, cI_t (Or.inl c1)⟩⟩
  ·
    refine j_iload_n E dX6_balance_4 rfl ?_
    refine j_iconst (x := nI 1) E dX6_balance_5 (by decide) ?_
    refine j_icmp_le E (tgt := 19) dX6_balance_6 (by decide) (fun c2 => ?_) (fun c2 => ?_)
    · have hp : ¬ (p < 0 ∨ nI 1 < p) := fun w => w.elim c1 (Int32.not_lt.mpr c2)
      refine j_iload_n E dX6_balance_19 rfl ?_
      refine j_callS (np := 1) E (c_isNoColour v z) gX6_balance_X6_isNoColour rfl ⟨by decide, by decide, by decide +kernel⟩ dX6_balance_20 (by omega) (by decide) rfl rfl (Nat.le_of_ble_eq_true rfl) (by omega) (by omega) (fun r9 h9 p9 => J.pure p9 ?_)
      refine J.wide (k' := 0) (n' := 0) (by omega) (by omega) ?_
      refine j_if_eq E (tgt := 36) dX6_balance_23 (by decide) (fun c3 => ?_) (fun c3 => ?_)
      · have hz := bI_z.mp c3
        have h0 : cdBal z p = 0 := by unfold cdBal; rw [cI_f hp, cI_f hz]
        rcases R2 with ⟨rfl, rfl⟩ | ⟨ps, ko, rfl, rfl, k0, k1, k2, k3, k4, f0, f1, f2, f3, f4, hT, ho, ⟨-, -, -, a3, a4⟩, -, hc⟩
        ·
          refine j_aload_n E dX6_balance_36 rfl ?_
          refine j_getfield (ref := "ColourParts") (C := RX6) (T := TX6) (N := 6) (ci := 7) E 4 dX6_balance_37 iw_X6_balance_X6 rfl (by decide) (by decide +kernel) rfl (by first | with_reducible assumption | exact hput_eq _ _ _ | exact (hput_ne _ (by first | assumption | exact Ne.symm (by assumption))).trans (by assumption) | exact (hput_ne _ (by first | assumption | exact Ne.symm (by assumption))).trans (hput_eq _ _ _) | exact (hput_ne _ (by first | assumption | exact Ne.symm (by assumption))).trans ((hput_ne _ (by first | assumption | exact Ne.symm (by assumption))).trans (by assumption)) | exact (hput_ne _ (by first | assumption | exact Ne.symm (by assumption))).trans ((hput_ne _ (by first | assumption | exact Ne.symm (by assumption))).trans (hput_eq _ _ _))) rfl ?_
          refine j_ifnonnullN E dX6_balance_40 ?_
          refine j_lconst (x := lZ 0) E dX6_balance_43 (by decide) ?_
          refine J.wide (k' := 1) (n' := 6) (by omega) (by omega) ?_
          rw [← hQ]
          exact j_x (j_lret E dX6_balance_44 rfl (by omega) (by omega) ⟨rfl, h0, fun _ => rfl, fun ps w => (by cases w)⟩)
        · obtain ⟨q, hq, rfl⟩ := isx_lt (n := 4) (by decide) (fun w => hz (Or.inl w)) (fun w => hz (Or.inr (by
            rw [Int32.lt_iff_toInt_lt]
            rw [Int32.le_iff_toInt_le, show (nI 4).toInt = 4 by decide] at w
            rw [show (nI 3).toInt = 3 by decide]; omega)))
          obtain ⟨b3, b4⟩ := hc q hq
          refine J.wide (k' := 1) (n' := 6) (by omega) (by omega) ?_
          refine j_aload_n E dX6_balance_36 rfl ?_
          refine j_getfield (ref := "ColourParts") (C := RX6) (T := TX6) (N := 6) (ci := 7) E 4 dX6_balance_37 iw_X6_balance_X6 rfl (by decide) (by decide +kernel) rfl (by first | with_reducible assumption | exact hput_eq _ _ _ | exact (hput_ne _ (by first | assumption | exact Ne.symm (by assumption))).trans (by assumption) | exact (hput_ne _ (by first | assumption | exact Ne.symm (by assumption))).trans (hput_eq _ _ _) | exact (hput_ne _ (by first | assumption | exact Ne.symm (by assumption))).trans ((hput_ne _ (by first | assumption | exact Ne.symm (by assumption))).trans (by assumption)) | exact (hput_ne _ (by first | assumption | exact Ne.symm (by assumption))).trans ((hput_ne _ (by first | assumption | exact Ne.symm (by assumption))).trans (hput_eq _ _ _))) rfl ?_
          refine j_ifnonnull E (tgt := 45) dX6_balance_40 (by decide) ?_
          refine j_iload_n E dX6_balance_45 rfl ?_
          refine j_if_ne E (tgt := 62) dX6_balance_46 (by decide) (fun c4 => ?_) (fun c4 => ?_)
          · have hp1 : p = 1 := by
              obtain ⟨i, hi, rfl⟩ := isx_lt (z := p) (n := 2) (by decide) c1 (fun w => by
                rw [Int32.le_iff_toInt_le, show (nI 2).toInt = 2 by decide] at w
                rw [Int32.le_iff_toInt_le, show (nI 1).toInt = 1 by decide] at c2
                omega)
              have : i = 1 := by
                have : i ≠ 0 := fun e => c4 (by rw [e]; rfl)
                omega
              rw [this]; rfl
            subst hp1
            refine j_aload_n E dX6_balance_62 rfl ?_
            refine j_getfield (ref := "ColourParts") (C := RX6) (T := TX6) (N := 6) (ci := 7) E 4 dX6_balance_63 iw_X6_balance_X6 rfl (by decide) (by decide +kernel) rfl (by first | with_reducible assumption | exact hput_eq _ _ _ | exact (hput_ne _ (by first | assumption | exact Ne.symm (by assumption))).trans (by assumption) | exact (hput_ne _ (by first | assumption | exact Ne.symm (by assumption))).trans (hput_eq _ _ _) | exact (hput_ne _ (by first | assumption | exact Ne.symm (by assumption))).trans ((hput_ne _ (by first | assumption | exact Ne.symm (by assumption))).trans (by assumption)) | exact (hput_ne _ (by first | assumption | exact Ne.symm (by assumption))).trans ((hput_ne _ (by first | assumption | exact Ne.symm (by assumption))).trans (hput_eq _ _ _))) rfl ?_
            refine j_getfield (ref := "ColourParts$Colouring") (C := RX1) (T := TX1) (N := 6) (ci := 2) E 4 dX6_balance_66 iw_X6_balance_X1 rfl (by decide) (by decide +kernel) rfl (by first | with_reducible assumption | exact hput_eq _ _ _ | exact (hput_ne _ (by first | assumption | exact Ne.symm (by assumption))).trans (by assumption) | exact (hput_ne _ (by first | assumption | exact Ne.symm (by assumption))).trans (hput_eq _ _ _) | exact (hput_ne _ (by first | assumption | exact Ne.symm (by assumption))).trans ((hput_ne _ (by first | assumption | exact Ne.symm (by assumption))).trans (by assumption)) | exact (hput_ne _ (by first | assumption | exact Ne.symm (by assumption))).trans ((hput_ne _ (by first | assumption | exact Ne.symm (by assumption))).trans (hput_eq _ _ _))) rfl ?_
            refine j_iload_n E dX6_balance_69 rfl ?_
            refine j_laload E q dX6_balance_70 (by first | with_reducible assumption | exact hput_eq _ _ _ | exact (hput_ne _ (by first | assumption | exact Ne.symm (by assumption))).trans (by assumption) | exact (hput_ne _ (by first | assumption | exact Ne.symm (by assumption))).trans (hput_eq _ _ _) | exact (hput_ne _ (by first | assumption | exact Ne.symm (by assumption))).trans ((hput_ne _ (by first | assumption | exact Ne.symm (by assumption))).trans (by assumption)) | exact (hput_ne _ (by first | assumption | exact Ne.symm (by assumption))).trans ((hput_ne _ (by first | assumption | exact Ne.symm (by assumption))).trans (hput_eq _ _ _))) rfl (by omega) (by omega) ?_
            refine J.topl (x' := lZ (balU ps (nI q) 1 ps.length)) (b4) ?_
            rw [← hQ]
            exact j_x (j_lret E dX6_balance_71 rfl (by omega) (by omega) ⟨rfl, h0, fun w => (by cases w), fun ps2 w => (by cases w; rfl)⟩)
          · subst c4
            have hb := balU_b hk rfl (nI q) 0 ps.length (Nat.le_refl _)
            have hb1 := balN ps (nI q) ps.length
            refine j_aload_n E dX6_balance_49 rfl ?_
            refine j_getfield (ref := "ColourParts") (C := RX6) (T := TX6) (N := 6) (ci := 7) E 4 dX6_balance_50 iw_X6_balance_X6 rfl (by decide) (by decide +kernel) rfl (by first | with_reducible assumption | exact hput_eq _ _ _ | exact (hput_ne _ (by first | assumption | exact Ne.symm (by assumption))).trans (by assumption) | exact (hput_ne _ (by first | assumption | exact Ne.symm (by assumption))).trans (hput_eq _ _ _) | exact (hput_ne _ (by first | assumption | exact Ne.symm (by assumption))).trans ((hput_ne _ (by first | assumption | exact Ne.symm (by assumption))).trans (by assumption)) | exact (hput_ne _ (by first | assumption | exact Ne.symm (by assumption))).trans ((hput_ne _ (by first | assumption | exact Ne.symm (by assumption))).trans (hput_eq _ _ _))) rfl ?_
            refine j_getfield (ref := "ColourParts$Colouring") (C := RX1) (T := TX1) (N := 6) (ci := 2) E 3 dX6_balance_53 iw_X6_balance_X1 rfl (by decide) (by decide +kernel) rfl (by first | with_reducible assumption | exact hput_eq _ _ _ | exact (hput_ne _ (by first | assumption | exact Ne.symm (by assumption))).trans (by assumption) | exact (hput_ne _ (by first | assumption | exact Ne.symm (by assumption))).trans (hput_eq _ _ _) | exact (hput_ne _ (by first | assumption | exact Ne.symm (by assumption))).trans ((hput_ne _ (by first | assumption | exact Ne.symm (by assumption))).trans (by assumption)) | exact (hput_ne _ (by first | assumption | exact Ne.symm (by assumption))).trans ((hput_ne _ (by first | assumption | exact Ne.symm (by assumption))).trans (hput_eq _ _ _))) rfl ?_
            refine j_iload_n E dX6_balance_56 rfl ?_
            refine j_iaload E q dX6_balance_57 (by first | with_reducible assumption | exact hput_eq _ _ _ | exact (hput_ne _ (by first | assumption | exact Ne.symm (by assumption))).trans (by assumption) | exact (hput_ne _ (by first | assumption | exact Ne.symm (by assumption))).trans (hput_eq _ _ _) | exact (hput_ne _ (by first | assumption | exact Ne.symm (by assumption))).trans ((hput_ne _ (by first | assumption | exact Ne.symm (by assumption))).trans (by assumption)) | exact (hput_ne _ (by first | assumption | exact Ne.symm (by assumption))).trans ((hput_ne _ (by first | assumption | exact Ne.symm (by assumption))).trans (hput_eq _ _ _))) rfl (by omega) (by omega) ?_
            refine J.topi (x' := iZ (balU ps (nI q) 0 ps.length)) (b3) ?_
            refine j_i2l E dX6_balance_58 ?_
            refine J.topl (x' := lZ (balU ps (nI q) 0 ps.length)) (iZ_i2l (by have := (hk ps rfl).1; omega) (by have := (hk ps rfl).1; omega)) ?_
            refine j_goto E (tgt := 71) dX6_balance_59 (by decide) ?_
            rw [← hQ]
            exact j_x (j_lret E dX6_balance_71 rfl (by omega) (by omega) ⟨rfl, h0, fun w => (by cases w), fun ps2 w => (by cases w; rfl)⟩)
      ·
        rw [← hQ]
        exact j_throw (cls := "java/lang/IllegalArgumentException") (text := "no such colour") (ik := 88) (is := 162) (ic := 92) E htab dX6_balance_26 dX6_balance_29 dX6_balance_30 dX6_balance_32 dX6_balance_35 (by decide) (by decide +kernel) (by decide +kernel) (by decide) (by decide +kernel) (by decide +kernel) (by decide +kernel) (by omega) (Nat.le_of_ble_eq_true rfl) (by omega) (by omega) ⟨rfl, Or.inr ⟨rfl, by unfold cdBal; rw [cI_f hp, cI_t (bI_n.mp c3)]⟩⟩
    ·
      rw [← hQ]
      exact j_throw (cls := "java/lang/IndexOutOfBoundsException") (text := "no such part") (ik := 153) (is := 202) (ic := 157) E htab dX6_balance_9 dX6_balance_12 dX6_balance_13 dX6_balance_15 dX6_balance_18 (by decide) (by decide +kernel) (by decide +kernel) (by decide) (by decide +kernel) (by decide +kernel) (by decide +kernel) (by omega) (Nat.le_of_ble_eq_true rfl) (by omega) (by omega) ⟨rfl, Or.inl ⟨rfl, cI_t (Or.inr (Int32.not_le.mp c2))⟩⟩
end C6
