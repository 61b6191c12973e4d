/-! the reference's reading methods -/
noncomputable def bI (p : Prop) : Int32 := @ite Int32 p (Classical.propDecidable p) 1 0
theorem bI_t {p : Prop} (hp : p) : bI p = 1 := @if_pos p (Classical.propDecidable p) hp _ _ _
theorem bI_f {p : Prop} (hp : ¬ p) : bI p = 0 := @if_neg p (Classical.propDecidable p) hp _ _ _
theorem bI_c {p q : Prop} (e : p ↔ q) : bI p = bI q := by rw [propext e]
theorem bI_z {p : Prop} : bI p = 0 ↔ ¬ p := by
  by_cases hp : p
  · rw [bI_t hp]; exact ⟨fun z => absurd z (by decide), fun z => absurd hp z⟩
  · rw [bI_f hp]; exact ⟨fun _ => hp, fun _ => rfl⟩
theorem bI_n {p : Prop} : ¬ bI p = 0 ↔ p := by rw [bI_z]; exact Classical.not_not
theorem bI_01 (p : Prop) : bI p = 0 ∨ bI p = 1 := by
  by_cases hp : p
  · exact Or.inr (bI_t hp)
  · exact Or.inl (bI_f hp)
theorem nb_bI (p : Prop) : narrow .boolean (.int (bI p)) = .int (bI p) := by
  rcases bI_01 p with e | e <;> rw [e] <;> rfl
def isx (z : Int32) (n : Nat) : Prop := ∃ j, j < n ∧ z = nI j
theorem isx_lt {z : Int32} {n : Nat} (hn : n < 2 ^ 31) (h1 : ¬ z < 0) (h2 : ¬ nI n ≤ z) : isx z n := by
  rcases pk_ix z hn with q | q | q
  · exact absurd q h1
  · exact absurd q h2
  · exact q
theorem isx_neg {z : Int32} {n : Nat} (hn : n < 2 ^ 31) (h : z < 0) : ¬ isx z n := fun ⟨j, hj, e⟩ => nI_pos (n := j) (by omega) (e ▸ h)
theorem isx_big {z : Int32} {n : Nat} (hn : n < 2 ^ 31) (h : nI n ≤ z) : ¬ isx z n := fun ⟨j, hj, e⟩ => nI_ge hj hn (e ▸ h)
def bx0 (a : SH) (b : Nat) : Int := min (cx a (2 * b)) (cx a (2 * b + 1))
def bx1 (a : SH) (b : Nat) : Int := max (cx a (2 * b)) (cx a (2 * b + 1))
def by0 (a : SH) (b : Nat) : Int := min (cy a (2 * b)) (cy a (2 * b + 1))
def by1 (a : SH) (b : Nat) : Int := max (cy a (2 * b)) (cy a (2 * b + 1))
def px0 (a : SH) (k b : Nat) : Int := if 0 < nk a ∧ sd a = 1 ∧ 0 < k then ct a (k - 1) else bx0 a b
def px1 (a : SH) (k b : Nat) : Int := if 0 < nk a ∧ sd a = 1 ∧ k < nk a then ct a k else bx1 a b
def py0 (a : SH) (k b : Nat) : Int := if 0 < nk a ∧ ¬ sd a = 1 ∧ 0 < k then ct a (k - 1) else by0 a b
def py1 (a : SH) (k b : Nat) : Int := if 0 < nk a ∧ ¬ sd a = 1 ∧ k < nk a then ct a k else by1 a b
/-- how many boxes each piece has -/
def nb (a : SH) : Nat := if 0 < nk a then 1 else nc a / 2
def gap (f t f2 t2 : Int) : Int := max 0 (max f f2 - min t t2)
def nearB (d : Int) (x0 y0 x1 y1 u0 v0 u1 v1 : Int) : Prop := gap x0 x1 u0 u1 * gap x0 x1 u0 u1 + gap y0 y1 v0 v1 * gap y0 y1 v0 v1 < d * d
def nearQ (d : Int) (a : SH) (k i : Nat) (b : SH) (l j : Nat) : Prop := nearB d (px0 a k i) (py0 a k i) (px1 a k i) (py1 a k i) (px0 b l j) (py0 b l j) (px1 b l j) (py1 b l j)
def nearP (d : Int) (a : SH) (k : Nat) (b : SH) (l : Nat) : Prop := ∃ i j, i < nb a ∧ j < nb b ∧ nearQ d a k i b l j
def nearS (d : Int) (a b : SH) : Prop := ∃ k l, k ≤ nk a ∧ l ≤ nk b ∧ nearP d a k b l
theorem bx_bnd {a : SH} (hw : wfS a) {b : Nat} (hb : b < nc a / 2) : (-1000000 ≤ bx0 a b ∧ bx0 a b ≤ 1000000) ∧ (-1000000 ≤ bx1 a b ∧ bx1 a b ≤ 1000000) ∧ (-1000000 ≤ by0 a b ∧ by0 a b ≤ 1000000) ∧ (-1000000 ≤ by1 a b ∧ by1 a b ≤ 1000000) := by
  have h1 := hw.2.2.2.1 (2 * b) (by omega)
  have h2 := hw.2.2.2.1 (2 * b + 1) (by omega)
  unfold bx0 bx1 by0 by1
  omega
theorem ct_bnd {a : SH} (hw : wfS a) {k : Nat} (hk : k < nk a) : -1000000 ≤ ct a k ∧ ct a k ≤ 1000000 := by
  have h2 := hw.2.2.1 (by omega)
  have h3 := hw.2.2.2.2.1 k hk
  have h4 := hw.2.2.2.1 0 (by omega)
  have h5 := hw.2.2.2.1 1 (by omega)
  unfold axl axh at h3
  split at h3 <;> omega
theorem nb_lt {a : SH} (hw : wfS a) {b : Nat} (hb : b < nb a) : b < nc a / 2 := by
  unfold nb at hb
  split at hb
  · rename_i h
    have := hw.2.2.1 h
    omega
  · exact hb
theorem px_bnd {a : SH} (hw : wfS a) {k b : Nat} (hk : k ≤ nk a) (hb : b < nb a) : (-1000000 ≤ px0 a k b ∧ px0 a k b ≤ 1000000) ∧ (-1000000 ≤ px1 a k b ∧ px1 a k b ≤ 1000000) ∧ (-1000000 ≤ py0 a k b ∧ py0 a k b ≤ 1000000) ∧ (-1000000 ≤ py1 a k b ∧ py1 a k b ≤ 1000000) := by
  have h := bx_bnd hw (nb_lt hw hb)
  refine ⟨?_, ?_, ?_, ?_⟩
  · unfold px0; split
    · exact ct_bnd hw (by omega)
    · exact h.1
  · unfold px1; split
    · exact ct_bnd hw (by omega)
    · exact h.2.1
  · unfold py0; split
    · exact ct_bnd hw (by omega)
    · exact h.2.2.1
  · unfold py1; split
    · exact ct_bnd hw (by omega)
    · exact h.2.2.2
section M1
variable {l : Launch} {B E0 : Nat} {D : va_G} {h0 h : HM} {m : Nat} {a : Nat → Nat} {d : Int} {s : Nat → Int32} {I : Nat → Nat → Int32} {G : Nat → Nat → Int64} {ss : List SH}
theorem iw_X7_isShape_X7 : ∀ w ∈ u_ws RX7 TX7 27, w ∈ wsX7_isShape := by decide +kernel
theorem m_isShape (v : Nat) (hM : MR h0 h m a (lZ d) s I G) (A : MA ss s I G) (hl : ss.length < 100) (z : Int32) : CM l B E0 D yX7_isShape wsX7_isShape (v + 1) 0 0 [.ref m, .int z] h (fun r h1 => r = some (.int (bI (isx z ss.length))) ∧ h1 = h) := by
  refine CM.of (cc := cX7_isShape) (maxL := 2) (ret := (some .boolean)) (by decide) rfl (Nat.le_of_ble_eq_true rfl) (fun X E hin => ?_)
  show J X B D 2 _ h 0 0 0 [(0, .ref m), (1, .int z)] []
  refine j_iload_n E dX7_isShape_0 rfl ?_
  refine j_if_lt E (tgt := 16) dX7_isShape_1 (by decide) (fun c => ?_) (fun c => ?_)
  · rw [bI_f (isx_neg (by omega) c)]
    refine j_iconst (x := nI 0) E dX7_isShape_16 (by decide) ?_
    exact j_iret E dX7_isShape_17 rfl rfl (by omega) (by omega) ⟨rfl, rfl⟩
  ·
    refine j_iload_n E dX7_isShape_4 rfl ?_
    refine j_aload_n E dX7_isShape_5 rfl ?_
    refine j_getfield (ref := "ColourPartsModel") (C := RX7) (T := TX7) (N := 27) (ci := 8) E 2 dX7_isShape_6 iw_X7_isShape_X7 rfl (by decide) (by decide +kernel) rfl hM.obj rfl ?_
    refine j_icmp_ge E (tgt := 16) dX7_isShape_9 (by decide) (fun c2 => ?_) (fun c2 => ?_)
    · rw [A.1] at c2
      rw [bI_f (isx_big (by omega) c2)]
      refine j_iconst (x := nI 0) E dX7_isShape_16 (by decide) ?_
      exact j_iret E dX7_isShape_17 rfl rfl (by omega) (by omega) ⟨rfl, rfl⟩
    · rw [A.1] at c2
      rw [bI_t (isx_lt (by omega) c c2)]
      refine j_iconst (x := nI 1) E dX7_isShape_12 (by decide) ?_
      refine j_goto E (tgt := 17) dX7_isShape_13 (by decide) ?_
      exact j_iret E dX7_isShape_17 rfl rfl (by omega) (by omega) ⟨rfl, rfl⟩
def opU (ss : List SH) (n : Nat) : Prop := ∃ j, j < n ∧ opn (gS ss j)
theorem opU_s {ss : List SH} {n : Nat} : opU ss (n + 1) ↔ opU ss n ∨ opn (gS ss n) := by
  constructor
  · rintro ⟨j, hj, ho⟩
    by_cases e : j = n
    · exact Or.inr (e ▸ ho)
    · exact Or.inl ⟨j, by omega, ho⟩
  · rintro (⟨j, hj, ho⟩ | ho)
    · exact ⟨j, by omega, ho⟩
    · exact ⟨n, by omega, ho⟩
theorem nI_mod2 (n : Nat) (hn : n < 1000) : nI n - nI n / nI 2 * nI 2 = nI (n % 2) := pk_rem (by omega) (by decide) (by decide)
theorem iw_X7_isOpen_X7 : ∀ w ∈ u_ws RX7 TX7 27, w ∈ wsX7_isOpen := by decide +kernel
theorem m_isOpen (v : Nat) (hM : MR h0 h m a (lZ d) s I G) (A : MA ss s I G) (hw : wfSS ss) : CM l B E0 D yX7_isOpen wsX7_isOpen (v + 1) 0 0 [.ref m] h (fun r h1 => r = some (.int (bI (opS ss))) ∧ h1 = h) := by
  have hl := hw.1
  refine CM.of (cc := cX7_isOpen) (maxL := 3) (ret := (some .boolean)) (by decide) rfl (Nat.le_of_ble_eq_true rfl) (fun X E hin => ?_)
  show J X B D 3 _ h 0 0 0 [(0, .ref m)] []
  refine j_iconst (x := nI 0) E dX7_isOpen_0 (by decide) ?_
  refine j_istore_n E dX7_isOpen_1 (by decide) ?_
  refine j_iconst (x := nI 0) E dX7_isOpen_2 (by decide) ?_
  refine j_istore_n E dX7_isOpen_3 (by decide) ?_
  have key : ∀ (j i : Nat), i + j = ss.length → J X B D 3 (jQ X B D 0 0 (fun r h1 => r = some (.int (bI (opS ss))) ∧ h1 = h)) h 0 0 4 [(2, .int (nI i)), (1, .int (bI (opU ss i))), (0, .ref m)] [] := by
    intro j
    induction j with
    | zero =>
      intro i hi
      refine j_iload_n E dX7_isOpen_4 rfl ?_
      refine j_aload_n E dX7_isOpen_5 rfl ?_
      refine j_getfield (ref := "ColourPartsModel") (C := RX7) (T := TX7) (N := 27) (ci := 8) E 2 dX7_isOpen_6 iw_X7_isOpen_X7 rfl (by decide) (by decide +kernel) rfl hM.obj rfl ?_
      refine j_icmp_ge E (tgt := 49) dX7_isOpen_9 (by decide) (fun c => ?_) (fun c => ?_)
      ·
        refine j_iload_n E dX7_isOpen_49 rfl ?_
        rw [show i = ss.length by omega]
        exact j_iret E dX7_isOpen_50 rfl (nb_bI _) (by omega) (by omega) ⟨rfl, rfl⟩
      · rw [A.1] at c
        exact absurd (nI_le (show ss.length ≤ i by omega) (by omega)) c
    | succ j ih =>
      intro i hi
      have hj : i < ss.length := by omega
      obtain ⟨a5, -⟩ := A.2 i hj
      have hnc := (hw.2.2 i hj).1
      have tail : J X B D 3 (jQ X B D 0 0 (fun r h1 => r = some (.int (bI (opS ss))) ∧ h1 = h)) h 0 0 42 [(2, .int (nI i)), (1, .int (bI (opU ss i))), (0, .ref m)] [.int (bI (opU ss (i + 1)))] := by
        refine j_istore_n E dX7_isOpen_42 (by decide) ?_
        refine j_iinc E dX7_isOpen_43 rfl (nI_1 i) (by decide) ?_
        refine j_goto E (tgt := 4) dX7_isOpen_46 (by decide) ?_
        refine J.sub [(2, .int (nI (i + 1))), (1, .int (bI (opU ss (i + 1)))), (0, .ref m)] ⟨rfl, rfl, rfl, trivial⟩ ?_
        exact ih (i + 1) (by omega)
      refine j_iload_n E dX7_isOpen_4 rfl ?_
      refine j_aload_n E dX7_isOpen_5 rfl ?_
      refine j_getfield (ref := "ColourPartsModel") (C := RX7) (T := TX7) (N := 27) (ci := 8) E 2 dX7_isOpen_6 iw_X7_isOpen_X7 rfl (by decide) (by decide +kernel) rfl hM.obj rfl ?_
      refine j_icmp_ge E (tgt := 49) dX7_isOpen_9 (by decide) (fun c => ?_) (fun c => ?_)
      · rw [A.1] at c
        exact absurd c (nI_ge hj (by omega))
      ·
        refine j_iload_n E dX7_isOpen_12 rfl ?_
        refine j_if_ne E (tgt := 37) dX7_isOpen_13 (by decide) (fun c1 => ?_) (fun c1 => ?_)
        ·
          refine j_iconst (x := nI 1) E dX7_isOpen_37 (by decide) ?_
          refine J.topi (x' := bI (opU ss (i + 1))) ((bI_t (opU_s.mpr (Or.inl (bI_n.mp c1)))).symm) ?_
          refine j_goto E (tgt := 42) dX7_isOpen_38 (by decide) ?_
          exact tail
        ·
          refine j_aload_n E dX7_isOpen_16 rfl ?_
          refine j_getfield (ref := "ColourPartsModel") (C := RX7) (T := TX7) (N := 27) (ci := 8) E 5 dX7_isOpen_17 iw_X7_isOpen_X7 rfl (by decide) (by decide +kernel) rfl hM.obj rfl ?_
          refine j_iload_n E dX7_isOpen_20 rfl ?_
          refine j_iaload E i dX7_isOpen_21 (hM.gI 5 10 (by decide)) rfl (by omega) (by omega) ?_
          refine J.topi (x' := nI (nc (gS ss i))) (a5) ?_
          refine j_iconst (x := nI 2) E dX7_isOpen_22 (by decide) ?_
          refine j_irem E dX7_isOpen_23 (by decide) ?_
          refine J.topi (x' := nI (nc (gS ss i) % 2)) (nI_mod2 _ (by omega)) ?_
          refine j_iconst (x := nI 1) E dX7_isOpen_24 (by decide) ?_
          refine j_icmp_eq E (tgt := 37) dX7_isOpen_25 (by decide) (fun c2 => ?_) (fun c2 => ?_)
          · have e := (nI_eq (by omega) (by omega)).mp c2
            refine j_iconst (x := nI 1) E dX7_isOpen_37 (by decide) ?_
            refine J.topi (x' := bI (opU ss (i + 1))) ((bI_t (opU_s.mpr (Or.inr (Or.inl e)))).symm) ?_
            refine j_goto E (tgt := 42) dX7_isOpen_38 (by decide) ?_
            exact tail
          ·
            refine j_aload_n E dX7_isOpen_28 rfl ?_
            refine j_getfield (ref := "ColourPartsModel") (C := RX7) (T := TX7) (N := 27) (ci := 8) E 5 dX7_isOpen_29 iw_X7_isOpen_X7 rfl (by decide) (by decide +kernel) rfl hM.obj rfl ?_
            refine j_iload_n E dX7_isOpen_32 rfl ?_
            refine j_iaload E i dX7_isOpen_33 (hM.gI 5 10 (by decide)) rfl (by omega) (by omega) ?_
            refine J.topi (x' := nI (nc (gS ss i))) (a5) ?_
            refine j_if_ne E (tgt := 41) dX7_isOpen_34 (by decide) (fun c3 => ?_) (fun c3 => ?_)
            ·
              refine j_iconst (x := nI 0) E dX7_isOpen_41 (by decide) ?_
              refine J.topi (x' := bI (opU ss (i + 1))) ((bI_f (fun z => (opU_s.mp z).elim (bI_z.mp c1) (fun z => z.elim (fun e => c2 (by rw [e])) (fun e => c3 (by rw [e]; rfl))))).symm) ?_
              exact tail
            · have e : nc (gS ss i) = 0 := (nI_eq (by omega) (by decide)).mp c3
              refine j_iconst (x := nI 1) E dX7_isOpen_37 (by decide) ?_
              refine J.topi (x' := bI (opU ss (i + 1))) ((bI_t (opU_s.mpr (Or.inr (Or.inr e)))).symm) ?_
              refine j_goto E (tgt := 42) dX7_isOpen_38 (by decide) ?_
              exact tail
  refine J.sub [(2, .int (nI 0)), (1, .int (bI (opU ss 0))), (0, .ref m)] ⟨rfl, by rw [bI_f (fun ⟨j, hj, _⟩ => absurd hj (Nat.not_lt_zero j))]; rfl, rfl, trivial⟩ ?_
  exact key ss.length 0 (by omega)
theorem iw_X7_allPieces_X7 : ∀ w ∈ u_ws RX7 TX7 27, w ∈ wsX7_allPieces := by decide +kernel
theorem m_allPieces (v : Nat) (hM : MR h0 h m a (lZ d) s I G) (A : MA ss s I G) (hl : ss.length ≤ 10) : CM l B E0 D yX7_allPieces wsX7_allPieces (v + 1) 0 0 [.ref m] h (fun r h1 => r = some (.int (nI (tS ss ss.length))) ∧ h1 = h) := by
  refine CM.of (cc := cX7_allPieces) (maxL := 3) (ret := (some .int)) (by decide) rfl (Nat.le_of_ble_eq_true rfl) (fun X E hin => ?_)
  show J X B D 3 _ h 0 0 0 [(0, .ref m)] []
  refine j_iconst (x := nI 0) E dX7_allPieces_0 (by decide) ?_
  refine j_istore_n E dX7_allPieces_1 (by decide) ?_
  refine j_iconst (x := nI 0) E dX7_allPieces_2 (by decide) ?_
  refine j_istore_n E dX7_allPieces_3 (by decide) ?_
  have key : ∀ (j i : Nat), i + j = ss.length → J X B D 3 (jQ X B D 0 0 (fun r h1 => r = some (.int (nI (tS ss ss.length))) ∧ h1 = h)) h 0 0 4 [(2, .int (nI i)), (1, .int (nI (tS ss i))), (0, .ref m)] [] := by
    intro j
    induction j with
    | zero =>
      intro i hi
      refine j_iload_n E dX7_allPieces_4 rfl ?_
      refine j_aload_n E dX7_allPieces_5 rfl ?_
      refine j_getfield (ref := "ColourPartsModel") (C := RX7) (T := TX7) (N := 27) (ci := 8) E 2 dX7_allPieces_6 iw_X7_allPieces_X7 rfl (by decide) (by decide +kernel) rfl hM.obj rfl ?_
      refine j_icmp_ge E (tgt := 29) dX7_allPieces_9 (by decide) (fun c => ?_) (fun c => ?_)
      ·
        refine j_iload_n E dX7_allPieces_29 rfl ?_
        rw [show i = ss.length by omega]
        exact j_iret E dX7_allPieces_30 rfl rfl (by omega) (by omega) ⟨rfl, rfl⟩
      · rw [A.1] at c
        exact absurd (nI_le (show ss.length ≤ i by omega) (by omega)) c
    | succ j ih =>
      intro i hi
      have hj : i < ss.length := by omega
      obtain ⟨-, a8, -⟩ := A.2 i hj
      refine j_iload_n E dX7_allPieces_4 rfl ?_
      refine j_aload_n E dX7_allPieces_5 rfl ?_
      refine j_getfield (ref := "ColourPartsModel") (C := RX7) (T := TX7) (N := 27) (ci := 8) E 2 dX7_allPieces_6 iw_X7_allPieces_X7 rfl (by decide) (by decide +kernel) rfl hM.obj rfl ?_
      refine j_icmp_ge E (tgt := 29) dX7_allPieces_9 (by decide) (fun c => ?_) (fun c => ?_)
      · rw [A.1] at c
        exact absurd c (nI_ge hj (by omega))
      ·
        refine j_iload_n E dX7_allPieces_12 rfl ?_
        refine j_iconst (x := nI 1) E dX7_allPieces_13 (by decide) ?_
        refine j_aload_n E dX7_allPieces_14 rfl ?_
        refine j_getfield (ref := "ColourPartsModel") (C := RX7) (T := TX7) (N := 27) (ci := 8) E 8 dX7_allPieces_15 iw_X7_allPieces_X7 rfl (by decide) (by decide +kernel) rfl hM.obj rfl ?_
        refine j_iload_n E dX7_allPieces_18 rfl ?_
        refine j_iaload E i dX7_allPieces_19 (hM.gI 8 10 (by decide)) rfl (by omega) (by omega) ?_
        refine J.topi (x' := nI (nk (gS ss i))) (a8) ?_
        refine j_iadd E dX7_allPieces_20 ?_
        refine j_iadd E dX7_allPieces_21 ?_
        refine J.topi (x' := nI (tS ss (i + 1))) (by rw [nI_add, nI_add, Nat.add_comm 1]; rfl) ?_
        refine j_istore_n E dX7_allPieces_22 (by decide) ?_
        refine j_iinc E dX7_allPieces_23 rfl (nI_1 i) (by decide) ?_
        refine j_goto E (tgt := 4) dX7_allPieces_26 (by decide) ?_
        refine J.sub [(2, .int (nI (i + 1))), (1, .int (nI (tS ss (i + 1)))), (0, .ref m)] ⟨rfl, rfl, rfl, trivial⟩ ?_
        exact ih (i + 1) (by omega)
  exact key ss.length 0 (by omega)
theorem m_low (v : Nat) {x y : Int} (hx : lOK x) (hy : lOK y) : CM l B E0 D yX7_low wsX7_low (v + 1) 0 0 [.long (lZ x), .long (lZ y)] h (fun r h1 => r = some (.long (lZ (min x y))) ∧ h1 = h) := by
  refine CM.of (cc := cX7_low) (maxL := 4) (ret := (some .long)) (by decide) rfl (Nat.le_of_ble_eq_true rfl) (fun X E hin => ?_)
  show J X B D 4 _ h 0 0 0 [(0, .long (lZ x)), (2, .long (lZ y))] []
  refine j_lload_n E dX7_low_0 rfl ?_
  refine j_lload_n E dX7_low_1 rfl ?_
  refine j_lcmp E dX7_low_2 ?_
  refine j_if_ge E (tgt := 10) dX7_low_3 (by decide) (fun c => ?_) (fun c => ?_)
  · rw [cmp_ge, lZ_le hy hx] at c
    rw [show min x y = y by omega]
    refine j_lload_n E dX7_low_10 rfl ?_
    exact j_lret E dX7_low_11 rfl (by omega) (by omega) ⟨rfl, rfl⟩
  · rw [cmp_ge, lZ_le hy hx] at c
    rw [show min x y = x by omega]
    refine j_lload_n E dX7_low_6 rfl ?_
    refine j_goto E (tgt := 11) dX7_low_7 (by decide) ?_
    exact j_lret E dX7_low_11 rfl (by omega) (by omega) ⟨rfl, rfl⟩
theorem m_high (v : Nat) {x y : Int} (hx : lOK x) (hy : lOK y) : CM l B E0 D yX7_high wsX7_high (v + 1) 0 0 [.long (lZ x), .long (lZ y)] h (fun r h1 => r = some (.long (lZ (max x y))) ∧ h1 = h) := by
  refine CM.of (cc := cX7_high) (maxL := 4) (ret := (some .long)) (by decide) rfl (Nat.le_of_ble_eq_true rfl) (fun X E hin => ?_)
  show J X B D 4 _ h 0 0 0 [(0, .long (lZ x)), (2, .long (lZ y))] []
  refine j_lload_n E dX7_high_0 rfl ?_
  refine j_lload_n E dX7_high_1 rfl ?_
  refine j_lcmp E dX7_high_2 ?_
  refine j_if_le E (tgt := 10) dX7_high_3 (by decide) (fun c => ?_) (fun c => ?_)
  · rw [cmp_le, lZ_le hx hy] at c
    rw [show max x y = y by omega]
    refine j_lload_n E dX7_high_10 rfl ?_
    exact j_lret E dX7_high_11 rfl (by omega) (by omega) ⟨rfl, rfl⟩
  · rw [cmp_le, lZ_le hx hy] at c
    rw [show max x y = x by omega]
    refine j_lload_n E dX7_high_6 rfl ?_
    refine j_goto E (tgt := 11) dX7_high_7 (by decide) ?_
    exact j_lret E dX7_high_11 rfl (by omega) (by omega) ⟨rfl, rfl⟩
theorem iw_X7_boxes_X7 : ∀ w ∈ u_ws RX7 TX7 27, w ∈ wsX7_boxes := by decide +kernel
theorem m_boxes (v : Nat) (hM : MR h0 h m a (lZ d) s I G) (A : MA ss s I G) (hw : wfSS ss) {j : Nat} (hj : j < ss.length) : CM l B E0 D yX7_boxes wsX7_boxes (v + 1) 0 0 [.ref m, .int (nI j)] h (fun r h1 => r = some (.int (nI (nb (gS ss j)))) ∧ h1 = h) := by
  have hl := hw.1
  obtain ⟨a5, a8, -⟩ := A.2 j hj
  have hn := hw.2.2 j hj
  refine CM.of (cc := cX7_boxes) (maxL := 2) (ret := (some .int)) (by decide) rfl (Nat.le_of_ble_eq_true rfl) (fun X E hin => ?_)
  show J X B D 2 _ h 0 0 0 [(0, .ref m), (1, .int (nI j))] []
  refine j_aload_n E dX7_boxes_0 rfl ?_
  refine j_getfield (ref := "ColourPartsModel") (C := RX7) (T := TX7) (N := 27) (ci := 8) E 8 dX7_boxes_1 iw_X7_boxes_X7 rfl (by decide) (by decide +kernel) rfl hM.obj rfl ?_
  refine j_iload_n E dX7_boxes_4 rfl ?_
  refine j_iaload E j dX7_boxes_5 (hM.gI 8 10 (by decide)) rfl (by omega) (by omega) ?_
  refine J.topi (x' := nI (nk (gS ss j))) (a8) ?_
  refine j_if_le E (tgt := 13) dX7_boxes_6 (by decide) (fun c => ?_) (fun c => ?_)
  · have hz : ¬ 0 < nk (gS ss j) := fun z => nI_nle z (by have := hn.2.1; omega) c
    refine j_aload_n E dX7_boxes_13 rfl ?_
    refine j_getfield (ref := "ColourPartsModel") (C := RX7) (T := TX7) (N := 27) (ci := 8) E 5 dX7_boxes_14 iw_X7_boxes_X7 rfl (by decide) (by decide +kernel) rfl hM.obj rfl ?_
    refine j_iload_n E dX7_boxes_17 rfl ?_
    refine j_iaload E j dX7_boxes_18 (hM.gI 5 10 (by decide)) rfl (by omega) (by omega) ?_
    refine J.topi (x' := nI (nc (gS ss j))) (a5) ?_
    refine j_iconst (x := nI 2) E dX7_boxes_19 (by decide) ?_
    refine j_idiv E dX7_boxes_20 (by decide) ?_
    refine J.topi (x' := nI (nc (gS ss j) / 2)) (pk_div (by have := hn.1; omega) (by decide) (by decide)) ?_
    exact j_iret E dX7_boxes_21 rfl rfl (by omega) (by omega) ⟨by unfold nb; rw [if_neg hz], rfl⟩
  · have hz : 0 < nk (gS ss j) := by
      rcases Nat.eq_zero_or_pos (nk (gS ss j)) with q | q
      · exact absurd (by rw [q]; decide) c
      · exact q
    refine j_iconst (x := nI 1) E dX7_boxes_9 (by decide) ?_
    refine j_goto E (tgt := 21) dX7_boxes_10 (by decide) ?_
    exact j_iret E dX7_boxes_21 rfl rfl (by omega) (by omega) ⟨by unfold nb; rw [if_pos hz], rfl⟩
end M1
