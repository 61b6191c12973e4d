/-! goOn() from any piece -/
theorem goAll {l : Launch} {B E0 : Nat} {D : va_G} {sr many n : Nat} {q : Nat → Nat} {NN : Nat → Nat → Prop} {t : Nat → Int} {o : Nat → Nat} (v : Nat) (hs : ∀ i j, i < n → j < n → NN i j → NN j i) (hi : ∀ i, ¬ NN i i) (hb : ∀ i j, NN i j → j < n) : ∀ r p, p + r = n → goC l B E0 D sr q many n NN t o (v + 3 + 2 * r) p
  | 0, p, e => c_goOn v (by omega) hs hi hb (fun h => absurd h (by omega))
  | r + 1, p, e => by
    have h := c_goOn (l := l) (B := B) (E0 := E0) (D := D) (sr := sr) (many := many) (q := q) (t := t) (o := o) (v + 2 + 2 * r) (p := p) (by omega) hs hi hb (fun _ => by
      have := goAll (l := l) (B := B) (E0 := E0) (D := D) (sr := sr) (many := many) (q := q) (t := t) (o := o) v hs hi hb r (p + 1) (by omega)
      rw [show v + 2 + 2 * r + 1 = v + 3 + 2 * r by omega]
      exact this)
    rw [show v + 3 + 2 * (r + 1) = v + 2 + 2 * r + 3 by omega]
    exact h
