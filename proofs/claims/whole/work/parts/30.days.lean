/-! working days: how many lie before a day -/
def dy_b (r : Nat → Bool) : Nat → Nat
  | 0 => 0
  | d + 1 => dy_b r d + (if r d = true then 0 else 1)
theorem dy_s (r : Nat → Bool) (d : Nat) : dy_b r (d + 1) = dy_b r d + (if r d = true then 0 else 1) := rfl
theorem dy_mono {r : Nat → Bool} {a : Nat} : ∀ {b : Nat}, a ≤ b → dy_b r a ≤ dy_b r b := by
  intro b h
  induction b with
  | zero => rw [Nat.le_zero.mp h]; exact Nat.le_refl _
  | succ b ih =>
    rcases Nat.lt_or_ge a (b + 1) with q | q
    · have := ih (by omega)
      rw [dy_s]
      omega
    · rw [show a = b + 1 by omega]; exact Nat.le_refl _
theorem dy_lt {r : Nat → Bool} {a b : Nat} (h : r a = false) (hab : a < b) : dy_b r a < dy_b r b := by
  have h1 : dy_b r (a + 1) ≤ dy_b r b := dy_mono hab
  rw [dy_s, h] at h1
  simp at h1
  omega
theorem dy_of_lt {r : Nat → Bool} {a b : Nat} (h : dy_b r a < dy_b r b) : a < b := by
  rcases Nat.lt_or_ge a b with q | q
  · exact q
  · have := dy_mono (r := r) q
    omega
theorem dy_le_iff {r : Nat → Bool} {f s : Nat} (hs : r s = false) : dy_b r f ≤ dy_b r s ↔ f ≤ s := by
  constructor
  · intro h
    rcases Nat.lt_or_ge s f with q | q
    · have := dy_lt hs q
      omega
    · exact q
  · exact dy_mono
theorem dy_lt_iff {r : Nat → Bool} {f s : Nat} (hs : r s = false) : dy_b r s < dy_b r f ↔ s < f := by
  have := dy_le_iff (f := f) hs
  constructor <;> intro h <;> omega
theorem dy_inj {r : Nat → Bool} {a b : Nat} (ha : r a = false) (hb : r b = false) (e : dy_b r a = dy_b r b) : a = b := by
  have h1 := (dy_le_iff (f := a) hb).mp (by omega)
  have h2 := (dy_le_iff (f := b) ha).mp (by omega)
  omega
theorem dy_le (r : Nat → Bool) (d : Nat) : dy_b r d ≤ d := by
  induction d with
  | zero => exact Nat.le_refl _
  | succ d ih =>
    rw [dy_s]
    split <;> omega
theorem dy_gap (r : Nat → Bool) (a n : Nat) : dy_b r (a + n) ≤ dy_b r a + n := by
  induction n with
  | zero => exact Nat.le_refl _
  | succ n ih =>
    rw [show a + (n + 1) = (a + n) + 1 by omega, dy_s]
    split <;> omega
/-- behind the last rest day each day counts -/
theorem dy_far {r : Nat → Bool} {T : Nat} (hT : ∀ d, T ≤ d → r d = false) (n : Nat) : dy_b r (T + n) = dy_b r T + n := by
  induction n with
  | zero => rfl
  | succ n ih =>
    rw [show T + (n + 1) = (T + n) + 1 by omega, dy_s, hT (T + n) (by omega), ih]
    simp
    omega
/-- the working day of a number: the first working day d with so many before it -/
theorem dy_ex {r : Nat → Bool} {T : Nat} (hT : ∀ d, T ≤ d → r d = false) (n : Nat) : ∃ d, r d = false ∧ dy_b r d = n := by
  have key : ∀ k, n < dy_b r k → ∃ d, d < k ∧ r d = false ∧ dy_b r d = n := by
    intro k
    induction k with
    | zero => intro h; exact absurd h (Nat.not_lt_zero _)
    | succ k ih =>
      intro h
      rw [dy_s] at h
      by_cases hk : n < dy_b r k
      · obtain ⟨d, h1, h2⟩ := ih hk
        exact ⟨d, by omega, h2⟩
      · by_cases hr : r k = true
        · rw [if_pos hr] at h
          omega
        · rw [if_neg hr] at h
          exact ⟨k, by omega, by simpa using hr, by omega⟩
  have h1 := dy_far hT (n + 1)
  obtain ⟨d, -, h2⟩ := key (T + (n + 1)) (by omega)
  exact ⟨d, h2⟩
