/-- working days before a day; the working day of a number -/
def Bd (M : Nat → Nat → Int) (d : Int) : Int := ((dy_b (dr M) d.toNat : Nat) : Int)
noncomputable def Dd (M : Nat → Nat → Int) (n : Int) : Int := ((dn (dr M) n.toNat : Nat) : Int)
theorem dy_ge {r : Nat → Bool} {T : Nat} (hT : ∀ d, T ≤ d → r d = false) (d : Nat) : d ≤ dy_b r d + T := by
  rcases Nat.lt_or_ge d T with q | q
  · omega
  · have := dy_far hT (d - T)
    rw [show T + (d - T) = d by omega] at this
    omega
theorem Bd_r (M : Nat → Nat → Int) (d : Int) : 0 ≤ Bd M d ∧ (0 ≤ d → Bd M d ≤ d) ∧ (d ≤ 0 → Bd M d = 0) ∧ d ≤ Bd M d + 200 := by
  have h1 := dy_le (dr M) d.toNat
  have h2 := dy_ge (dr_far M) d.toNat
  refine ⟨by unfold Bd; omega, fun h => by unfold Bd; omega, fun h => ?_, by unfold Bd; omega⟩
  unfold Bd
  rw [show d.toNat = 0 by omega]
  rfl
theorem Dd_r (M : Nat → Nat → Int) (n : Int) : 0 ≤ Dd M n ∧ (0 ≤ n → n ≤ Dd M n ∧ Dd M n ≤ n + 200) := by
  have h1 := dn_ok (dr_far M) n.toNat
  have h2 := dy_ge (dr_far M) (dn (dr M) n.toNat)
  have h3 := dy_le (dr M) (dn (dr M) n.toNat)
  rw [h1.2] at h2 h3
  exact ⟨by unfold Dd; omega, fun h => by unfold Dd; omega⟩
/-- a work's numbers in the class's memory are sound -/
def IW (M : Nat → Nat → Int) (w : Nat) : Prop := 0 ≤ M (14 + w) 2 ∧ M (14 + w) 2 < M (14 + w) 3 ∧ M (14 + w) 3 ≤ 200 ∧ 1 ≤ M (14 + w) 4 ∧ M (14 + w) 4 ≤ 50 ∧ M (14 + w) 5 = (M (14 + w) 3 - M (14 + w) 2 + M (14 + w) 4 - 1) / M (14 + w) 4
theorem need_r {len v : Int} (h1 : 1 ≤ len) (h2 : len ≤ 200) (h3 : 1 ≤ v) : 1 ≤ (len + v - 1) / v ∧ (len + v - 1) / v ≤ 200 := by
  constructor
  · rw [Int.le_ediv_iff_mul_le (by omega)]; omega
  · have h4 : (len + v - 1) / v < 201 := by
      rw [Int.ediv_lt_iff_lt_mul (by omega)]
      have : 201 * 1 ≤ 201 * v := Int.mul_le_mul_of_nonneg_left h3 (by decide)
      have h5 : (201 : Int) * v = 200 * v + v := by omega
      have : 200 * 1 ≤ 200 * v := Int.mul_le_mul_of_nonneg_left h3 (by decide)
      omega
    omega
theorem IW.need {M : Nat → Nat → Int} {w : Nat} (h : IW M w) : 1 ≤ M (14 + w) 5 ∧ M (14 + w) 5 ≤ 200 := by
  obtain ⟨h1, h2, h3, h4, h5, h6⟩ := h
  rw [h6]
  exact need_r (len := M (14 + w) 3 - M (14 + w) 2) (by omega) (by omega) h4
theorem wh_r {v len x lv : Int} (h0 : 0 ≤ x) (h2 : x ≤ 200) (h3 : 1 ≤ v) : 0 ≤ wh v len x lv ∧ wh v len x lv ≤ 200 := by
  unfold wh
  have hn : ∀ z : Int, 0 ≤ z → z ≤ 200 → 0 ≤ z / v ∧ z / v ≤ 200 := fun z h5 h6 => ⟨Int.ediv_nonneg h5 (by omega), Int.le_trans (Int.ediv_le_self _ h5) h6⟩
  split
  · exact hn x h0 h2
  · rename_i q
    exact hn (x - 1) (by omega) (by omega)
/-- how far a place is from a work's first one, by its way -/
def wx (M : Nat → Nat → Int) (w : Nat) (p d : Int) : Int := if d = 0 then p - M (14 + w) 2 else M (14 + w) 3 - p
/-- when a work arrives at (leaves) a place, times its speed -/
noncomputable def pT (M : Nat → Nat → Int) (w : Nat) (s d p lv : Int) : Int :=
  Dd M (Bd M s + wh (M (14 + w) 4) (M (14 + w) 3 - M (14 + w) 2) (wx M w p d) lv) * M (14 + w) 4 + wx M w p d - wh (M (14 + w) 4) (M (14 + w) 3 - M (14 + w) 2) (wx M w p d) lv * M (14 + w) 4
noncomputable def eT (M : Nat → Nat → Int) (w : Nat) (s : Int) : Int := Dd M (Bd M s + M (14 + w) 5 - 1) + 1
def sm (f : Nat → Int) : Nat → Int
  | 0 => 0
  | n + 1 => sm f n + f n
theorem sm_r {f : Nat → Int} {c : Int} (h : ∀ i, 0 ≤ f i ∧ f i ≤ c) (n : Nat) : 0 ≤ sm f n ∧ sm f n ≤ c * n := by
  induction n with
  | zero => exact ⟨Int.le_refl _, by simp [sm]⟩
  | succ n ih =>
    have h1 := h n
    have e : c * ((n + 1 : Nat) : Int) = c * n + c := by rw [Int.natCast_succ, Int.mul_add, Int.mul_one]
    rw [e]
    exact ⟨by simp only [sm]; omega, by simp only [sm]; omega⟩
