/-- the rest days in the class's memory -/
def dr (M : Nat → Nat → Int) : Nat → Bool := fun d => decide (d < 200) && decide (M 4 d = 1)
theorem dr_far (M : Nat → Nat → Int) : ∀ d, 200 ≤ d → dr M d = false := fun d h => by simp [dr]; omega
/-- the working day of a number -/
noncomputable def dn (r : Nat → Bool) (n : Nat) : Nat := Classical.epsilon (fun d => r d = false ∧ dy_b r d = n)
theorem dn_ok {r : Nat → Bool} {T : Nat} (hT : ∀ d, T ≤ d → r d = false) (n : Nat) : r (dn r n) = false ∧ dy_b r (dn r n) = n := Classical.epsilon_spec (dy_ex hT n)
theorem dn_eq {r : Nat → Bool} {d n : Nat} (h : r d = false) (hb : dy_b r d = n) : dn r n = d := by
  have h0 : ∃ d, r d = false ∧ dy_b r d = n := ⟨d, h, hb⟩
  have h1 := Classical.epsilon_spec h0
  exact dy_inj h1.1 h (h1.2.trans hb.symm)
/-- the class's tables of days are right -/
def IDy (M : Nat → Nat → Int) : Prop := (∀ d, d < 200 → M 4 d = 0 ∨ M 4 d = 1) ∧ (∀ d, d < 200 → M 5 d = (dy_b (dr M) d : Int)) ∧ (∀ n, n < dy_b (dr M) 200 → M 6 n = (dn (dr M) n : Int)) ∧ M 3 3 = 200 - (dy_b (dr M) 200 : Int)
