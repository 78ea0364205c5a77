/-- how a start (as a number) keeps a work's own rules -/
def oL (M : Nat → Nat → Int) (w : Nat) (way : Int) (nb : Nat) (n : Int) : Prop := Bd M (M (14 + w) 7) ≤ n ∧ Bd M (M (14 + w) 9) ≤ n ∧ ∀ k, k < nb → M 11 k = (w : Int) → fS M w (wx M w (M 12 k) way) (M 13 k) 1 ≤ n
def oG (M : Nat → Nat → Int) (w : Nat) (n : Int) : Prop := n ≤ Bd M 100 - 1 ∧ n ≤ Bd M (M (14 + w) 8 + 1) - M (14 + w) 5
/-- a work's seasons and late days are sound -/
def IS (M : Nat → Nat → Int) (w : Nat) : Prop := 0 ≤ M (14 + w) 7 ∧ M (14 + w) 7 ≤ 999 ∧ 0 ≤ M (14 + w) 8 ∧ M (14 + w) 8 ≤ 999 ∧ 0 ≤ M (14 + w) 9 ∧ M (14 + w) 9 ≤ 999
/-- the bars told of a work are sound -/
def IB (M : Nat → Nat → Int) (nb w : Nat) (way : Int) : Prop := ∀ k, k < nb → M 11 k = (w : Int) → (0 ≤ wx M w (M 12 k) way ∧ wx M w (M 12 k) way ≤ 200) ∧ 0 ≤ M 13 k ∧ M 13 k ≤ 999
section WX
variable {L : Nat} {xs : Nat → Int32} {u : Nat} {M M1 : Nat → Nat → Int}
theorem x_W_set (hf : fr u M M1) (hR : IR M1) (ho : ∀ M, sx_o (gm M) u 6 2) (x z : Int) (hx : sx_r x) (hz : sx_r z) : sx_R y_W_set (0, 0, 0) L xs [sx_p u, .inl x, .inl z] (gm M1) (fun v h2 => v = none ∧ ∃ M2, h2 = gm M2 ∧ fr u M M2 ∧ IR M2 ∧ M2 u 0 = x ∧ M2 u 1 = z) := by
  refine (c_W_set (L := L) (xs := xs) M1 u ho x z).mono ?_
  rintro v h2 ⟨rfl, rfl⟩
  exact ⟨rfl, _, rfl, (hf.u 0 x).u 1 z, (hR.u u 0 hx).u u 1 hz, by simp [sx_u], by simp [sx_u]⟩
theorem x_W_raise (hf : fr u M M1) (hR : IR M1) (ho : ∀ M, sx_o (gm M) u 6 2) (x : Int) (hx : sx_r x) : sx_R y_W_raiseLeast (1, 0, 0) L xs [sx_p u, .inl x] (gm M1) (fun v h2 => v = none ∧ ∃ M2, h2 = gm M2 ∧ fr u M M2 ∧ IR M2 ∧ (∀ n, M2 u 0 ≤ n ↔ M1 u 0 ≤ n ∧ x ≤ n) ∧ M2 u 1 = M1 u 1) := by
  refine (c_W_raise (L := L) (xs := xs) M1 hR u ho x hx).mono ?_
  rintro v h2 ⟨rfl, rfl⟩
  have h1 := hR u 0
  refine ⟨rfl, _, rfl, hf.u 0 _, hR.u u 0 (by split <;> omega), fun n => ?_, by simp [sx_u]⟩
  rw [sx_us]
  split <;> omega
theorem x_W_lower (hf : fr u M M1) (hR : IR M1) (ho : ∀ M, sx_o (gm M) u 6 2) (x : Int) (hx : sx_r x) : sx_R y_W_lowerGreatest (1, 0, 0) L xs [sx_p u, .inl x] (gm M1) (fun v h2 => v = none ∧ ∃ M2, h2 = gm M2 ∧ fr u M M2 ∧ IR M2 ∧ (∀ n, n ≤ M2 u 1 ↔ n ≤ M1 u 1 ∧ n ≤ x) ∧ M2 u 0 = M1 u 0) := by
  refine (c_W_lower (L := L) (xs := xs) M1 hR u ho x hx).mono ?_
  rintro v h2 ⟨rfl, rfl⟩
  have h1 := hR u 1
  refine ⟨rfl, _, rfl, hf.u 1 _, hR.u u 1 (by split <;> omega), fun n => ?_, by simp [sx_u]⟩
  rw [sx_us]
  split <;> omega
end WX
