/-- the greatest of some numbers, not below 0 -/
def mx (f : Nat → Int) : Nat → Int
  | 0 => 0
  | n + 1 => if mx f n < f n then f n else mx f n
theorem sm_r2 {f : Nat → Int} {c : Int} (n : Nat) (h : ∀ i, i < n → 0 ≤ f i ∧ f i ≤ c) : 0 ≤ sm f n ∧ sm f n ≤ c * n := by
  induction n with
  | zero => exact ⟨Int.le_refl _, by simp [sm]⟩
  | succ n ih =>
    have h1 := h n (by omega)
    have h2 := ih (fun i hi => h i (by omega))
    have e : c * ((n + 1 : Nat) : Int) = c * n + c := by rw [Int.natCast_succ, Int.mul_add, Int.mul_one]
    rw [e]
    simp only [sm]
    omega
theorem mx_r {f : Nat → Int} {c : Int} (hc : 0 ≤ c) (n : Nat) (h : ∀ i, i < n → f i ≤ c) : 0 ≤ mx f n ∧ mx f n ≤ c := by
  induction n with
  | zero => exact ⟨Int.le_refl _, hc⟩
  | succ n ih =>
    have h1 := h n (by omega)
    have h2 := ih (fun i hi => h i (by omega))
    simp only [mx]
    split <;> omega
/-- the working days of a crew's works -/
def dcr (M : Nat → Nat → Int) (nw : Nat) (c : Int) : Int := sm (fun j => if M (14 + j) 0 = c then M (14 + j) 5 else 0) nw
theorem dcr_r {M : Nat → Nat → Int} {nw : Nat} (h6 : nw ≤ 6) (hW : ∀ w, w < nw → IW M w) (c : Int) : 0 ≤ dcr M nw c ∧ dcr M nw c ≤ 1200 := by
  have h := sm_r2 (f := fun j => if M (14 + j) 0 = c then M (14 + j) 5 else 0) (c := 200) nw (fun i hi => by have := (hW i hi).need; split <;> omega)
  unfold dcr
  omega
noncomputable def und (M : Nat → Nat → Int) (kd day : Int) (j : Nat) : Int := if M (14 + j) 1 = kd ∧ M 23 j ≤ day ∧ day < eT M j (M 23 j) then 1 else 0
theorem und_r (M : Nat → Nat → Int) (kd day : Int) (j : Nat) : 0 ≤ und M kd day j ∧ und M kd day j ≤ 1 := by unfold und; split <;> omega
/-- a work can keep its own rules with some start -/
def aln (M : Nat → Nat → Int) (nb w : Nat) : Prop := (∃ n, oL M w 0 nb n ∧ oG M w n) ∨ (M (14 + w) 6 ≠ 0 ∧ ∃ n, oL M w 1 nb n ∧ oG M w n)
/-- one if so, else zero -/
noncomputable def b01 (P : Prop) : Int := @ite _ P (Classical.propDecidable P) 1 0
theorem b01_t {P : Prop} (h : P) : b01 P = 1 := by unfold b01; rw [if_pos h]
theorem b01_f {P : Prop} (h : ¬ P) : b01 P = 0 := by unfold b01; rw [if_neg h]
theorem b01_r (P : Prop) : 0 ≤ b01 P ∧ b01 P ≤ 1 := by unfold b01; split <;> omega
theorem x_R_oA {L : Nat} {xs : Nat → Int32} {M M1 : Nat → Nat → Int} {u : Nat} (hf : fr u M M1) (hI : IDy M) (hR : IR M1) (ho : ∀ M, sx_o (gm M) u 6 2) (hu0 : 20 < u) (w : Nat) (hw : w < 6) (hW : IW M w) (hS : IS M w) (way : Int) (hway : sx_r way) (nb : Nat) (hnb : M 2 10 = (nb : Int)) (hnb8 : nb ≤ 8) (hB : IB M nb w way) : sx_R y_R_openAlone (2, 0, 0) L xs [sx_p 20, sx_p u, .inl (w : Int), .inl way] (gm M1) (fun v h2 => v = none ∧ ∃ M2, h2 = gm M2 ∧ fr u M M2 ∧ IR M2 ∧ (∀ n, M2 u 0 ≤ n ↔ oL M w way nb n) ∧ (∀ n, n ≤ M2 u 1 ↔ oG M w n)) := by
  have h := c_R_oA (L := L) (xs := xs) M1 (fr_IDy hf hu0 hI) hR u ho hu0 w hw (fr_IW hf hu0 hw hW) (fr_IS hf hu0 hw hS) way hway nb ((hf 2 10 (by omega)).trans hnb) hnb8 (fr_IB hf hu0 hw hB)
  rw [fr_oL hf hu0 hw, fr_oG hf hu0 hw] at h
  refine h.mono ?_
  rintro v h2 ⟨rfl, M2, rfl, k1, k2, k3, k4⟩
  exact ⟨rfl, M2, rfl, fun a k ha => (k1 a k ha).trans (hf a k ha), k2, k3, k4⟩
