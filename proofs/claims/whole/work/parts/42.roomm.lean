section FR2
variable {u : Nat} {M M1 : Nat → Nat → Int}
theorem fr_oL (h : fr u M M1) (hu : 20 < u) {w : Nat} (hw : w < 6) : oL M1 w = oL M w := by
  funext way nb n
  have e11 : ∀ k, M1 11 k = M 11 k := fun k => h 11 k (by omega)
  have e12 : ∀ k, M1 12 k = M 12 k := fun k => h 12 k (by omega)
  have e13 : ∀ k, M1 13 k = M 13 k := fun k => h 13 k (by omega)
  simp only [oL, fr_Bd h hu, fr_wk h hu hw, e11, e12, e13, fr_fS h hu hw, fr_wx h hu hw]
theorem fr_oG (h : fr u M M1) (hu : 20 < u) {w : Nat} (hw : w < 6) : oG M1 w = oG M w := by
  funext n
  simp only [oG, fr_Bd h hu, fr_wk h hu hw]
theorem fr_IS (h : fr u M M1) (hu : 20 < u) {w : Nat} (hw : w < 6) (hS : IS M w) : IS M1 w := by
  unfold IS
  simp only [fr_wk h hu hw]
  exact hS
theorem fr_IB (h : fr u M M1) (hu : 20 < u) {w : Nat} (hw : w < 6) {nb : Nat} {way : Int} (hB : IB M nb w way) : IB M1 nb w way := by
  intro k hk
  rw [h 11 k (by omega), h 12 k (by omega), h 13 k (by omega), fr_wx h hu hw]
  exact hB k hk
end FR2
/-- how many works of a work's kind are under way with it on the working day of a number -/
def cf (M : Nat → Nat → Int) (pb w : Nat) (n : Int) (o : Nat) : Int := if o ≠ w ∧ M (14 + o) 1 = M (14 + w) 1 ∧ Bd M (M pb o) ≤ n ∧ n < Bd M (M pb o) + M (14 + o) 5 then 1 else 0
def cn (M : Nat → Nat → Int) (pb w : Nat) (n : Int) (m : Nat) : Int := 1 + sm (cf M pb w n) m
theorem cf_r (M : Nat → Nat → Int) (pb w : Nat) (n : Int) (o : Nat) : 0 ≤ cf M pb w n o ∧ cf M pb w n o ≤ 1 := by
  unfold cf
  split <;> omega
theorem cn_r (M : Nat → Nat → Int) (pb w : Nat) (n : Int) (m : Nat) : 1 ≤ cn M pb w n m ∧ cn M pb w n m ≤ 1 + m := by
  have := sm_r (cf_r M pb w n) m
  unfold cn
  omega
/-- a work with a start keeps to its crew's days and its kind's most -/
def hRm (M : Nat → Nat → Int) (pb w : Nat) (s : Int) (m : Nat) : Prop := cn M pb w (Bd M s) m ≤ M 10 (M (14 + w) 1).toNat ∧ ∀ o, o < m → o ≠ w → Bd M s < Bd M (M pb o) + M (14 + o) 5 → Bd M (M pb o) < Bd M s + M (14 + w) 5 → M (14 + o) 0 ≠ M (14 + w) 0 ∧ (Bd M s < Bd M (M pb o) → cn M pb w (Bd M (M pb o)) m ≤ M 10 (M (14 + w) 1).toNat)
