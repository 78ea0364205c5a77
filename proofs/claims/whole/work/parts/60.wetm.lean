/-- the next number of the weather -/
def nx (x : Int) : Int := (Int32.ofInt ((x * 1103515245) + 12345) &&& Int32.ofInt 2147483647).toInt
theorem nx_r (x : Int) : sx_r (nx x) := by
  unfold nx
  generalize Int32.ofInt ((x * 1103515245) + 12345) &&& Int32.ofInt 2147483647 = z
  have h1 := Int32.le_toInt z
  have h2 := Int32.toInt_lt z
  constructor <;> omega
def lcg (x : Int) : Nat → Int
  | 0 => x
  | n + 1 => nx (lcg x n)
def sd (x : Int) : Nat → Int
  | 0 => x
  | k + 1 => lcg (sd x k) 400
theorem lcg_r {x : Int} (h : sx_r x) (n : Nat) : sx_r (lcg x n) := by
  cases n with
  | zero => exact h
  | succ n => exact nx_r _
theorem sd_r {x : Int} (h : sx_r x) (n : Nat) : sx_r (sd x n) := by
  induction n with
  | zero => exact h
  | succ n ih => exact lcg_r ih 400
/-- a drawn day is wet -/
def wt (x ch : Int) (d : Nat) : Bool := decide (Int.tmod (Int.tdiv (lcg x (d + 1)) 65536) 100 < ch)
/-- the days on which no work goes -/
def wr (M : Nat → Nat → Int) (x ch : Int) : Nat → Bool := fun d => dr M d || (decide (d < 400) && wt x ch d)
theorem wr_far (M : Nat → Nat → Int) (x ch : Int) : ∀ d, 400 ≤ d → wr M x ch d = false := fun d h => by
  unfold wr
  rw [dr_far M d (by omega)]
  simp
  omega
/-- the end of a work with a start by the weather -/
noncomputable def wE (r : Nat → Bool) (s n : Nat) : Int := ((dn r (dy_b r s + n - 1) : Nat) : Int) + 1
/-- the working days left of it before a day -/
def lf (r : Nat → Bool) (s n d : Nat) : Nat := n - (dy_b r d - dy_b r s)
theorem lf_le (r : Nat → Bool) (s n d : Nat) : lf r s n d ≤ n := Nat.sub_le _ _
theorem lf_0 (r : Nat → Bool) (s n : Nat) : lf r s n 0 = n := by unfold lf; rw [show dy_b r 0 = 0 from rfl]; omega
theorem lf_s (r : Nat → Bool) (s n d : Nat) : lf r s n (d + 1) = if r d = false ∧ s ≤ d ∧ 0 < lf r s n d then lf r s n d - 1 else lf r s n d := by
  unfold lf
  rw [dy_s]
  by_cases q : r d = false
  · by_cases q2 : s ≤ d
    · have h1 := dy_mono (r := r) q2
      rw [q]
      simp only [Bool.false_eq_true, if_false]
      by_cases q3 : 0 < n - (dy_b r d - dy_b r s)
      · rw [if_pos ⟨trivial, q2, q3⟩]; omega
      · rw [if_neg (fun k => q3 k.2.2)]; omega
    · have h1 := dy_mono (r := r) (show d + 1 ≤ s by omega)
      rw [dy_s, q] at h1
      rw [q]
      simp only [Bool.false_eq_true, if_false] at h1 ⊢
      rw [if_neg (fun k => q2 k.2.1)]
      omega
  · have q2 : r d = true := by simpa using q
    rw [q2]
    simp
theorem wE_iff {r : Nat → Bool} (hr : ∀ d, 400 ≤ d → r d = false) {s n : Nat} (hs : s < 400) (hn : 1 ≤ n) (T : Int) (hT : 0 ≤ T) : wE r s n ≤ T ↔ (∀ t : Nat, T ≤ (t : Int) → t < 400 → ¬ (r t = false ∧ s ≤ t ∧ 0 < lf r s n t)) ∧ (0 < lf r s n 400 → 400 + (lf r s n 400 : Int) ≤ T) := by
  have he := dn_ok hr (dy_b r s + n - 1)
  unfold wE
  generalize dn r (dy_b r s + n - 1) = e at *
  obtain ⟨e1, e2⟩ := he
  have hse : s ≤ e := (dy_le_iff e1).mp (by omega)
  have h4 : 400 ≤ e → lf r s n 400 = e + 1 - 400 := fun q => by
    have h5 := dy_far hr (e - 400)
    have h6 := dy_mono (r := r) (show s ≤ 400 by omega)
    rw [show 400 + (e - 400) = e by omega] at h5
    unfold lf
    omega
  constructor
  · intro h
    refine ⟨fun t ht ht4 => ?_, fun hl => ?_⟩
    · rintro ⟨k1, k2, k3⟩
      have h1 := dy_mono (r := r) (show e + 1 ≤ t by omega)
      rw [dy_s, e1] at h1
      unfold lf at k3
      simp only [Bool.false_eq_true, if_false] at h1
      omega
    · have h6 := dy_mono (r := r) (show s ≤ 400 by omega)
      have h7 : 400 ≤ e := (dy_le_iff e1).mp (by unfold lf at hl; omega)
      rw [h4 h7]
      omega
  · rintro ⟨h1, h2⟩
    rcases Int.lt_or_le (e : Int) T with q | q
    · omega
    · exfalso
      rcases Nat.lt_or_ge e 400 with q2 | q2
      · refine h1 e q q2 ⟨e1, hse, ?_⟩
        unfold lf
        omega
      · have h3 := h4 q2
        have := h2 (by omega)
        omega
/-- no work goes on the days from T to d -/
def ngo (M : Nat → Nat → Int) (r : Nat → Bool) (nw d : Nat) (T : Int) : Prop := ∀ t : Nat, T ≤ (t : Int) → t < d → ∀ i, i < nw → ¬ (r t = false ∧ (M 23 i).toNat ≤ t ∧ 0 < lf r (M 23 i).toNat (M (14 + i) 5).toNat t)
def wfr2 (M M1 : Nat → Nat → Int) : Prop := ∀ a k, a ≠ 48 → a ≠ 49 → M1 a k = M a k
theorem wfr2.lo {M M1 : Nat → Nat → Int} (h : wfr2 M M1) : lo M M1 := fun a k ha => h a k (by omega) (by omega)
/-- one working day of the weather -/
def gon (M : Nat → Nat → Int) (nw : Nat) (day : Int) (M1 M2 : Nat → Nat → Int) : Prop := (∀ a k, a ≠ 49 → M2 a k = M1 a k) ∧ IR M2 ∧ ∀ i, i < nw → M2 49 i = if 0 < M1 49 i ∧ M 23 i ≤ day then M1 49 i - 1 else M1 49 i
