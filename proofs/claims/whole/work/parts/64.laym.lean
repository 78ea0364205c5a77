theorem sx_uu (M : Nat → Nat → Int) (a k : Nat) (x z : Int) : sx_u (sx_u M a k x) a k z = sx_u M a k z := by
  funext b j
  unfold sx_u
  split <;> rfl
theorem sx_uk {M : Nat → Nat → Int} {a b k j : Nat} {z : Int} (h : j ≠ k) : sx_u M a k z b j = M b j := by
  unfold sx_u
  rw [if_neg (fun q => h q.2)]
/-- laying a work changes its own slot only -/
def lyf (sl : Nat) (M1 M2 : Nat → Nat → Int) : Prop := (∀ a k, ¬ (72 ≤ a ∧ a ≤ 76) → M2 a k = M1 a k) ∧ (∀ a k, 72 ≤ a → a ≤ 74 → k ≠ sl → M2 a k = M1 a k) ∧ (∀ a k, 75 ≤ a → a ≤ 76 → (k < 201 * sl ∨ 201 * sl + 201 ≤ k) → M2 a k = M1 a k)
theorem lyf.w {sl : Nat} {M1 M2 : Nat → Nat → Int} (h : lyf sl M1 M2) {a A : Nat} (h1 : 75 ≤ a) (h2 : a ≤ 76) (h3 : 201 * sl ≤ A) (h4 : A < 201 * sl + 201) (z : Int) : lyf sl M1 (sx_u M2 a A z) :=
  ⟨fun b k q => by rw [sx_u_ne (by omega)]; exact h.1 b k q, fun b k q1 q2 q3 => by rw [sx_u_ne (by omega)]; exact h.2.1 b k q1 q2 q3, fun b k q1 q2 q3 => by rw [sx_uk (by omega)]; exact h.2.2 b k q1 q2 q3⟩
theorem lyf.v {sl : Nat} {M1 M2 : Nat → Nat → Int} (h : lyf sl M1 M2) {a : Nat} (h1 : 72 ≤ a) (h2 : a ≤ 74) (z : Int) : lyf sl M1 (sx_u M2 a sl z) :=
  ⟨fun b k q => by rw [sx_u_ne (by omega)]; exact h.1 b k q, fun b k q1 q2 q3 => by rw [sx_uk q3]; exact h.2.1 b k q1 q2 q3, fun b k q1 q2 q3 => by rw [sx_u_ne (by omega)]; exact h.2.2 b k q1 q2 q3⟩
theorem lyf.sf {sl : Nat} {M1 M2 : Nat → Nat → Int} (h : lyf sl M1 M2) : sf M1 M2 := fun a k h1 h2 h3 => h.1 a k (by omega)
def lys (M : Nat → Nat → Int) (w sl : Nat) (s d : Int) (n : Nat) (M2 : Nat → Nat → Int) : Prop := ∀ j, j < n → M2 75 (201 * sl + (pl M w d j).toNat) = pT M w s d (pl M w d j) 0 ∧ M2 76 (201 * sl + (pl M w d j).toNat) = pT M w s d (pl M w d j) 1
theorem pl_r {M : Nat → Nat → Int} {w : Nat} (hW : IW M w) {d : Int} {j : Nat} (hj : (j : Int) ≤ M (14 + w) 3 - M (14 + w) 2) : M (14 + w) 2 ≤ pl M w d j ∧ pl M w d j ≤ M (14 + w) 3 := by
  obtain ⟨a1, a2, a3, a4, a5, a6⟩ := hW
  unfold pl
  split <;> omega
theorem pl_ne {M : Nat → Nat → Int} {w : Nat} (hW : IW M w) {d : Int} {i j : Nat} (hj : (i : Int) ≤ M (14 + w) 3 - M (14 + w) 2) (h : j < i) : (pl M w d j).toNat ≠ (pl M w d i).toNat := by
  have h1 := pl_r hW (d := d) (j := j) (by omega)
  have h2 := pl_r hW (d := d) hj
  obtain ⟨a1, a2, a3, a4, a5, a6⟩ := hW
  unfold pl at *
  split at h1 <;> split at h2 <;> first | (rename_i q1 q2; exact absurd q1 q2) | (rename_i q1 q2; exact absurd q2 q1) | (simp only [*, if_true, if_false] at *; omega)
theorem lys_s {M : Nat → Nat → Int} {w sl : Nat} {s d : Int} {i : Nat} {M2 : Nat → Nat → Int} (hW : IW M w) (hi : (i : Int) ≤ M (14 + w) 3 - M (14 + w) 2) (h : lys M w sl s d i M2) {X Y : Int} (hX : X = pT M w s d (pl M w d i) 0) (hY : Y = pT M w s d (pl M w d i) 1) : lys M w sl s d (i + 1) (sx_u (sx_u M2 75 (201 * sl + (pl M w d i).toNat) X) 76 (201 * sl + (pl M w d i).toNat) Y) := fun j hj => by
  by_cases q : j = i
  · subst q
    rw [sx_us, sx_u_ne (by decide), sx_us]
    exact ⟨hX, hY⟩
  · have h1 := pl_ne hW (d := d) hi (show j < i by omega)
    rw [sx_uk (by omega), sx_uk (by omega), sx_uk (by omega), sx_uk (by omega)]
    exact h j (by omega)
/-- a work is laid in a slot -/
def laid (M : Nat → Nat → Int) (w sl : Nat) (s d : Int) (M2 : Nat → Nat → Int) : Prop := M2 72 sl = s ∧ M2 73 sl = d ∧ M2 74 sl = eT M w s ∧ ∀ p, M (14 + w) 2 ≤ p → p ≤ M (14 + w) 3 → M2 75 (201 * sl + p.toNat) = pT M w s d p 0 ∧ M2 76 (201 * sl + p.toNat) = pT M w s d p 1
theorem laid_of {M : Nat → Nat → Int} {w sl : Nat} {s d : Int} {n : Nat} {M2 : Nat → Nat → Int} (hn : M (14 + w) 3 - M (14 + w) 2 < (n : Int)) (h : lys M w sl s d n M2) : ∀ p, M (14 + w) 2 ≤ p → p ≤ M (14 + w) 3 → M2 75 (201 * sl + p.toNat) = pT M w s d p 0 ∧ M2 76 (201 * sl + p.toNat) = pT M w s d p 1 := fun p h1 h2 => by
  have e : pl M w d (wx M w p d).toNat = p := by
    unfold pl wx
    by_cases q : d = 0
    · rw [if_pos q, if_pos q]; omega
    · rw [if_neg q, if_neg q]; omega
  have h3 := h (wx M w p d).toNat (by unfold wx; split <;> omega)
  rw [e] at h3
  exact h3
theorem dv_next {v : Int} (hv : 1 ≤ v) {i : Int} : i / v = if (i - 1) % v + 1 = v then (i - 1) / v + 1 else (i - 1) / v := by
  have h1 := Int.mul_ediv_add_emod (i - 1) v
  rw [Int.mul_comm] at h1
  split
  · have e2 : i = ((i - 1) / v + 1) * v := by rw [Int.add_mul, Int.one_mul]; omega
    have := Int.mul_ediv_cancel ((i - 1) / v + 1) (show v ≠ 0 by omega)
    rw [← e2] at this
    exact this
  · have h3 := Int.emod_lt_of_pos (i - 1) (show 0 < v by omega)
    have h4 := Int.emod_nonneg (i - 1) (show v ≠ 0 by omega)
    have e4 : i = ((i - 1) % v + 1) + (i - 1) / v * v := by omega
    have e5 := Int.add_mul_ediv_right ((i - 1) % v + 1) ((i - 1) / v) (show v ≠ 0 by omega)
    rw [← e4] at e5
    have e6 : ((i - 1) % v + 1) / v = 0 := Int.ediv_eq_zero_of_lt (by omega) (by omega)
    omega
/-- the day on which a work goes on -/
def hD (M : Nat → Nat → Int) (w : Nat) (s : Int) (i : Nat) (dy : Int) : Prop := (i = 0 → dy = s) ∧ (1 ≤ i → (i : Int) ≤ M (14 + w) 3 - M (14 + w) 2 → dy = Dd M (Bd M s + ((i : Int) - 1) / M (14 + w) 4)) ∧ (M (14 + w) 3 - M (14 + w) 2 < (i : Int) → dy = Dd M (Bd M s + (M (14 + w) 3 - M (14 + w) 2 - 1) / M (14 + w) 4))
theorem hD_1 {M : Nat → Nat → Int} {w : Nat} {s : Int} (hW : IW M w) (h0 : 0 ≤ s) (h : dr M s.toNat = false) : hD M w s (0 + 1) s := by
  obtain ⟨a1, a2, a3, a4, a5, a6⟩ := hW
  refine ⟨fun q => absurd q (by omega), fun _ _ => ?_, fun q => absurd q (by omega)⟩
  rw [show (((0 + 1 : Nat) : Int) - 1) / M (14 + w) 4 = 0 by simp, Int.add_zero, Dd_eq h0 h rfl]
theorem hD_n {M : Nat → Nat → Int} {w : Nat} {s dy : Int} {i : Nat} (hW : IW M w) (h1 : 1 ≤ i) (hi : (i : Int) ≤ M (14 + w) 3 - M (14 + w) 2) (h : hD M w s i dy) (hn : ((i : Int) - 1) % M (14 + w) 4 + 1 ≠ M (14 + w) 4 ∨ M (14 + w) 3 - M (14 + w) 2 ≤ (i : Int)) : hD M w s (i + 1) dy := by
  have e := h.2.1 h1 hi
  refine ⟨fun q => absurd q (by omega), fun _ q => ?_, fun q => ?_⟩
  · rw [show (((i + 1 : Nat) : Int) - 1) = (i : Int) by omega, dv_next hW.2.2.2.1, if_neg (by omega)]
    exact e
  · rw [e, show M (14 + w) 3 - M (14 + w) 2 = (i : Int) by omega]
theorem hD_a {M : Nat → Nat → Int} {w : Nat} {s dy : Int} {i : Nat} (hW : IW M w) (h1 : 1 ≤ i) (hi : (i : Int) < M (14 + w) 3 - M (14 + w) 2) (h : hD M w s i dy) (hn : ((i : Int) - 1) % M (14 + w) 4 + 1 = M (14 + w) 4) : Dd M (Bd M dy + 1) = Dd M (Bd M s + (((i : Int) - 1) / M (14 + w) 4 + 1)) ∧ hD M w s (i + 1) (Dd M (Bd M dy + 1)) := by
  have e := h.2.1 h1 (by omega)
  have hv := hW.2.2.2.1
  have hq : 0 ≤ ((i : Int) - 1) / M (14 + w) 4 := Int.ediv_nonneg (by omega) (by omega)
  have hb := Bd_Dd M (n := Bd M s + ((i : Int) - 1) / M (14 + w) 4) (by have := (Bd_r M s).1; omega)
  rw [← e] at hb
  have e2 : Dd M (Bd M dy + 1) = Dd M (Bd M s + (((i : Int) - 1) / M (14 + w) 4 + 1)) := by rw [hb.1, Int.add_assoc]
  refine ⟨e2, fun q => absurd q (by omega), fun _ q => ?_, fun q => absurd q (by omega)⟩
  rw [show (((i + 1 : Nat) : Int) - 1) = (i : Int) by omega, dv_next hv, if_pos hn]
  exact e2
theorem hD_e {M : Nat → Nat → Int} {w : Nat} {s dy : Int} {i : Nat} (hW : IW M w) (hi : M (14 + w) 3 - M (14 + w) 2 < (i : Int)) (h : hD M w s i dy) : dy + 1 = eT M w s := by
  have e := h.2.2 hi
  obtain ⟨a1, a2, a3, a4, a5, a6⟩ := hW
  unfold eT
  rw [e, a6, show M (14 + w) 3 - M (14 + w) 2 + M (14 + w) 4 - 1 = (M (14 + w) 3 - M (14 + w) 2 - 1) + 1 * M (14 + w) 4 by omega, Int.add_mul_ediv_right _ _ (show M (14 + w) 4 ≠ 0 by omega)]
  rw [show Bd M s + ((M (14 + w) 3 - M (14 + w) 2 - 1) / M (14 + w) 4 + 1) - 1 = Bd M s + (M (14 + w) 3 - M (14 + w) 2 - 1) / M (14 + w) 4 by omega]
theorem hD_r {M : Nat → Nat → Int} {w : Nat} {s dy : Int} {i : Nat} (hW : IW M w) (hs : 0 ≤ s ∧ s ≤ 1000) (hw : dr M s.toNat = false) (hi : (i : Int) ≤ 201) (h : hD M w s i dy) : (0 ≤ dy ∧ dy ≤ 1600) ∧ dr M dy.toNat = false := by
  have hv := hW.2.2.2.1
  have b := Bd_r M s
  obtain ⟨a1, a2, a3, a4, a5, a6⟩ := id hW
  have key : ∀ q : Int, 0 ≤ q → q ≤ 200 → (0 ≤ Dd M (Bd M s + q) ∧ Dd M (Bd M s + q) ≤ 1600) ∧ dr M (Dd M (Bd M s + q)).toNat = false := fun q h1 h2 => by
    have d := Dd_r M (Bd M s + q)
    exact ⟨by omega, (Bd_Dd M (by omega)).2⟩
  have dq : ∀ z : Int, 0 ≤ z → z ≤ 200 → 0 ≤ z / M (14 + w) 4 ∧ z / M (14 + w) 4 ≤ 200 := fun z h1 h2 => ⟨Int.ediv_nonneg h1 (by omega), by have := Int.ediv_le_self (M (14 + w) 4) h1; omega⟩
  by_cases q0 : i = 0
  · rw [h.1 q0]; exact ⟨by omega, hw⟩
  · by_cases q1 : (i : Int) ≤ M (14 + w) 3 - M (14 + w) 2
    · rw [h.2.1 (by omega) q1]
      have := dq ((i : Int) - 1) (by omega) (by omega)
      exact key _ this.1 this.2
    · rw [h.2.2 (by omega)]
      have := dq (M (14 + w) 3 - M (14 + w) 2 - 1) (by omega) (by omega)
      exact key _ this.1 this.2
