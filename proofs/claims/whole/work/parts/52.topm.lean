theorem dy_set {r r2 : Nat → Bool} {d : Nat} (hd : r d = false) (h2 : r2 d = true) (ho : ∀ e, e ≠ d → r2 e = r e) (n : Nat) : dy_b r n = dy_b r2 n + (if d < n then 1 else 0) := by
  induction n with
  | zero => rfl
  | succ n ih =>
    rw [dy_s, dy_s]
    by_cases q : n = d
    · subst q
      rw [hd, h2]
      simp at ih ⊢
      omega
    · rw [ho n q]
      by_cases q2 : d < n
      · rw [if_pos q2] at ih
        rw [show (if d < n + 1 then 1 else 0) = 1 from if_pos (by omega)]
        omega
      · rw [if_neg q2] at ih
        rw [show (if d < n + 1 then 1 else 0) = 0 from if_neg (by omega)]
        omega
/-- what giving a rest day leaves -/
def gvr (d : Nat) (M M2 : Nat → Nat → Int) : Prop := (∀ a k, a ≠ 5 → a ≠ 6 → M2 a k = sx_u (sx_u M 4 d 1) 3 3 (M 3 3 + 1) a k) ∧ IDy M2 ∧ IR M2
theorem gvr_of {M M2 : Nat → Nat → Int} (hI : IDy M) (hR : IR M) {d : Nat} (hd : d < 200) (hr : M 4 d = 0) (h : cwd_P (sx_u (sx_u M 4 d 1) 3 3 (M 3 3 + 1)) M2) : gvr d M M2 := by
  obtain ⟨h1, h2, h3, hIR⟩ := h
  have q4 := dy_le (dr M) 200
  have q5 := hI.2.2.2
  have e4 : ∀ k, sx_u (sx_u M 4 d 1) 3 3 (M 3 3 + 1) 4 k = if k = d then 1 else M 4 k := fun k => by
    rw [sx_u_ne (by decide)]
    unfold sx_u
    by_cases q : k = d
    · rw [if_pos ⟨rfl, q⟩, if_pos q]
    · rw [if_neg (fun z => q z.2), if_neg q]
  have ed : dr M2 = dr (sx_u (sx_u M 4 d 1) 3 3 (M 3 3 + 1)) := by
    funext e
    simp only [dr, h1 4 e (by decide) (by decide)]
  have hr0 : dr M d = false := by simp [dr]; intro _; omega
  have hr1 : dr (sx_u (sx_u M 4 d 1) 3 3 (M 3 3 + 1)) d = true := by simp [dr, e4, hd]
  have hro : ∀ e, e ≠ d → dr (sx_u (sx_u M 4 d 1) 3 3 (M 3 3 + 1)) e = dr M e := fun e he => by simp only [dr, e4, if_neg he]
  have hs := dy_set hr0 hr1 hro 200
  rw [if_pos hd] at hs
  refine ⟨h1, ?_, hIR ((hR.u 4 d (by omega)).u 3 3 (by omega))⟩
  unfold IDy
  rw [ed]
  refine ⟨fun e he => ?_, h2, h3, ?_⟩
  · rw [h1 4 e (by decide) (by decide), e4]
    by_cases q : e = d
    · rw [if_pos q]; exact Or.inr rfl
    · rw [if_neg q]; exact hI.1 e he
  · rw [h1 3 3 (by decide) (by decide), show sx_u (sx_u M 4 d 1) 3 3 (M 3 3 + 1) 3 3 = M 3 3 + 1 from rfl]
    have := hI.2.2.2
    omega
theorem x_K_setSpeed {L : Nat} {xs : Nat → Int32} {M : Nat → Nat → Int} (hR : IR M) (w : Nat) (hw : w < 6) (p v : Int) (hp : sx_r p) (hv : v = if p < 1 then 1 else if 50 < p then 50 else p) (hft : 0 ≤ M (14 + w) 3 - M (14 + w) 2 ∧ M (14 + w) 3 - M (14 + w) 2 ≤ 200) : sx_R y_K_setSpeed (1, 0, 0) L xs [sx_p (14 + w), .inl p] (gm M) (fun q h2 => q = none ∧ h2 = gm (sx_u (sx_u M (14 + w) 4 v) (14 + w) 5 ((M (14 + w) 3 - M (14 + w) 2 + v - 1) / v))) := by
  have h := c_K_setSpeed (L := L) (xs := xs) M hR w hw p hp hft
  rw [show (if 1 < (if p < 50 then p else 50) then (if p < 50 then p else 50) else 1) = v by rw [hv]; (repeat' split) <;> omega] at h
  exact h
theorem w_K_setSpeed {L : Nat} {xs : Nat → Int32} {M : Nat → Nat → Int} (hR : IR M) (w : Nat) (hw : w < 6) (p v len : Int) (hp : sx_r p) (hv : v = if p < 1 then 1 else if 50 < p then 50 else p) (hlen : M (14 + w) 3 - M (14 + w) 2 = len) (hft : 0 ≤ len ∧ len ≤ 200) : sx_R y_K_setSpeed (1, 0, 0) L xs [sx_p (14 + w), .inl p] (gm M) (fun q h2 => q = none ∧ h2 = gm (sx_u (sx_u M (14 + w) 4 v) (14 + w) 5 ((len + v - 1) / v))) := by
  have h := x_K_setSpeed (L := L) (xs := xs) hR w hw p v hp hv (by rw [hlen]; exact hft)
  rw [hlen] at h
  exact h
