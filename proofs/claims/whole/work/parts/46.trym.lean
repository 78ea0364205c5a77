def WN (M : Nat → Nat → Int) (nb l : Nat) (S D : Nat → Int) (d : Nat) (M1 : Nat → Nat → Int) : Prop := (∀ n, M1 (35 + (2 * l + d)) 0 ≤ n ↔ oL M l (d : Int) nb n ∧ ∀ o, o < l → kLs M S D o l (d : Int) n) ∧ (∀ n, n ≤ M1 (35 + (2 * l + d)) 1 ↔ oG M l n ∧ ∀ o, o < l → kGs M S D o l (d : Int) n)
def SV (l : Nat) (S D : Nat → Int) : Prop := ∀ i, i < l → 0 ≤ S i ∧ S i ≤ 99 ∧ (D i = 0 ∨ D i = 1)
theorem SV.up {l : Nat} {S D : Nat → Int} (h : SV l S D) {s d : Int} (hs : 0 ≤ s ∧ s ≤ 99) (hd : d = 0 ∨ d = 1) : SV (l + 1) (va_up S l s) (va_up D l d) := by
  intro i hi
  by_cases q : i = l
  · subst q
    simp only [va_up, if_true]
    exact ⟨hs.1, hs.2, hd⟩
  · simp only [va_up, if_neg q]
    exact h i (by omega)
theorem up_lt {S : Nat → Int} {l i : Nat} {s : Int} (h : i < l) : va_up S l s i = S i := by
  simp only [va_up, if_neg (show ¬ i = l by omega)]
theorem up_at {S : Nat → Int} {l : Nat} {s : Int} : va_up S l s l = s := by simp only [va_up, if_true]
theorem eT_r {M : Nat → Nat → Int} {w : Nat} (hW : IW M w) {s : Int} (hs : 0 ≤ s ∧ s ≤ 1000) : 1 ≤ eT M w s ∧ eT M w s ≤ 1400 := by
  have nq := hW.need
  have b1 := Bd_r M s
  have d1 := Dd_r M (Bd M s + M (14 + w) 5 - 1)
  unfold eT
  omega
theorem gE_r {M : Nat → Nat → Int} {S : Nat → Int} (n : Nat) (h : ∀ i, i < n → IW M i ∧ 0 ≤ S i ∧ S i ≤ 1000) : 0 ≤ gE M S n ∧ gE M S n ≤ 1400 := by
  induction n with
  | zero => exact ⟨Int.le_refl _, by show (0 : Int) ≤ 1400; decide⟩
  | succ n ih =>
    have h1 := ih (fun i hi => h i (by omega))
    have h2 := eT_r (h n (by omega)).1 (h n (by omega)).2
    simp only [gE]
    split <;> omega
theorem eb_c {M M1 M2 : Nat → Nat → Int} {ag : Int} {nw : Nat} {b : sB} (h : eb M ag nw M1 b) (h25 : ∀ k, 12 ≤ k → M2 25 k = M1 25 k) (h3 : ∀ i, M2 30 i = M1 30 i ∧ M2 31 i = M1 31 i) : eb M ag nw M2 b := by
  cases b with
  | none => exact (h25 12 (by decide)).trans h
  | some q =>
    obtain ⟨a1, a2, a3, a4⟩ := h
    exact ⟨(h25 12 (by decide)).trans a1, (h25 13 (by decide)).trans a2, (h25 14 (by decide)).trans a3, fun i hi => ⟨(h3 i).1.trans (a4 i hi).1, (h3 i).2.trans (a4 i hi).2⟩⟩
section STX
variable {M M1 : Nat → Nat → Int} {ag g : Int} {nw l nb : Nat} {S D : Nat → Int} {x : Int} {b : sB} {c : Bool}
theorem ST.done (h : ST M ag g nw l S D ((x, b), c) M1) (hx : sx_r (x + 1)) : ST M ag g nw l S D ((x + 1, b), c) (sx_u M1 25 10 (x + 1)) := by
  obtain ⟨h1, h2, h3, h4, h5, h6, h7, h8⟩ := h
  refine ⟨fun a k ha => ?_, h2.u 25 10 hx, h3, h4, rfl, h6, eb_c h7 (fun k hk => ?_) (fun i => ⟨rfl, rfl⟩), fun i hi => h8 i hi⟩
  · rw [sx_u_ne (by omega)]; exact h1 a k ha
  · simp only [sx_u, show ¬ k = 10 by omega, and_false, if_false]
theorem ST.cut (h : ST M ag g nw l S D ((x, b), c) M1) : ST M ag g nw l S D ((x, b), true) (sx_u M1 25 11 1) := by
  obtain ⟨h1, h2, h3, h4, h5, h6, h7, h8⟩ := h
  refine ⟨fun a k ha => ?_, h2.u 25 11 ⟨by decide, by decide⟩, h3, h4, h5, rfl, eb_c h7 (fun k hk => ?_) (fun i => ⟨rfl, rfl⟩), fun i hi => h8 i hi⟩
  · rw [sx_u_ne (by omega)]; exact h1 a k ha
  · simp only [sx_u, show ¬ k = 11 by omega, and_false, if_false]
theorem ST.put (h : ST M ag g nw l S D ((x, b), c) M1) {s d e v : Int} (hs : sx_r s) (hd : sx_r d) (he : sx_r e) (hv : sx_r v) (ee : e = gE M (va_up S l s) (l + 1)) (ev : v = gV M ag (va_up S l s) (va_up D l d) (l + 1)) :
    ST M ag g nw (l + 1) (va_up S l s) (va_up D l d) ((x, b), c) (sx_u (sx_u (sx_u (sx_u M1 27 l s) 28 l d) 33 l e) 34 l v) := by
  obtain ⟨h1, h2, h3, h4, h5, h6, h7, h8⟩ := h
  refine ⟨fun a k ha => ?_, (((h2.u 27 l hs).u 28 l hd).u 33 l he).u 34 l hv, h3, h4, h5, h6, eb_c h7 (fun k hk => rfl) (fun i => ⟨rfl, rfl⟩), fun i hi => ?_⟩
  · rw [sx_u_ne (by omega), sx_u_ne (by omega), sx_u_ne (by omega), sx_u_ne (by omega)]; exact h1 a k ha
  · by_cases q : i = l
    · subst q
      refine ⟨?_, ?_, ?_, ?_⟩
      · simp [sx_u, up_at]
      · simp [sx_u, up_at]
      · simp [sx_u]; exact ee
      · simp [sx_u]; exact ev
    · have h9 := h8 i (by omega)
      have hi2 : i < l := by omega
      rw [up_lt hi2, up_lt hi2, gE_c (i + 1) (fun k hk => up_lt (show k < l by omega)), gV_c (i + 1) (fun k hk => up_lt (show k < l by omega)) (fun k hk => up_lt (show k < l by omega))]
      simp [sx_u, q]
      exact h9
theorem ST.sub {S2 D2 : Nat → Int} {r : (Int × sB) × Bool} (h : ST M ag g nw (l + 1) S2 D2 r M1) (e1 : ∀ i, i < l → S2 i = S i) (e2 : ∀ i, i < l → D2 i = D i) : ST M ag g nw l S D r M1 := by
  obtain ⟨h1, h2, h3, h4, h5, h6, h7, h8⟩ := h
  refine ⟨h1, h2, h3, h4, h5, h6, h7, fun i hi => ?_⟩
  have h9 := h8 i (by omega)
  rw [e1 i hi, e2 i hi, gE_c (i + 1) (fun k hk => e1 k (by omega)), gV_c (i + 1) (fun k hk => e1 k (by omega)) (fun k hk => e2 k (by omega))] at h9
  exact h9
theorem ST.best (h : ST M ag g nw (l + 1) S D ((x, b), c) M1) (hn : l + 1 = nw) {M2 : Nat → Nat → Int} (k1 : ∀ a k, a ≠ 30 → a ≠ 31 → M2 a k = sx_u (sx_u (sx_u M1 25 12 1) 25 13 (M1 33 l)) 25 14 (M1 34 l) a k) (k2 : IR M2) (k3 : ∀ i, i ≤ l → M2 30 i = M1 27 i ∧ M2 31 i = M1 28 i) : ST M ag g nw (l + 1) S D ((x, some (S, D)), c) M2 := by
  obtain ⟨h1, h2, h3, h4, h5, h6, h7, h8⟩ := h
  have q : ∀ a k, a ≠ 30 → a ≠ 31 → a ≠ 25 → M2 a k = M1 a k := fun a k a1 a2 a3 => by
    rw [k1 a k a1 a2, sx_u_ne a3, sx_u_ne a3, sx_u_ne a3]
  have q25 : ∀ k, k < 12 → M2 25 k = M1 25 k := fun k hk => by
    rw [k1 25 k (by decide) (by decide)]
    simp only [sx_u, show ¬ k = 12 by omega, show ¬ k = 13 by omega, show ¬ k = 14 by omega, and_false, if_false]
  refine ⟨fun a k ha => (q a k (by omega) (by omega) (by omega)).trans (h1 a k ha), k2, (q25 8 (by decide)).trans h3, (q25 9 (by decide)).trans h4, (q25 10 (by decide)).trans h5, (q25 11 (by decide)).trans h6, ⟨?_, ?_, ?_, fun i hi => ?_⟩, fun i hi => ?_⟩
  · rw [k1 25 12 (by decide) (by decide)]; rfl
  · rw [k1 25 13 (by decide) (by decide), ← hn]; exact (h8 l (by omega)).2.2.1
  · rw [k1 25 14 (by decide) (by decide), ← hn]; exact (h8 l (by omega)).2.2.2
  · have a1 := k3 i (by omega)
    have a2 := h8 i (by omega)
    exact ⟨a1.1.trans a2.1, a1.2.trans a2.2.1⟩
  · rw [q 27 i (by decide) (by decide) (by decide), q 28 i (by decide) (by decide) (by decide), q 33 i (by decide) (by decide) (by decide), q 34 i (by decide) (by decide) (by decide)]
    exact h8 i hi
theorem bt_iff (h : eb M ag nw M1 b) {S2 D2 : Nat → Int} {e n : Int} (ee : e = gE M S2 (l + 1)) (en : n = gV M ag S2 D2 (l + 1)) : (M1 25 12 = 0 ∨ n < M1 25 14 ∨ (n = M1 25 14 ∧ e < M1 25 13)) ↔ bt M ag nw l S2 D2 b := by
  cases b with
  | none => exact ⟨fun _ => trivial, fun _ => Or.inl h⟩
  | some q =>
    obtain ⟨a1, a2, a3, a4⟩ := h
    rw [a1, a2, a3, ee, en]
    simp [bt]
theorem cR_iff (h1 : sfr M M1) (h8 : ∀ i, i < l → M1 27 i = S i ∧ M1 28 i = D i) (hl : l < 6) {d : Nat} (hWN : WN M nb l S D d M1) (s : Int) : (dr M1 s.toNat = false ∧ (M1 (35 + (2 * l + d)) 0 ≤ Bd M1 s ∧ Bd M1 s ≤ M1 (35 + (2 * l + d)) 1) ∧ hRm M1 27 l s l) ↔ cR M nb l (va_up S l s) (va_up D l (d : Int)) := by
  have hlo := h1.lo
  have e1 : hRm M1 27 l s l ↔ hRs M (va_up S l s) l s l := hRs_c (S1 := M1 27) hlo hl (by omega) (fun o ho => by rw [up_lt ho]; exact (h8 o ho).1) s
  unfold cR
  rw [up_at, up_at, lo_dr hlo, lo_Bd hlo, hWN.1, hWN.2, e1]
  refine and_congr Iff.rfl ?_
  have eL : (∀ o, o < l → kLs M S D o l (d : Int) (Bd M s)) ↔ ∀ o, o < l → kLs M (va_up S l s) (va_up D l (d : Int)) o l (d : Int) (Bd M s) :=
    ⟨fun q o ho => (kLs_c (fun _ _ _ => rfl) (by omega) hl (up_lt ho) (up_lt ho) _ _).mpr (q o ho), fun q o ho => (kLs_c (fun _ _ _ => rfl) (by omega) hl (up_lt ho) (up_lt ho) _ _).mp (q o ho)⟩
  have eG : (∀ o, o < l → kGs M S D o l (d : Int) (Bd M s)) ↔ ∀ o, o < l → kGs M (va_up S l s) (va_up D l (d : Int)) o l (d : Int) (Bd M s) :=
    ⟨fun q o ho => (kGs_c (fun _ _ _ => rfl) (by omega) hl (up_lt ho) (up_lt ho) _ _).mpr (q o ho), fun q o ho => (kGs_c (fun _ _ _ => rfl) (by omega) hl (up_lt ho) (up_lt ho) _ _).mp (q o ho)⟩
  rw [eL, eG]
  exact ⟨fun q => ⟨q.1.1, q.1.2, q.2⟩, fun q => ⟨⟨q.1, q.2.1⟩, q.2.2⟩⟩
end STX
theorem wfr.rf (l : Nat) (M : Nat → Nat → Int) : wfr l M M := fun _ _ _ => rfl
theorem wfr.tr {l : Nat} {M M1 M2 : Nat → Nat → Int} (h : wfr l M M1) (h2 : wfr l M1 M2) : wfr l M M2 := fun j k hj => (h2 j k hj).trans (h j k hj)
theorem wfr.le {l l2 : Nat} (hl : l ≤ l2) {M M1 : Nat → Nat → Int} (h : wfr l2 M M1) : wfr l M M1 := fun j k hj => h j k (by omega)
theorem wfr.u (l : Nat) {M M1 : Nat → Nat → Int} (h : wfr l M M1) {a k : Nat} {z : Int} (ha : a < 35) : wfr l M (sx_u M1 a k z) := fun j i hj => by rw [sx_u_ne (by omega)]; exact h j i hj
theorem WN.keep {M : Nat → Nat → Int} {nb l : Nat} {S D : Nat → Int} {d : Nat} {M1 M2 : Nat → Nat → Int} (h : WN M nb l S D d M1) (hd : d < 2) (hw : wfr (l + 1) M1 M2) : WN M nb l S D d M2 := by
  unfold WN
  rw [hw (2 * l + d) 0 (by omega), hw (2 * l + d) 1 (by omega)]
  exact h
theorem wy_go {d lw s : Int} (h1 : d ≤ lw) (h2 : lw ≤ d + 1) : wy d lw s = (s, d) :: wy (d + 1) lw s := by
  unfold wy
  rcases Int.lt_or_le d lw with q | q
  · rw [if_neg (by omega), if_neg (by omega), if_neg (by omega), if_pos (by omega)]
  · rw [if_neg (by omega), if_pos (by omega), if_pos (by omega)]
theorem wy_no {d lw s : Int} (h1 : lw < d) : wy d lw s = [] := by unfold wy; rw [if_pos h1]
