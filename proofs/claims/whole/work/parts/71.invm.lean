theorem sf.p {M M1 : Nat → Nat → Int} (h : sf M M1) {k : Nat} (hk : 25 ≤ k) (z : Int) : sf M (sx_u M1 51 k z) := fun b j h1 h2 h3 => by
  unfold sx_u
  rw [if_neg (fun q => h3 ⟨q.1, by omega⟩)]
  exact h b j h1 h2 h3
def vld (M : Nat → Nat → Int) (s d : Int) : Prop := (0 ≤ s ∧ s ≤ 99) ∧ (d = 0 ∨ d = 1) ∧ dr M s.toNat = false
/-- the reference's search at a point: what is left of the class's is the whole of it -/
def INV (M : Nat → Nat → Int) (ag g : Int) (nw nb : Nat) (F : (Int × sB) × Bool) (S0 D0 : Nat → Int) (l : Nat) (cs cd : Nat → Int) (nt : Nat → Nat) (x : Int) (b : sB) (M2 : Nat → Nat → Int) : Prop :=
  sf M M2 ∧ IR M2 ∧ M2 51 26 = x ∧ (0 ≤ x ∧ x ≤ g) ∧ eb2 M ag nw M2 b ∧ l ≤ nw ∧ (∀ j, j < l → M2 77 j = (nt j : Int) ∧ nt j ≤ trs M j) ∧ (∀ j, j + 1 < l → laid M j j (cs j) (cd j) M2 ∧ vld M (cs j) (cd j)) ∧ rsm g (GG M ag nw nb) (CC M) nw S0 D0 cs cd nt l ((x, b), false) = F
def nu (nt : Nat → Nat) (m v : Nat) : Nat → Nat := fun j => if j = m then v else nt j
theorem nu_at (nt : Nat → Nat) (m v : Nat) : nu nt m v m = v := by unfold nu; rw [if_pos rfl]
theorem nu_ne {nt : Nat → Nat} {m v j : Nat} (h : j ≠ m) : nu nt m v j = nt j := by unfold nu; rw [if_neg h]
section INVS
variable {M : Nat → Nat → Int} {ag g : Int} {nc nw nb : Nat} {F : (Int × sB) × Bool} {S0 D0 : Nat → Int} {m : Nat} {cs cd : Nat → Int} {nt : Nat → Nat} {x : Int} {b : sB} {M2 M3 : Nat → Nat → Int}
theorem trs_r (M : Nat → Nat → Int) (l : Nat) : 1 ≤ trs M l ∧ trs M l ≤ 200 := by unfold trs; (repeat' split) <;> omega
theorem INV.pop (h : INV M ag g nw nb F S0 D0 (m + 1) cs cd nt x b M2) (hn : nt m = trs M m) : INV M ag g nw nb F S0 D0 m cs cd nt x b M2 := by
  obtain ⟨a1, a2, a3, a4, a5, a6, a7, a8, a9⟩ := h
  refine ⟨a1, a2, a3, a4, a5, by omega, fun j hj => a7 j (by omega), fun j hj => a8 j (by omega), ?_⟩
  rw [rsm_pop m (by rw [hn]; exact CC_end M m)] at a9
  exact a9
theorem INV.V (h : INV M ag g nw nb F S0 D0 (m + 1) cs cd nt x b M2) : VS M m (sb S0 cs m) (sb D0 cd m) := fun j hj => by
  rw [sb_lt hj, sb_lt hj]
  exact (h.2.2.2.2.2.2.2.1 j (by omega)).2
theorem INV.S (h : INV M ag g nw nb F S0 D0 (m + 1) cs cd nt x b M2) : SLt M m (sb S0 cs m) (sb D0 cd m) M2 := fun j hj => by
  rw [sb_lt hj, sb_lt hj]
  exact (h.2.2.2.2.2.2.2.1 j (by omega)).1
/-- one try more -/
def mtr (M2 : Nat → Nat → Int) (m : Nat) (n x : Int) : Nat → Nat → Int := sx_u (sx_u M2 77 m n) 51 26 x
theorem INV.step (h : INV M ag g nw nb F S0 D0 (m + 1) cs cd nt x b M2) (hws : WKs M nw nb) (hf : lyf m (mtr M2 m ((nt m : Int) + 1) (x + 1)) M3) : M3 51 26 = x + 1 ∧ eb2 M ag nw M3 b ∧ (∀ j, j < m → M3 77 j = (nt j : Int)) ∧ M3 77 m = (nt m : Int) + 1 ∧ ∀ j, j < m → laid M j j (cs j) (cd j) M3 := by
  obtain ⟨a1, a2, a3, a4, a5, a6, a7, a8, a9⟩ := h
  refine ⟨hf.1 51 26 (by omega), eb2_c a5 (fun k hk => ?_) (fun k => hf.1 78 k (by omega)) (fun k => hf.1 79 k (by omega)), fun j hj => ?_, ?_, fun j hj => ?_⟩
  · rw [hf.1 51 k (by omega)]
    unfold mtr
    rw [sx_uk (by omega), sx_u_ne (by decide)]
  · rw [hf.1 77 j (by omega)]
    unfold mtr
    rw [sx_u_ne (by decide), sx_uk (by omega)]
    exact (a7 j (by omega)).1
  · rw [hf.1 77 m (by omega)]
    unfold mtr
    rw [sx_u_ne (by decide), sx_us]
  · exact laid_c (hws j (by omega)).1 (M2 := mtr M2 m ((nt m : Int) + 1) (x + 1)) (a8 j (by omega)).1 hf (by omega)
theorem INV.no (h : INV M ag g nw nb F S0 D0 (m + 1) cs cd nt x b M2) (hws : WKs M nw nb) (hf : lyf m (mtr M2 m ((nt m : Int) + 1) (x + 1)) M3) (h3 : sf M M3) (h4 : IR M3) (hn : nt m < trs M m) (hx : x < g) (hG : ¬ GG M ag nw nb m (va_up (sb S0 cs m) m (cnd M m (nt m)).1) (va_up (sb D0 cd m) m (cnd M m (nt m)).2) b = true) : INV M ag g nw nb F S0 D0 (m + 1) cs cd (nu nt m (nt m + 1)) (x + 1) b M3 := by
  obtain ⟨s1, s2, s3, s4, s5⟩ := h.step hws hf
  obtain ⟨a1, a2, a3, a4, a5, a6, a7, a8, a9⟩ := h
  refine ⟨h3, h4, s1, by omega, s2, a6, fun j hj => ?_, fun j hj => ⟨s5 j (by omega), (a8 j hj).2⟩, ?_⟩
  · by_cases q : j = m
    · subst q; rw [nu_at]; exact ⟨by rw [s4]; omega, by omega⟩
    · rw [nu_ne q]; exact ⟨s3 j (by omega), (a7 j hj).2⟩
  · rw [← a9]
    exact (rsm_no m (CC_at hn) (by omega) hG (fun j hj => nu_ne (by omega)) (nu_at _ _ _)).symm
theorem INV.deep (h : INV M ag g nw nb F S0 D0 (m + 1) cs cd nt x b M2) (hws : WKs M nw nb) (hf : lyf m (mtr M2 m ((nt m : Int) + 1) (x + 1)) M3) (h3 : sf M M3) (h4 : IR M3) (hn : nt m < trs M m) (hx : x < g) (hm : m + 1 < nw) (hG : GG M ag nw nb m (va_up (sb S0 cs m) m (cnd M m (nt m)).1) (va_up (sb D0 cd m) m (cnd M m (nt m)).2) b = true) (hL : laid M m m (cnd M m (nt m)).1 (cnd M m (nt m)).2 M3) (hv : vld M (cnd M m (nt m)).1 (cnd M m (nt m)).2) : INV M ag g nw nb F S0 D0 (m + 1 + 1) (va_up cs m (cnd M m (nt m)).1) (va_up cd m (cnd M m (nt m)).2) (nu (nu nt m (nt m + 1)) (m + 1) 0) (x + 1) b (sx_u M3 77 (m + 1) 0) := by
  obtain ⟨s1, s2, s3, s4, s5⟩ := h.step hws hf
  obtain ⟨a1, a2, a3, a4, a5, a6, a7, a8, a9⟩ := h
  refine ⟨h3.u (by decide) _ _, h4.u _ _ (by omega), s1, by omega, eb2_c s2 (fun k hk => rfl) (fun k => rfl) (fun k => rfl), by omega, fun j hj => ?_, fun j hj => ?_, ?_⟩
  · by_cases q : j = m + 1
    · subst q; rw [nu_at, sx_us]; exact ⟨rfl, Nat.zero_le _⟩
    · rw [nu_ne q, sx_uk q]
      by_cases q2 : j = m
      · subst q2; rw [nu_at]; exact ⟨by rw [s4]; omega, by omega⟩
      · rw [nu_ne q2]; exact ⟨s3 j (by omega), (a7 j (by omega)).2⟩
  · by_cases q : j = m
    · subst q; rw [up_at, up_at]; exact ⟨hL, hv⟩
    · rw [up_lt (by omega), up_lt (by omega)]; exact ⟨s5 j (by omega), (a8 j (by omega)).2⟩
  · rw [← a9]
    exact (rsm_deep m hm (CC_at hn) (by omega) hG (fun j hj => up_lt hj) (fun j hj => up_lt hj) (fun j hj => by rw [nu_ne (by omega), nu_ne (by omega)]) (by rw [nu_ne (by omega), nu_at]) (nu_at _ _ _) up_at up_at).symm
theorem INV.leaf {M4 M5 : Nat → Nat → Int} (h : INV M ag g nw nb F S0 D0 (m + 1) cs cd nt x b M2) (hws : WKs M nw nb) (hf : lyf m (mtr M2 m ((nt m : Int) + 1) (x + 1)) M3) (hn : nt m < trs M m) (hx : x < g) (hm : nw = m + 1) (hG : GG M ag nw nb m (va_up (sb S0 cs m) m (cnd M m (nt m)).1) (va_up (sb D0 cd m) m (cnd M m (nt m)).2) b = true) (hS : SLt M nw (va_up (sb S0 cs m) m (cnd M m (nt m)).1) (va_up (sb D0 cd m) m (cnd M m (nt m)).2) M3) (hV : VS M nw (va_up (sb S0 cs m) m (cnd M m (nt m)).1) (va_up (sb D0 cd m) m (cnd M m (nt m)).2)) (h5 : sf M M5) (h6 : IR M5) (e4 : M4 = sx_u (sx_u (sx_u M3 51 33 1) 51 34 (gE M (va_up (sb S0 cs m) m (cnd M m (nt m)).1) nw)) 51 35 (gV M ag (va_up (sb S0 cs m) m (cnd M m (nt m)).1) (va_up (sb D0 cd m) m (cnd M m (nt m)).2) nw)) (f5 : ∀ a k, a ≠ 78 → a ≠ 79 → M5 a k = M4 a k) (c5 : ∀ j, j < nw → M5 78 j = M4 72 j ∧ M5 79 j = M4 73 j) : INV M ag g nw nb F S0 D0 (m + 1) cs cd (nu nt m (nt m + 1)) (x + 1) (some (va_up (sb S0 cs m) m (cnd M m (nt m)).1, va_up (sb D0 cd m) m (cnd M m (nt m)).2)) M5 := by
  obtain ⟨s1, s2, s3, s4, s5⟩ := h.step hws hf
  obtain ⟨a1, a2, a3, a4, a5, a6, a7, a8, a9⟩ := h
  have g5 : ∀ a k, a ≠ 51 → a ≠ 78 → a ≠ 79 → M5 a k = M3 a k := fun a k q1 q2 q3 => by rw [f5 a k q2 q3, e4, sx_u_ne q1, sx_u_ne q1, sx_u_ne q1]
  refine ⟨h5, h6, ?_, by omega, ⟨?_, ?_, ?_, fun i hi => ?_, hV⟩, a6, fun j hj => ?_, fun j hj => ⟨?_, (a8 j hj).2⟩, ?_⟩
  · rw [f5 51 26 (by decide) (by decide), e4]; exact s1
  · rw [f5 51 33 (by decide) (by decide), e4]; rfl
  · rw [f5 51 34 (by decide) (by decide), e4]; rfl
  · rw [f5 51 35 (by decide) (by decide), e4]; rfl
  · have c := c5 i hi
    rw [e4] at c
    exact ⟨c.1.trans (hS i hi).1, c.2.trans (hS i hi).2.1⟩
  · rw [g5 77 j (by decide) (by decide) (by decide)]
    by_cases q : j = m
    · subst q; rw [nu_at]; exact ⟨by rw [s4]; omega, by omega⟩
    · rw [nu_ne q]; exact ⟨s3 j (by omega), (a7 j hj).2⟩
  · have l5 := s5 j (by omega)
    refine ⟨(g5 72 _ (by decide) (by decide) (by decide)).trans l5.1, (g5 73 _ (by decide) (by decide) (by decide)).trans l5.2.1, (g5 74 _ (by decide) (by decide) (by decide)).trans l5.2.2.1, fun p h1 h2 => ?_⟩
    have := l5.2.2.2 p h1 h2
    exact ⟨(g5 75 _ (by decide) (by decide) (by decide)).trans this.1, (g5 76 _ (by decide) (by decide) (by decide)).trans this.2⟩
  · rw [← a9]
    exact (rsm_leaf m hm (CC_at hn) (by omega) hG (fun j hj => nu_ne (by omega)) (nu_at _ _ _)).symm
end INVS
/-- the class's cells stay -/
def lwf (Mz M1 : Nat → Nat → Int) : Prop := ∀ a k, a < 51 → M1 a k = Mz a k
theorem lwf.u {Mz M1 : Nat → Nat → Int} (h : lwf Mz M1) {a : Nat} (ha : 51 ≤ a) (k : Nat) (z : Int) : lwf Mz (sx_u M1 a k z) := fun b j hb => by rw [sx_u_ne (by omega)]; exact h b j hb
theorem lwf.t {Mz M1 M2 : Nat → Nat → Int} (h : lwf Mz M1) (h2 : ∀ a k, ¬ (72 ≤ a ∧ a ≤ 76) → M2 a k = M1 a k) : lwf Mz M2 := fun a k ha => (h2 a k (by omega)).trans (h a k ha)
theorem lwf.rf (M : Nat → Nat → Int) : lwf M M := fun _ _ _ => rfl
