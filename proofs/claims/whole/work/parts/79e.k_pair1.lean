theorem sx_cg {M M2 : Nat → Nat → Int} {c j a k : Nat} {z : Int} (h : M a k = M2 a k) : sx_u M c j z a k = sx_u M2 c j z a k := by unfold sx_u; rw [h]
/-- class and reference hold the same -/
def MRE (M : Nat → Nat → Int) : Prop := ∃ nc nw nb, MR M nc nw nb
/-- the class's call, then the reference's: one answer, and they hold the same again -/
def PP (yc ym : sx_Y) (L : Nat) (xs : Nat → Int32) (av : List sx_v) (M : Nat → Nat → Int) : Prop := ∃ k1 : Nat × Nat × Nat, (k1.1 ≤ 30 ∧ k1.2 = (0, 0)) ∧ sx_R yc k1 L xs (sx_p 1 :: av) (gm M) (fun v h2 => ∃ z M1, ∃ k2 : Nat × Nat × Nat, v = some (.inl z) ∧ h2 = gm M1 ∧ (k2.1 ≤ 30 ∧ k2.2 = (0, 0)) ∧ sx_R ym k2 L xs (sx_p 51 :: av) (gm M1) (fun v2 h3 => v2 = some (.inl z) ∧ ∃ M3, h3 = gm M3 ∧ MRE M3))
theorem pp1 {yc ym : sx_Y} {n1 L : Nat} {xs : Nat → Int32} {av : List sx_v} {M : Nat → Nat → Int} {P : Option sx_v → sx_h → Prop} (h1 : n1 ≤ 30) (hc : sx_R yc (n1, 0, 0) L xs (sx_p 1 :: av) (gm M) P) (hk : ∀ v h2, P v h2 → ∃ z M1 n2 Q, v = some (.inl z) ∧ h2 = gm M1 ∧ n2 ≤ 30 ∧ sx_R ym (n2, 0, 0) L xs (sx_p 51 :: av) (gm M1) Q ∧ ∀ v2 h3, Q v2 h3 → v2 = some (.inl z) ∧ ∃ M3, h3 = gm M3 ∧ MRE M3) : PP yc ym L xs av M := by
  refine ⟨(n1, 0, 0), ⟨h1, rfl⟩, hc.mono (fun v h2 p => ?_)⟩
  obtain ⟨z, M1, n2, Q, e1, e2, e3, e4, e5⟩ := hk v h2 p
  exact ⟨z, M1, (n2, 0, 0), e1, e2, ⟨e3, rfl⟩, e4.mono e5⟩
theorem pp_q {yc ym : sx_Y} {n1 n2 L : Nat} {xs : Nat → Int32} {av : List sx_v} {M : Nat → Nat → Int} {z : Int} (hM : MRE M) (h1 : n1 ≤ 30) (h2 : n2 ≤ 30) (hc : sx_R yc (n1, 0, 0) L xs (sx_p 1 :: av) (gm M) (fun v h2 => v = some (.inl z) ∧ h2 = gm M)) (hm : sx_R ym (n2, 0, 0) L xs (sx_p 51 :: av) (gm M) (fun v h2 => v = some (.inl z) ∧ h2 = gm M)) : PP yc ym L xs av M := by
  refine pp1 h1 hc ?_
  rintro v h ⟨rfl, rfl⟩
  refine ⟨z, M, n2, _, rfl, rfl, h2, hm, ?_⟩
  rintro v h ⟨rfl, rfl⟩
  exact ⟨rfl, M, rfl, hM⟩
theorem MR.mq {M M2 : Nat → Nat → Int} {nc nw nb : Nat} (hM : MR M nc nw nb) (h : mq M M2) (hR : IR M2) : MR M2 nc nw nb := hM.q (fun a k _ _ h3 h4 => h a k (by omega) h3) hR
theorem pp_m {yc ym : sx_Y} {n1 n2 L : Nat} {xs : Nat → Int32} {av : List sx_v} {M : Nat → Nat → Int} {z : Int} {nc nw nb : Nat} (hM : MR M nc nw nb) (h1 : n1 ≤ 30) (h2 : n2 ≤ 30) (hc : sx_R yc (n1, 0, 0) L xs (sx_p 1 :: av) (gm M) (fun v h2 => v = some (.inl z) ∧ h2 = gm M)) (hm : sx_R ym (n2, 0, 0) L xs (sx_p 51 :: av) (gm M) (fun v h2 => v = some (.inl z) ∧ ∃ M2, h2 = gm M2 ∧ mq M M2 ∧ IR M2)) : PP yc ym L xs av M := by
  refine pp1 h1 hc ?_
  rintro v h ⟨rfl, rfl⟩
  refine ⟨z, M, n2, _, rfl, rfl, h2, hm, ?_⟩
  rintro v h ⟨rfl, M2, rfl, h3, h4⟩
  exact ⟨rfl, M2, rfl, nc, nw, nb, hM.mq h3 h4⟩
theorem sf_hi {M M1 : Nat → Nat → Int} (h : ∀ a k, 51 ≤ a → M1 a k = M a k) : sf M M1 := fun a k h1 _ _ => h a k h1.1
/-- the class forgets the plan, the reference says 'changed': one memory -/
theorem glue {n : Nat} {Ma M1 Mb M3 T : Nat → Nat → Int} (h6 : n ≤ 6) (hf : fgt n Ma M1) (hc : chg Mb M3) (a k : Nat) (h1 : a < 51 → ¬ fgC a k → Ma a k = T a k) (h2 : a < 51 → Mb a k = M1 a k) (h3 : 51 ≤ a → ¬ fgC a k → Mb a k = T a k) (h4 : fgC a k → T a k = 0) (h5 : ∀ w, n ≤ w → w < 6 → Ma (14 + w) 9 = 0 ∧ Ma (14 + w) 10 = 0) : M3 a k = T a k := by
  by_cases c : (a = 69 ∨ a = 70 ∨ a = 71) ∧ k < 6
  · have z := hc.2.1 k c.2
    rw [h4 (by unfold fgC; omega)]
    rcases c.1 with rfl | rfl | rfl
    · exact z.1
    · exact z.2.1
    · exact z.2.2
  · rw [hc.1 a k c]
    by_cases c2 : a = 51 ∧ k = 19
    · rw [h4 (by unfold fgC; omega)]
      obtain ⟨rfl, rfl⟩ := c2
      exact sx_us
    · rw [sx_un c2]
      by_cases c3 : a < 51
      · rw [h2 c3]
        by_cases c4 : fgC a k
        · rw [h4 c4]
          unfold fgC at c4
          rcases c4 with c4 | c4 | c4 | c4
          · obtain ⟨rfl, rfl⟩ := c4
            exact hf.2.1
          · obtain ⟨w, rfl⟩ : ∃ w, a = 14 + w := ⟨a - 14, by omega⟩
            by_cases c5 : w < n
            · have z := hf.2.2.1 w c5
              rcases c4.2.2 with rfl | rfl
              · exact z.1
              · exact z.2
            · have z := h5 w (by omega) (by omega)
              rw [hf.1 _ _ (by omega) (by omega)]
              rcases c4.2.2 with rfl | rfl
              · exact z.1
              · exact z.2
          · omega
          · omega
        · have c5 := c4
          unfold fgC at c5
          rw [hf.1 a k (by omega) (by omega)]
          exact h1 c3 c4
      · exact h3 (by omega) (by unfold fgC; omega)
theorem k_work {M N : Nat → Nat → Int} {nc nw nb : Nat} (hM : MR M nc nw nb) (h7 : M 1 7 = 0) (c : Nat) (f t s b : Int) (hb : b = 0 ∨ b = 1) (hgd : c < nc ∧ 0 ≤ f ∧ f < t ∧ t ≤ 200 ∧ 1 ≤ s ∧ s ≤ 50 ∧ nw < 6) (he : ∀ a k, a ≠ 58 → a ≠ 21 → ¬ (25 ≤ a ∧ a ≤ 49) → a ≠ 65 → a < 72 → ¬ (a = 14 + nw ∧ k ≤ 6) → ¬ (a = 2 ∧ k = 9) → ¬ (k = nw ∧ 53 ≤ a ∧ a ≤ 60) → ¬ (a = 51 ∧ k = 2) → N a k = M a k) (v0 : N (14 + nw) 0 = (c : Int)) (v1 : N (14 + nw) 1 = M 7 c) (v2 : N (14 + nw) 2 = f) (v3 : N (14 + nw) 3 = t) (v4 : N (14 + nw) 4 = s) (v5 : N (14 + nw) 5 = ((t - f) + s - 1) / s) (v6 : N (14 + nw) 6 = b) (v9 : N 2 9 = (nw : Int) + 1) (w2 : N 51 2 = (nw : Int) + 1) (x3 : N 53 nw = (c : Int)) (x4 : N 54 nw = f) (x5 : N 55 nw = t) (x6 : N 56 nw = s) (x7 : N 57 nw = b) (x9 : N 59 nw = 0) (x0 : N 60 nw = 999) (hg : ∀ a b2, a ≤ nw → b2 ≤ nw → N 58 (6 * a + b2) = if b2 = nw ∨ a = nw then -1 else M 58 (6 * a + b2)) (hR : IR N) : MR N nc (nw + 1) nb := by
  have w6 := hM.w6
  have c4 := hM.c4
  have b8 := hM.b8
  obtain ⟨g1, g2, g3, g4, g5, g6, g7⟩ := hgd
  have fr := hM.fresh nw (Nat.le_refl _) g7
  have z17 : N 1 7 = 0 := by rw [he 1 7 (by omega) (by omega) (by omega) (by omega) (by omega) (by omega) (by omega) (by omega) (by omega)]; exact h7
  have hdr : dr N = dr M := by (funext d; unfold dr; simp (disch := omega) only [he])
  have e7 : N (14 + nw) 7 = 0 := by (rw [he (14 + nw) 7 (by omega) (by omega) (by omega) (by omega) (by omega) (by omega) (by omega) (by omega) (by omega)]; omega)
  have e8 : N (14 + nw) 8 = 999 := by (rw [he (14 + nw) 8 (by omega) (by omega) (by omega) (by omega) (by omega) (by omega) (by omega) (by omega) (by omega)]; omega)
  have e9 : N (14 + nw) 9 = 0 := by (rw [he (14 + nw) 9 (by omega) (by omega) (by omega) (by omega) (by omega) (by omega) (by omega) (by omega) (by omega)]; omega)
  have e10 : N (14 + nw) 10 = 0 := by (rw [he (14 + nw) 10 (by omega) (by omega) (by omega) (by omega) (by omega) (by omega) (by omega) (by omega) (by omega)]; omega)
  have e69 : N 69 nw = 0 := by (rw [he 69 nw (by omega) (by omega) (by omega) (by omega) (by omega) (by omega) (by omega) (by omega) (by omega)]; omega)
  have e70 : N 70 nw = 0 := by (rw [he 70 nw (by omega) (by omega) (by omega) (by omega) (by omega) (by omega) (by omega) (by omega) (by omega)]; omega)
  exact ⟨(by unfold IDy; rw [hdr]; simp (disch := omega) only [he]; exact hM.dy),
    hR,
    (by simp (disch := omega) only [he]; exact hM.cn),
    hM.c4,
    (by rw [v9]; omega),
    (by omega),
    (by simp (disch := omega) only [he]; exact hM.bn),
    hM.b8,
    (fun w hw => by (by_cases q : w = nw; (rw [q]; refine ⟨?_, ?_, fun d j hj hjw => ?_, ?_, ?_⟩; (unfold IW; rw [v2, v3, v4, v5]; exact ⟨g2, g3, g4, g5, g6, rfl⟩); (unfold IS; rw [e7, e8, e9]; decide); (exfalso; rw [show N 11 j = M 11 j by simp (disch := omega) only [he]] at hjw; have := hM.mbw j hj; omega); (rw [v1]; exact (hM.mkd c g1).2); (rw [v6]; exact hb)); (have hw2 : w < nw := (by omega); have k := hM.ws w hw2; refine ⟨?_, ?_, fun d => ?_, ?_, ?_⟩; (unfold IW; simp (disch := omega) only [he]; exact k.1); (unfold IS; simp (disch := omega) only [he]; exact k.2.1); (unfold IB wx; simp (disch := omega) only [he]; exact k.2.2.1 d); (simp (disch := omega) only [he]; exact k.2.2.2.1); (simp (disch := omega) only [he]; exact k.2.2.2.2)))),
    (by simp (disch := omega) only [he]; exact hM.gp),
    (by simp (disch := omega) only [he]; exact hM.mcn),
    (by rw [w2]; omega),
    (by simp (disch := omega) only [he]; exact hM.mbn),
    (by simp (disch := omega) only [he]; exact hM.mrs),
    (by simp (disch := omega) only [he]; exact hM.mkd),
    (fun w hw => by (by_cases q : w = nw; (rw [q, x3, v0, v1, Int.toNat_natCast]; exact ⟨rfl, by omega, by omega, by simp (disch := omega) only [he]⟩); (have hw2 : w < nw := (by omega); have k := hM.mcr w hw2; have kc : (M (14 + w) 0).toNat < 4 := (by omega); simp (disch := omega) only [he]; exact k))),
    (fun w hw => by (by_cases q : w = nw; (rw [q, x4, v2]); (have hw2 : w < nw := (by omega); simp (disch := omega) only [he]; exact hM.mfr w hw2))),
    (fun w hw => by (by_cases q : w = nw; (rw [q, x5, v3]); (have hw2 : w < nw := (by omega); simp (disch := omega) only [he]; exact hM.mto w hw2))),
    (fun w hw => by (by_cases q : w = nw; (rw [q, x6, v4]); (have hw2 : w < nw := (by omega); simp (disch := omega) only [he]; exact hM.msp w hw2))),
    (fun w hw => by (by_cases q : w = nw; (rw [q, x7, v6]); (have hw2 : w < nw := (by omega); simp (disch := omega) only [he]; exact hM.mbo w hw2))),
    (fun x y hx hy => by (rw [hg x y (by omega) (by omega)]; (by_cases q : y = nw ∨ x = nw; (rw [if_pos q, show N 9 (6 * x + y) = M 9 (6 * x + y) by simp (disch := omega) only [he], hM.freshg x y (by omega) (by omega) (by omega)]); (rw [if_neg q, show N 9 (6 * x + y) = M 9 (6 * x + y) by simp (disch := omega) only [he]]; exact hM.mgp x y (by omega) (by omega))))),
    (fun w hw => by (by_cases q : w = nw; (rw [q, x9, e7]); (have hw2 : w < nw := (by omega); simp (disch := omega) only [he]; exact hM.mfi w hw2))),
    (fun w hw => by (by_cases q : w = nw; (rw [q, x0, e8]); (have hw2 : w < nw := (by omega); simp (disch := omega) only [he]; exact hM.mla w hw2))),
    (by simp (disch := omega) only [he]; exact hM.mb1),
    (by simp (disch := omega) only [he]; exact hM.mb2),
    (by simp (disch := omega) only [he]; exact hM.mb3),
    (by simp (disch := omega) only [he]; exact hM.mre),
    (by simp (disch := omega) only [he]; exact hM.mmo),
    (fun w hw => by (by_cases q : w = nw; (rw [q, e69, e10]; exact ⟨rfl, Or.inl rfl⟩); (have hw2 : w < nw := (by omega); simp (disch := omega) only [he]; exact hM.mfz w hw2))),
    (fun w hw => by (by_cases q : w = nw; (rw [q, e70, e9]); (have hw2 : w < nw := (by omega); simp (disch := omega) only [he]; exact hM.mlt w hw2))),
    (Or.inl z17),
    (by simp (disch := omega) only [he]; exact hM.mha),
    (fun z => absurd z17 z),
    (fun z => absurd z17 z),
    (fun z => absurd z17 z),
    (fun z => absurd z17 z),
    (fun _ w hw => by (by_cases q : w = nw; (rw [q]; exact e10); (have hw2 : w < nw := (by omega); simp (disch := omega) only [he]; exact hM.nofz h7 w hw2))),
    (fun z => absurd z17 z),
    (by simp (disch := omega) only [he]; exact hM.mpr),
    (by simp (disch := omega) only [he]; exact hM.mtr),
    (fun w h1 h2 => by simp (disch := omega) only [he]; exact hM.fresh w (by omega) h2),
    (fun x y hx hy hn => by simp (disch := omega) only [he]; exact hM.freshg x y hx hy (by omega)),
    (by simp (disch := omega) only [he]; exact hM.self),
    (by simp (disch := omega) only [he]; exact hM.mo),
    (fun k hk => by have := hM.mbw k hk; simp (disch := omega) only [he]; omega),
    (fun z => absurd z17 z)⟩
