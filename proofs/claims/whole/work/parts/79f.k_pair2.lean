set_option maxHeartbeats 4000000 in
theorem p_crew {L : Nat} {xs : Nat → Int32} {kd : Int} (hkd : sx_r kd) {M : Nat → Nat → Int} (hE : MRE M) : PP y_T_crew y_M_crew L xs [.inl kd] M := by
  obtain ⟨nc, nw, nb, hM⟩ := hE
  have w6 := hM.w6
  by_cases hg : 0 ≤ kd ∧ kd ≤ 3 ∧ nc < 4
  · refine pp1 (Nat.le_of_ble_eq_true rfl) (c_crew_ok M hM.ir nw hM.wn hM.w6 nc hM.cn hM.c4 kd hkd hg) ?_
    rintro v h2 ⟨rfl, M1, rfl, hf⟩
    have hi : ∀ a k, 51 ≤ a → M1 a k = M a k := fun a k h => by rw [hf.1 a k (by omega) (by omega), sx_un (show ¬ (a = 2 ∧ k = 8) by omega), sx_un (show ¬ (a = 7 ∧ k = nc) by omega)]
    refine ⟨_, M1, _, _, rfl, rfl, ?_, m_crew_ok M nc nw nb hM M1 (sf_hi hi) hf.2.2.2 kd hkd hg, ?_⟩
    · exact Nat.le_of_ble_eq_true rfl
    rintro v h3 ⟨rfl, M3, rfl, hc⟩
    have ek := k_crew hM.fg (fgx_0 (by omega)) kd ⟨hg.1, hg.2.1⟩ hg.2.2
    refine ⟨rfl, M3, rfl, nc + 1, nw, nb, ek.q (fun a k q1 q2 q3 q4 => glue w6 hf hc a k (fun h hn => ?_) (fun h => ?_) (fun h hn => ?_) (fun hn => ?_) (fun w3 h1 h2 => ⟨?_, ?_⟩)) hc.2.2⟩
    · rw [sx_un (show ¬ (a = 51 ∧ k = 0) by omega), sx_un (show ¬ (a = 52 ∧ k = nc) by omega)]
      exact sx_cg (sx_cg ((fgx_ne hn).symm))
    · rw [sx_un (show ¬ (a = 51 ∧ k = 0) by omega), sx_un (show ¬ (a = 52 ∧ k = nc) by omega)]
    · refine sx_cg (sx_cg (?_))
      rw [sx_un (show ¬ (a = 2 ∧ k = 8) by omega), sx_un (show ¬ (a = 7 ∧ k = nc) by omega), hi a k h]
      exact (fgx_ne hn).symm
    · unfold fgC at hn
      rw [sx_un (show ¬ (a = 51 ∧ k = 0) by omega), sx_un (show ¬ (a = 52 ∧ k = nc) by omega), sx_un (show ¬ (a = 2 ∧ k = 8) by omega), sx_un (show ¬ (a = 7 ∧ k = nc) by omega)]
      exact fgx_0 hn
    · rw [sx_un (show ¬ (14 + w3 = 2 ∧ 9 = 8) by omega), sx_un (show ¬ (14 + w3 = 7 ∧ 9 = nc) by omega)]
      exact (hM.fresh w3 h1 h2).2.2.1
    · rw [sx_un (show ¬ (14 + w3 = 2 ∧ 10 = 8) by omega), sx_un (show ¬ (14 + w3 = 7 ∧ 10 = nc) by omega)]
      exact (hM.fresh w3 h1 h2).2.2.2.1
  · exact pp_q ⟨nc, nw, nb, hM⟩ (Nat.le_of_ble_eq_true rfl) (Nat.le_of_ble_eq_true rfl) (c_crew_bad M nc hM.cn hM.c4 kd hkd hg) (m_crew_bad M nc nw nb hM M (sf.rf M) hM.ir kd hkd hg)
set_option maxHeartbeats 4000000 in
theorem p_after {L : Nat} {xs : Nat → Int32} {x y d : Int} (hx : sx_r x) (hy : sx_r y) (hd : sx_r d) {M : Nat → Nat → Int} (hE : MRE M) : PP y_T_after y_M_after L xs [.inl x, .inl y, .inl d] M := by
  obtain ⟨nc, nw, nb, hM⟩ := hE
  have w6 := hM.w6
  by_cases hg : 0 ≤ x ∧ x < nw ∧ 0 ≤ y ∧ y < nw ∧ x ≠ y ∧ 0 ≤ d ∧ d ≤ 30
  · obtain ⟨u, rfl⟩ := Int.eq_ofNat_of_zero_le (show 0 ≤ x by omega)
    obtain ⟨v2, rfl⟩ := Int.eq_ofNat_of_zero_le (show 0 ≤ y by omega)
    have hg2 : u < nw ∧ v2 < nw ∧ u ≠ v2 ∧ 0 ≤ d ∧ d ≤ 30 := by omega
    refine pp1 (Nat.le_of_ble_eq_true rfl) (c_after_ok M hM.ir nw hM.wn hM.w6 u v2 d hd hg2) ?_
    rintro v h2 ⟨rfl, M1, rfl, hf⟩
    have hi : ∀ a k, 51 ≤ a → M1 a k = M a k := fun a k h => by rw [hf.1 a k (by omega) (by omega), sx_un (show ¬ (a = 9 ∧ k = (6 * u + v2)) by omega)]
    refine ⟨_, M1, _, _, rfl, rfl, ?_, m_after_ok M nc nw nb hM M1 (sf_hi hi) hf.2.2.2 u v2 d hd hg2, ?_⟩
    · exact Nat.le_of_ble_eq_true rfl
    rintro v h3 ⟨rfl, M3, rfl, hc⟩
    have ek := k_after hM.fg (fgx_0 (by omega)) u v2 d (by omega) (by omega) (by omega) (by omega)
    rw [show Int.toNat ((6 * (u : Int)) + (v2 : Int)) = 6 * u + v2 by omega] at hc
    refine ⟨rfl, M3, rfl, nc, nw, nb, ek.q (fun a k q1 q2 q3 q4 => glue w6 hf hc a k (fun h hn => ?_) (fun h => ?_) (fun h hn => ?_) (fun hn => ?_) (fun w3 h1 h2 => ⟨?_, ?_⟩)) hc.2.2⟩
    · rw [sx_un (show ¬ (a = 58 ∧ k = (6 * u + v2)) by omega)]
      exact sx_cg ((fgx_ne hn).symm)
    · rw [sx_un (show ¬ (a = 58 ∧ k = (6 * u + v2)) by omega)]
    · refine sx_cg (?_)
      rw [sx_un (show ¬ (a = 9 ∧ k = (6 * u + v2)) by omega), hi a k h]
      exact (fgx_ne hn).symm
    · unfold fgC at hn
      rw [sx_un (show ¬ (a = 58 ∧ k = (6 * u + v2)) by omega), sx_un (show ¬ (a = 9 ∧ k = (6 * u + v2)) by omega)]
      exact fgx_0 hn
    · rw [sx_un (show ¬ (14 + w3 = 9 ∧ 9 = (6 * u + v2)) by omega)]
      exact (hM.fresh w3 h1 h2).2.2.1
    · rw [sx_un (show ¬ (14 + w3 = 9 ∧ 10 = (6 * u + v2)) by omega)]
      exact (hM.fresh w3 h1 h2).2.2.2.1
  · exact pp_q ⟨nc, nw, nb, hM⟩ (Nat.le_of_ble_eq_true rfl) (Nat.le_of_ble_eq_true rfl) (c_after_bad M nw hM.wn hM.w6 x y d hx hy hd hg) (m_after_bad M nc nw nb hM M (sf.rf M) hM.ir x y d hx hy hd hg)
set_option maxHeartbeats 4000000 in
theorem p_season {L : Nat} {xs : Nat → Int32} {x a2 b2 : Int} (hx : sx_r x) (ha : sx_r a2) (hb : sx_r b2) {M : Nat → Nat → Int} (hE : MRE M) : PP y_T_season y_M_season L xs [.inl x, .inl a2, .inl b2] M := by
  obtain ⟨nc, nw, nb, hM⟩ := hE
  have w6 := hM.w6
  by_cases hg : 0 ≤ x ∧ x < nw ∧ 0 ≤ a2 ∧ a2 ≤ b2 ∧ b2 ≤ 999
  · obtain ⟨u, rfl⟩ := Int.eq_ofNat_of_zero_le (show 0 ≤ x by omega)
    have hg2 : u < nw ∧ 0 ≤ a2 ∧ a2 ≤ b2 ∧ b2 ≤ 999 := by omega
    refine pp1 (Nat.le_of_ble_eq_true rfl) (c_season_ok M hM.ir nw hM.wn hM.w6 u a2 b2 ha hb hg2) ?_
    rintro v h2 ⟨rfl, M1, rfl, hf⟩
    have hi : ∀ a k, 51 ≤ a → M1 a k = M a k := fun a k h => by rw [hf.1 a k (by omega) (by omega), sx_un (show ¬ (a = 14 + u ∧ k = 8) by omega), sx_un (show ¬ (a = 14 + u ∧ k = 7) by omega)]
    refine ⟨_, M1, _, _, rfl, rfl, ?_, m_season_ok M nc nw nb hM M1 (sf_hi hi) hf.2.2.2 u a2 b2 ha hb hg2, ?_⟩
    · exact Nat.le_of_ble_eq_true rfl
    rintro v h3 ⟨rfl, M3, rfl, hc⟩
    have ek := k_season hM.fg (fgx_0 (by omega)) u a2 b2 (by omega) (by omega)
    refine ⟨rfl, M3, rfl, nc, nw, nb, ek.q (fun a k q1 q2 q3 q4 => glue w6 hf hc a k (fun h hn => ?_) (fun h => ?_) (fun h hn => ?_) (fun hn => ?_) (fun w3 h1 h2 => ⟨?_, ?_⟩)) hc.2.2⟩
    · rw [sx_un (show ¬ (a = 60 ∧ k = u) by omega), sx_un (show ¬ (a = 59 ∧ k = u) by omega)]
      exact sx_cg (sx_cg ((fgx_ne hn).symm))
    · rw [sx_un (show ¬ (a = 60 ∧ k = u) by omega), sx_un (show ¬ (a = 59 ∧ k = u) by omega)]
    · refine sx_cg (sx_cg (?_))
      rw [sx_un (show ¬ (a = 14 + u ∧ k = 8) by omega), sx_un (show ¬ (a = 14 + u ∧ k = 7) by omega), hi a k h]
      exact (fgx_ne hn).symm
    · unfold fgC at hn
      rw [sx_un (show ¬ (a = 60 ∧ k = u) by omega), sx_un (show ¬ (a = 59 ∧ k = u) by omega), sx_un (show ¬ (a = 14 + u ∧ k = 8) by omega), sx_un (show ¬ (a = 14 + u ∧ k = 7) by omega)]
      exact fgx_0 hn
    · rw [sx_un (show ¬ (14 + w3 = 14 + u ∧ 9 = 8) by omega), sx_un (show ¬ (14 + w3 = 14 + u ∧ 9 = 7) by omega)]
      exact (hM.fresh w3 h1 h2).2.2.1
    · rw [sx_un (show ¬ (14 + w3 = 14 + u ∧ 10 = 8) by omega), sx_un (show ¬ (14 + w3 = 14 + u ∧ 10 = 7) by omega)]
      exact (hM.fresh w3 h1 h2).2.2.2.1
  · exact pp_q ⟨nc, nw, nb, hM⟩ (Nat.le_of_ble_eq_true rfl) (Nat.le_of_ble_eq_true rfl) (c_season_bad M nw hM.wn hM.w6 x a2 b2 hx ha hb hg) (m_season_bad M nc nw nb hM M (sf.rf M) hM.ir x a2 b2 hx ha hb hg)
set_option maxHeartbeats 4000000 in
theorem p_bar {L : Nat} {xs : Nat → Int32} {x p t : Int} (hx : sx_r x) (hp : sx_r p) (ht : sx_r t) {M : Nat → Nat → Int} (hE : MRE M) : PP y_T_bar y_M_bar L xs [.inl x, .inl p, .inl t] M := by
  obtain ⟨nc, nw, nb, hM⟩ := hE
  have w6 := hM.w6
  by_cases hg : 0 ≤ x ∧ x < nw ∧ M (14 + Int.toNat x) 2 ≤ p ∧ p ≤ M (14 + Int.toNat x) 3 ∧ 0 ≤ t ∧ t ≤ 999 ∧ nb < 8
  · obtain ⟨u, rfl⟩ := Int.eq_ofNat_of_zero_le (show 0 ≤ x by omega)
    rw [show Int.toNat (u : Int) = u from Int.toNat_natCast u] at hg
    have hg2 : u < nw ∧ M (14 + u) 2 ≤ p ∧ p ≤ M (14 + u) 3 ∧ 0 ≤ t ∧ t ≤ 999 ∧ nb < 8 := by omega
    refine pp1 (Nat.le_of_ble_eq_true rfl) (c_bar_ok M hM.ir nw hM.wn hM.w6 nb hM.bn hM.b8 u p t hp ht hg2) ?_
    rintro v h2 ⟨rfl, M1, rfl, hf⟩
    have hi : ∀ a k, 51 ≤ a → M1 a k = M a k := fun a k h => by rw [hf.1 a k (by omega) (by omega), sx_un (show ¬ (a = 2 ∧ k = 10) by omega), sx_un (show ¬ (a = 13 ∧ k = nb) by omega), sx_un (show ¬ (a = 12 ∧ k = nb) by omega), sx_un (show ¬ (a = 11 ∧ k = nb) by omega)]
    refine ⟨_, M1, _, _, rfl, rfl, ?_, m_bar_ok M nc nw nb hM M1 (sf_hi hi) hf.2.2.2 u p t hp ht hg2, ?_⟩
    · exact Nat.le_of_ble_eq_true rfl
    rintro v h3 ⟨rfl, M3, rfl, hc⟩
    have ek := k_bar hM.fg (fgx_0 (by omega)) u p t (by omega) (by rw [fgx_ne (by omega), fgx_ne (by omega)]; omega) (by omega) (by omega)
    refine ⟨rfl, M3, rfl, nc, nw, nb + 1, ek.q (fun a k q1 q2 q3 q4 => glue w6 hf hc a k (fun h hn => ?_) (fun h => ?_) (fun h hn => ?_) (fun hn => ?_) (fun w3 h1 h2 => ⟨?_, ?_⟩)) hc.2.2⟩
    · rw [sx_un (show ¬ (a = 51 ∧ k = 11) by omega), sx_un (show ¬ (a = 63 ∧ k = nb) by omega), sx_un (show ¬ (a = 62 ∧ k = nb) by omega), sx_un (show ¬ (a = 61 ∧ k = nb) by omega)]
      exact sx_cg (sx_cg (sx_cg (sx_cg ((fgx_ne hn).symm))))
    · rw [sx_un (show ¬ (a = 51 ∧ k = 11) by omega), sx_un (show ¬ (a = 63 ∧ k = nb) by omega), sx_un (show ¬ (a = 62 ∧ k = nb) by omega), sx_un (show ¬ (a = 61 ∧ k = nb) by omega)]
    · refine sx_cg (sx_cg (sx_cg (sx_cg (?_))))
      rw [sx_un (show ¬ (a = 2 ∧ k = 10) by omega), sx_un (show ¬ (a = 13 ∧ k = nb) by omega), sx_un (show ¬ (a = 12 ∧ k = nb) by omega), sx_un (show ¬ (a = 11 ∧ k = nb) by omega), hi a k h]
      exact (fgx_ne hn).symm
    · unfold fgC at hn
      rw [sx_un (show ¬ (a = 51 ∧ k = 11) by omega), sx_un (show ¬ (a = 63 ∧ k = nb) by omega), sx_un (show ¬ (a = 62 ∧ k = nb) by omega), sx_un (show ¬ (a = 61 ∧ k = nb) by omega), sx_un (show ¬ (a = 2 ∧ k = 10) by omega), sx_un (show ¬ (a = 13 ∧ k = nb) by omega), sx_un (show ¬ (a = 12 ∧ k = nb) by omega), sx_un (show ¬ (a = 11 ∧ k = nb) by omega)]
      exact fgx_0 hn
    · rw [sx_un (show ¬ (14 + w3 = 2 ∧ 9 = 10) by omega), sx_un (show ¬ (14 + w3 = 13 ∧ 9 = nb) by omega), sx_un (show ¬ (14 + w3 = 12 ∧ 9 = nb) by omega), sx_un (show ¬ (14 + w3 = 11 ∧ 9 = nb) by omega)]
      exact (hM.fresh w3 h1 h2).2.2.1
    · rw [sx_un (show ¬ (14 + w3 = 2 ∧ 10 = 10) by omega), sx_un (show ¬ (14 + w3 = 13 ∧ 10 = nb) by omega), sx_un (show ¬ (14 + w3 = 12 ∧ 10 = nb) by omega), sx_un (show ¬ (14 + w3 = 11 ∧ 10 = nb) by omega)]
      exact (hM.fresh w3 h1 h2).2.2.2.1
  · exact pp_q ⟨nc, nw, nb, hM⟩ (Nat.le_of_ble_eq_true rfl) (Nat.le_of_ble_eq_true rfl) (c_bar_bad M hM.ir nw hM.wn hM.w6 nb hM.bn hM.b8 x p t hx hp ht hg) (m_bar_bad M nc nw nb hM M (sf.rf M) hM.ir x p t hx hp ht hg)
set_option maxHeartbeats 4000000 in
theorem p_most {L : Nat} {xs : Nat → Int32} {x n : Int} (hx : sx_r x) (hn : sx_r n) {M : Nat → Nat → Int} (hE : MRE M) : PP y_T_most y_M_most L xs [.inl x, .inl n] M := by
  obtain ⟨nc, nw, nb, hM⟩ := hE
  have w6 := hM.w6
  by_cases hg : 0 ≤ x ∧ x ≤ 3 ∧ 0 ≤ n ∧ n ≤ 6
  · obtain ⟨u, rfl⟩ := Int.eq_ofNat_of_zero_le (show 0 ≤ x by omega)
    have hg2 : u < 4 ∧ 0 ≤ n ∧ n ≤ 6 := by omega
    refine pp1 (Nat.le_of_ble_eq_true rfl) (c_most_ok M hM.ir nw hM.wn hM.w6 u n hn hg2) ?_
    rintro v h2 ⟨rfl, M1, rfl, hf⟩
    have hi : ∀ a k, 51 ≤ a → M1 a k = M a k := fun a k h => by rw [hf.1 a k (by omega) (by omega), sx_un (show ¬ (a = 10 ∧ k = u) by omega)]
    refine ⟨_, M1, _, _, rfl, rfl, ?_, m_most_ok M nc nw nb hM M1 (sf_hi hi) hf.2.2.2 u n hn hg2, ?_⟩
    · exact Nat.le_of_ble_eq_true rfl
    rintro v h3 ⟨rfl, M3, rfl, hc⟩
    have ek := k_most hM.fg (fgx_0 (by omega)) u n (by omega) (by omega)
    refine ⟨rfl, M3, rfl, nc, nw, nb, ek.q (fun a k q1 q2 q3 q4 => glue w6 hf hc a k (fun h hn => ?_) (fun h => ?_) (fun h hn => ?_) (fun hn => ?_) (fun w3 h1 h2 => ⟨?_, ?_⟩)) hc.2.2⟩
    · rw [sx_un (show ¬ (a = 66 ∧ k = u) by omega)]
      exact sx_cg ((fgx_ne hn).symm)
    · rw [sx_un (show ¬ (a = 66 ∧ k = u) by omega)]
    · refine sx_cg (?_)
      rw [sx_un (show ¬ (a = 10 ∧ k = u) by omega), hi a k h]
      exact (fgx_ne hn).symm
    · unfold fgC at hn
      rw [sx_un (show ¬ (a = 66 ∧ k = u) by omega), sx_un (show ¬ (a = 10 ∧ k = u) by omega)]
      exact fgx_0 hn
    · rw [sx_un (show ¬ (14 + w3 = 10 ∧ 9 = u) by omega)]
      exact (hM.fresh w3 h1 h2).2.2.1
    · rw [sx_un (show ¬ (14 + w3 = 10 ∧ 10 = u) by omega)]
      exact (hM.fresh w3 h1 h2).2.2.2.1
  · exact pp_q ⟨nc, nw, nb, hM⟩ (Nat.le_of_ble_eq_true rfl) (Nat.le_of_ble_eq_true rfl) (c_most_bad M x n hx hn hg) (m_most_bad M nc nw nb hM M (sf.rf M) hM.ir x n hx hn hg)
set_option maxHeartbeats 4000000 in
theorem p_learned {L : Nat} {xs : Nat → Int32} {x p d : Int} (hx : sx_r x) (hp : sx_r p) (hd : sx_r d) {M : Nat → Nat → Int} (hE : MRE M) : PP y_T_learned y_M_learned L xs [.inl x, .inl p, .inl d] M := by
  obtain ⟨nc, nw, nb, hM⟩ := hE
  have w6 := hM.w6
  by_cases hg : 0 ≤ x ∧ x < nw ∧ 1 ≤ p ∧ p ≤ 10000 ∧ 1 ≤ d ∧ d ≤ 1000
  · obtain ⟨u, rfl⟩ := Int.eq_ofNat_of_zero_le (show 0 ≤ x by omega)
    have hg2 : u < nw ∧ 1 ≤ p ∧ p ≤ 10000 ∧ 1 ≤ d ∧ d ≤ 1000 := by omega
    obtain ⟨z, hz⟩ : ∃ z, z = (if p / d < 1 then 1 else if 50 < p / d then 50 else p / d) := ⟨_, rfl⟩
    have hz2 : 1 ≤ z ∧ z ≤ 50 := by rw [hz]; split; decide; split; decide; omega
    refine pp1 (Nat.le_of_ble_eq_true rfl) (c_learned_ok M hM.ir nw hM.wn hM.w6 u p d z (hM.ws u hg2.1).1 hz hg2) ?_
    rintro v h2 ⟨rfl, M1, rfl, hf⟩
    have hi : ∀ a k, 51 ≤ a → M1 a k = M a k := fun a k h => by rw [hf.1 a k (by omega) (by omega), sx_un (show ¬ (a = 14 + u ∧ k = 5) by omega), sx_un (show ¬ (a = 14 + u ∧ k = 4) by omega)]
    refine ⟨_, M1, _, _, rfl, rfl, ?_, m_learned_ok M nc nw nb hM M1 (sf_hi hi) hf.2.2.2 u p d z hz hg2, ?_⟩
    · exact Nat.le_of_ble_eq_true rfl
    rintro v h3 ⟨rfl, M3, rfl, hc⟩
    have ek := k_learned hM.fg (fgx_0 (by omega)) u z (by omega) hz2
    rw [fgx_ne (a := 14 + u) (k := 3) (by omega), fgx_ne (a := 14 + u) (k := 2) (by omega)] at ek
    refine ⟨rfl, M3, rfl, nc, nw, nb, ek.q (fun a k q1 q2 q3 q4 => glue w6 hf hc a k (fun h hn => ?_) (fun h => ?_) (fun h hn => ?_) (fun hn => ?_) (fun w3 h1 h2 => ⟨?_, ?_⟩)) hc.2.2⟩
    · rw [sx_un (show ¬ (a = 56 ∧ k = u) by omega)]
      exact sx_cg (sx_cg ((fgx_ne hn).symm))
    · rw [sx_un (show ¬ (a = 56 ∧ k = u) by omega)]
    · refine sx_cg (?_)
      rw [sx_un (show ¬ (a = 14 + u ∧ k = 5) by omega), sx_un (show ¬ (a = 14 + u ∧ k = 4) by omega), hi a k h]
      exact (fgx_ne hn).symm
    · unfold fgC at hn
      rw [sx_un (show ¬ (a = 56 ∧ k = u) by omega), sx_un (show ¬ (a = 14 + u ∧ k = 5) by omega), sx_un (show ¬ (a = 14 + u ∧ k = 4) by omega)]
      exact fgx_0 hn
    · rw [sx_un (show ¬ (14 + w3 = 14 + u ∧ 9 = 5) by omega), sx_un (show ¬ (14 + w3 = 14 + u ∧ 9 = 4) by omega)]
      exact (hM.fresh w3 h1 h2).2.2.1
    · rw [sx_un (show ¬ (14 + w3 = 14 + u ∧ 10 = 5) by omega), sx_un (show ¬ (14 + w3 = 14 + u ∧ 10 = 4) by omega)]
      exact (hM.fresh w3 h1 h2).2.2.2.1
  · exact pp_q ⟨nc, nw, nb, hM⟩ (Nat.le_of_ble_eq_true rfl) (Nat.le_of_ble_eq_true rfl) (c_learned_bad M nw hM.wn hM.w6 x p d hx hp hd hg) (m_learned_bad M nc nw nb hM M (sf.rf M) hM.ir x p d hx hp hd hg)
set_option maxHeartbeats 4000000 in
theorem p_rest {L : Nat} {xs : Nat → Int32} {x : Int} (hx : sx_r x) {M : Nat → Nat → Int} (hE : MRE M) : PP y_T_rest y_M_rest L xs [.inl x] M := by
  obtain ⟨nc, nw, nb, hM⟩ := hE
  have w6 := hM.w6
  by_cases hg : 0 ≤ x ∧ x ≤ 199 ∧ M 4 (Int.toNat x) = 0
  · obtain ⟨d, rfl⟩ := Int.eq_ofNat_of_zero_le hg.1
    rw [show Int.toNat (d : Int) = d from Int.toNat_natCast d] at hg
    have hd : d < 200 := by omega
    refine pp1 (Nat.le_of_ble_eq_true rfl) (c_rest_ok M hM.dy hM.ir nw hM.wn hM.w6 d hd hg.2.2) ?_
    rintro v h2 ⟨rfl, Mg, hgv, M1, rfl, hf⟩
    have hq : ∀ a k, a ≠ 5 → a ≠ 6 → ¬ (a = 4 ∧ k = d) → ¬ (a = 3 ∧ k = 3) → Mg a k = M a k := fun a k q1 q2 q3 q4 => by rw [hgv.1 a k q1 q2, sx_un q4, sx_un q3]
    have hi : ∀ a k, 51 ≤ a → M1 a k = M a k := fun a k h => by rw [hf.1 a k (by omega) (by omega), hq a k (by omega) (by omega) (by omega) (by omega)]
    refine ⟨_, M1, _, _, rfl, rfl, ?_, m_rest_ok M nc nw nb hM M1 (sf_hi hi) hf.2.2.2 d ⟨hd, hg.2.2⟩, ?_⟩
    · exact Nat.le_of_ble_eq_true rfl
    rintro v h3 ⟨rfl, M3, rfl, hc⟩
    have hgf : gvr d (fgx M) (fgx Mg) := by
      refine ⟨fun a k q1 q2 => ?_, ?_, fun a k => ?_⟩
      · by_cases c : fgC a k
        · have c2 := c
          unfold fgC at c2
          rw [sx_un (show ¬ (a = 3 ∧ k = 3) by omega), sx_un (show ¬ (a = 4 ∧ k = d) by omega), fgx_0 c, fgx_0 c]
        · rw [fgx_ne c, hgv.1 a k q1 q2, fgx_ne (a := 3) (k := 3) (by omega)]
          exact sx_cg (sx_cg (fgx_ne c).symm)
      · unfold IDy
        rw [fgx_dr]
        simp (disch := omega) only [fgx_ne]
        exact hgv.2.1
      · unfold fgx
        split
        · exact ⟨by decide, by decide⟩
        · exact hgv.2.2 a k
    have ek := k_rest hM.fg (fgx_0 (by omega)) d hd hgf
    rw [fgx_ne (a := 3) (k := 3) (by omega)] at ek
    refine ⟨rfl, M3, rfl, nc, nw, nb, ek.q (fun a k q1 q2 q3 q4 => glue w6 hf hc a k (fun h hn => ?_) (fun h => ?_) (fun h hn => ?_) (fun hn => ?_) (fun w3 h1 h2 => ⟨?_, ?_⟩)) hc.2.2⟩
    · rw [sx_un (show ¬ (a = 51 ∧ k = 15) by omega), sx_un (show ¬ (a = 64 ∧ k = d) by omega)]
      exact (fgx_ne hn).symm
    · rw [sx_un (show ¬ (a = 51 ∧ k = 15) by omega), sx_un (show ¬ (a = 64 ∧ k = d) by omega)]
    · refine sx_cg (sx_cg ?_)
      rw [hi a k h, fgx_ne hn, hq a k (by omega) (by omega) (by omega) (by omega)]
    · have c2 := hn
      unfold fgC at c2
      rw [sx_un (show ¬ (a = 51 ∧ k = 15) by omega), sx_un (show ¬ (a = 64 ∧ k = d) by omega)]
      exact fgx_0 hn
    · rw [hq _ _ (by omega) (by omega) (by omega) (by omega)]
      exact (hM.fresh w3 h1 h2).2.2.1
    · rw [hq _ _ (by omega) (by omega) (by omega) (by omega)]
      exact (hM.fresh w3 h1 h2).2.2.2.1
  · have hdr : ¬ (0 ≤ x ∧ x ≤ 199 ∧ dr M x.toNat = false) := by
      rintro ⟨a1, a2, a3⟩
      refine hg ⟨a1, a2, ?_⟩
      have h4 := hM.dy.1 x.toNat (by omega)
      unfold dr at a3
      rcases h4 with h4 | h4
      · exact h4
      · rw [h4] at a3
        simp at a3
        omega
    exact pp_q ⟨nc, nw, nb, hM⟩ (Nat.le_of_ble_eq_true rfl) (Nat.le_of_ble_eq_true rfl) (c_rest_bad M hM.dy x hx hdr) (m_rest_bad M nc nw nb hM M (sf.rf M) hM.ir x hx hg)
set_option maxHeartbeats 4000000 in
theorem p_work {L : Nat} {xs : Nat → Int32} {x f t s b : Int} (hx : sx_r x) (hf0 : sx_r f) (ht0 : sx_r t) (hs0 : sx_r s) (hb : b = 0 ∨ b = 1) {M : Nat → Nat → Int} (hE : MRE M) : PP y_T_work y_M_work L xs [.inl x, .inl f, .inl t, .inl s, .inl b] M := by
  obtain ⟨nc, nw, nb, hM⟩ := hE
  have w6 := hM.w6
  by_cases hg : 0 ≤ x ∧ x < nc ∧ 0 ≤ f ∧ f < t ∧ t ≤ 200 ∧ 1 ≤ s ∧ s ≤ 50 ∧ nw < 6
  · obtain ⟨c, rfl⟩ := Int.eq_ofNat_of_zero_le (show 0 ≤ x by omega)
    have hg2 : c < nc ∧ 0 ≤ f ∧ f < t ∧ t ≤ 200 ∧ 1 ≤ s ∧ s ≤ 50 ∧ nw < 6 := by omega
    have w7 : nw + 1 ≤ 6 := by omega
    refine pp1 (Nat.le_of_ble_eq_true rfl) (c_work_ok M hM.ir nw hM.wn hM.w6 nc hM.cn hM.c4 c f t s b hb hg2) ?_
    rintro v h2 ⟨rfl, M1, rfl, hf⟩
    have hi : ∀ a k, 51 ≤ a → M1 a k = M a k := fun a k h => by rw [hf.1 a k (by omega) (by omega), sx_un (show ¬ (a = 2 ∧ k = 9) by omega), sx_un (show ¬ (a = 14 + nw ∧ k = 5) by omega), sx_un (show ¬ (a = 14 + nw ∧ k = 4) by omega), sx_un (show ¬ (a = 14 + nw ∧ k = 6) by omega), sx_un (show ¬ (a = 14 + nw ∧ k = 3) by omega), sx_un (show ¬ (a = 14 + nw ∧ k = 2) by omega), sx_un (show ¬ (a = 14 + nw ∧ k = 1) by omega), sx_un (show ¬ (a = 14 + nw ∧ k = 0) by omega)]
    refine ⟨_, M1, _, _, rfl, rfl, ?_, m_work_ok M nc nw nb hM M1 (sf_hi hi) hf.2.2.2 c f t s b hb hg2, ?_⟩
    · exact Nat.le_of_ble_eq_true rfl
    rintro v h3 ⟨v2, Mg, M3, rfl, rfl, rfl, hg3, hg4, hc⟩
    have hT : ∀ a k, a ≠ 58 → a ≠ 21 → ¬ (25 ≤ a ∧ a ≤ 49) → a ≠ 65 → a < 72 → M3 a k = (sx_u (sx_u (sx_u (sx_u (sx_u (sx_u (sx_u (sx_u (sx_u (sx_u (sx_u (sx_u (sx_u (sx_u (sx_u (sx_u (fgx M) (14 + nw) 0 (c : Int)) (14 + nw) 1 (M 7 c)) (14 + nw) 2 f) (14 + nw) 3 t) (14 + nw) 6 b) (14 + nw) 4 s) (14 + nw) 5 (((t - f) + s - 1) / s)) (2) 9 ((nw : Int) + 1)) (53) nw (c : Int)) (54) nw f) (55) nw t) (56) nw s) (57) nw b) (59) nw 0) (60) nw 999) (51) 2 ((nw : Int) + 1)) a k := by
      intro a k q0 q1 q2 q3 q4
      refine glue w7 hf hc a k (fun h hn => ?_) (fun h => ?_) (fun h hn => ?_) (fun hn => ?_) (fun w3 h1 h2 => ⟨?_, ?_⟩)
      · rw [sx_un (show ¬ (a = 51 ∧ k = 2) by omega), sx_un (show ¬ (a = 60 ∧ k = nw) by omega), sx_un (show ¬ (a = 59 ∧ k = nw) by omega), sx_un (show ¬ (a = 57 ∧ k = nw) by omega), sx_un (show ¬ (a = 56 ∧ k = nw) by omega), sx_un (show ¬ (a = 55 ∧ k = nw) by omega), sx_un (show ¬ (a = 54 ∧ k = nw) by omega), sx_un (show ¬ (a = 53 ∧ k = nw) by omega)]
        exact sx_cg (sx_cg (sx_cg (sx_cg (sx_cg (sx_cg (sx_cg (sx_cg ((fgx_ne hn).symm))))))))
      · rw [hg3 a k q0, sx_un (show ¬ (a = 51 ∧ k = 2) by omega), sx_un (show ¬ (a = 60 ∧ k = nw) by omega), sx_un (show ¬ (a = 59 ∧ k = nw) by omega), sx_un (show ¬ (a = 57 ∧ k = nw) by omega), sx_un (show ¬ (a = 56 ∧ k = nw) by omega), sx_un (show ¬ (a = 55 ∧ k = nw) by omega), sx_un (show ¬ (a = 54 ∧ k = nw) by omega), sx_un (show ¬ (a = 53 ∧ k = nw) by omega)]
      · rw [hg3 a k q0]
        refine sx_cg (sx_cg (sx_cg (sx_cg (sx_cg (sx_cg (sx_cg (sx_cg (?_))))))))
        rw [sx_un (show ¬ (a = 2 ∧ k = 9) by omega), sx_un (show ¬ (a = 14 + nw ∧ k = 5) by omega), sx_un (show ¬ (a = 14 + nw ∧ k = 4) by omega), sx_un (show ¬ (a = 14 + nw ∧ k = 6) by omega), sx_un (show ¬ (a = 14 + nw ∧ k = 3) by omega), sx_un (show ¬ (a = 14 + nw ∧ k = 2) by omega), sx_un (show ¬ (a = 14 + nw ∧ k = 1) by omega), sx_un (show ¬ (a = 14 + nw ∧ k = 0) by omega), hi a k h]
        exact (fgx_ne hn).symm
      · unfold fgC at hn
        rw [sx_un (show ¬ (a = 51 ∧ k = 2) by omega), sx_un (show ¬ (a = 60 ∧ k = nw) by omega), sx_un (show ¬ (a = 59 ∧ k = nw) by omega), sx_un (show ¬ (a = 57 ∧ k = nw) by omega), sx_un (show ¬ (a = 56 ∧ k = nw) by omega), sx_un (show ¬ (a = 55 ∧ k = nw) by omega), sx_un (show ¬ (a = 54 ∧ k = nw) by omega), sx_un (show ¬ (a = 53 ∧ k = nw) by omega), sx_un (show ¬ (a = 2 ∧ k = 9) by omega), sx_un (show ¬ (a = 14 + nw ∧ k = 5) by omega), sx_un (show ¬ (a = 14 + nw ∧ k = 4) by omega), sx_un (show ¬ (a = 14 + nw ∧ k = 6) by omega), sx_un (show ¬ (a = 14 + nw ∧ k = 3) by omega), sx_un (show ¬ (a = 14 + nw ∧ k = 2) by omega), sx_un (show ¬ (a = 14 + nw ∧ k = 1) by omega), sx_un (show ¬ (a = 14 + nw ∧ k = 0) by omega)]
        exact fgx_0 hn
      · rw [sx_un (show ¬ (14 + w3 = 2 ∧ 9 = 9) by omega), sx_un (show ¬ (14 + w3 = 14 + nw ∧ 9 = 5) by omega), sx_un (show ¬ (14 + w3 = 14 + nw ∧ 9 = 4) by omega), sx_un (show ¬ (14 + w3 = 14 + nw ∧ 9 = 6) by omega), sx_un (show ¬ (14 + w3 = 14 + nw ∧ 9 = 3) by omega), sx_un (show ¬ (14 + w3 = 14 + nw ∧ 9 = 2) by omega), sx_un (show ¬ (14 + w3 = 14 + nw ∧ 9 = 1) by omega), sx_un (show ¬ (14 + w3 = 14 + nw ∧ 9 = 0) by omega)]
        exact (hM.fresh w3 (by omega) h2).2.2.1
      · rw [sx_un (show ¬ (14 + w3 = 2 ∧ 10 = 9) by omega), sx_un (show ¬ (14 + w3 = 14 + nw ∧ 10 = 5) by omega), sx_un (show ¬ (14 + w3 = 14 + nw ∧ 10 = 4) by omega), sx_un (show ¬ (14 + w3 = 14 + nw ∧ 10 = 6) by omega), sx_un (show ¬ (14 + w3 = 14 + nw ∧ 10 = 3) by omega), sx_un (show ¬ (14 + w3 = 14 + nw ∧ 10 = 2) by omega), sx_un (show ¬ (14 + w3 = 14 + nw ∧ 10 = 1) by omega), sx_un (show ¬ (14 + w3 = 14 + nw ∧ 10 = 0) by omega)]
        exact (hM.fresh w3 (by omega) h2).2.2.2.1
    have ek : MR M3 nc (nw + 1) nb := by
      refine k_work hM.fg (fgx_0 (by omega)) c f t s b hb hg2 (fun a k q0 q1 q2 q3 q4 q5 q6 q7 q8 => ?_) ?_ ?_ ?_ ?_ ?_ ?_ ?_ ?_ ?_ ?_ ?_ ?_ ?_ ?_ ?_ ?_ (fun a b2 h1 h2 => ?_) hc.2.2
      · rw [hT a k q0 q1 q2 q3 q4, sx_un (show ¬ (a = 51 ∧ k = 2) by omega), sx_un (show ¬ (a = 60 ∧ k = nw) by omega), sx_un (show ¬ (a = 59 ∧ k = nw) by omega), sx_un (show ¬ (a = 57 ∧ k = nw) by omega), sx_un (show ¬ (a = 56 ∧ k = nw) by omega), sx_un (show ¬ (a = 55 ∧ k = nw) by omega), sx_un (show ¬ (a = 54 ∧ k = nw) by omega), sx_un (show ¬ (a = 53 ∧ k = nw) by omega), sx_un (show ¬ (a = 2 ∧ k = 9) by omega), sx_un (show ¬ (a = 14 + nw ∧ k = 5) by omega), sx_un (show ¬ (a = 14 + nw ∧ k = 4) by omega), sx_un (show ¬ (a = 14 + nw ∧ k = 6) by omega), sx_un (show ¬ (a = 14 + nw ∧ k = 3) by omega), sx_un (show ¬ (a = 14 + nw ∧ k = 2) by omega), sx_un (show ¬ (a = 14 + nw ∧ k = 1) by omega), sx_un (show ¬ (a = 14 + nw ∧ k = 0) by omega)]
      · rw [hT (14 + nw) 0 (by omega) (by omega) (by omega) (by omega) (by omega), sx_un (show ¬ (14 + nw = 51 ∧ 0 = 2) by omega), sx_un (show ¬ (14 + nw = 60 ∧ 0 = nw) by omega), sx_un (show ¬ (14 + nw = 59 ∧ 0 = nw) by omega), sx_un (show ¬ (14 + nw = 57 ∧ 0 = nw) by omega), sx_un (show ¬ (14 + nw = 56 ∧ 0 = nw) by omega), sx_un (show ¬ (14 + nw = 55 ∧ 0 = nw) by omega), sx_un (show ¬ (14 + nw = 54 ∧ 0 = nw) by omega), sx_un (show ¬ (14 + nw = 53 ∧ 0 = nw) by omega), sx_un (show ¬ (14 + nw = 2 ∧ 0 = 9) by omega), sx_un (show ¬ (14 + nw = 14 + nw ∧ 0 = 5) by omega), sx_un (show ¬ (14 + nw = 14 + nw ∧ 0 = 4) by omega), sx_un (show ¬ (14 + nw = 14 + nw ∧ 0 = 6) by omega), sx_un (show ¬ (14 + nw = 14 + nw ∧ 0 = 3) by omega), sx_un (show ¬ (14 + nw = 14 + nw ∧ 0 = 2) by omega), sx_un (show ¬ (14 + nw = 14 + nw ∧ 0 = 1) by omega), sx_us]
      · rw [hT (14 + nw) 1 (by omega) (by omega) (by omega) (by omega) (by omega), sx_un (show ¬ (14 + nw = 51 ∧ 1 = 2) by omega), sx_un (show ¬ (14 + nw = 60 ∧ 1 = nw) by omega), sx_un (show ¬ (14 + nw = 59 ∧ 1 = nw) by omega), sx_un (show ¬ (14 + nw = 57 ∧ 1 = nw) by omega), sx_un (show ¬ (14 + nw = 56 ∧ 1 = nw) by omega), sx_un (show ¬ (14 + nw = 55 ∧ 1 = nw) by omega), sx_un (show ¬ (14 + nw = 54 ∧ 1 = nw) by omega), sx_un (show ¬ (14 + nw = 53 ∧ 1 = nw) by omega), sx_un (show ¬ (14 + nw = 2 ∧ 1 = 9) by omega), sx_un (show ¬ (14 + nw = 14 + nw ∧ 1 = 5) by omega), sx_un (show ¬ (14 + nw = 14 + nw ∧ 1 = 4) by omega), sx_un (show ¬ (14 + nw = 14 + nw ∧ 1 = 6) by omega), sx_un (show ¬ (14 + nw = 14 + nw ∧ 1 = 3) by omega), sx_un (show ¬ (14 + nw = 14 + nw ∧ 1 = 2) by omega), sx_us, fgx_ne (by omega)]
      · rw [hT (14 + nw) 2 (by omega) (by omega) (by omega) (by omega) (by omega), sx_un (show ¬ (14 + nw = 51 ∧ 2 = 2) by omega), sx_un (show ¬ (14 + nw = 60 ∧ 2 = nw) by omega), sx_un (show ¬ (14 + nw = 59 ∧ 2 = nw) by omega), sx_un (show ¬ (14 + nw = 57 ∧ 2 = nw) by omega), sx_un (show ¬ (14 + nw = 56 ∧ 2 = nw) by omega), sx_un (show ¬ (14 + nw = 55 ∧ 2 = nw) by omega), sx_un (show ¬ (14 + nw = 54 ∧ 2 = nw) by omega), sx_un (show ¬ (14 + nw = 53 ∧ 2 = nw) by omega), sx_un (show ¬ (14 + nw = 2 ∧ 2 = 9) by omega), sx_un (show ¬ (14 + nw = 14 + nw ∧ 2 = 5) by omega), sx_un (show ¬ (14 + nw = 14 + nw ∧ 2 = 4) by omega), sx_un (show ¬ (14 + nw = 14 + nw ∧ 2 = 6) by omega), sx_un (show ¬ (14 + nw = 14 + nw ∧ 2 = 3) by omega), sx_us]
      · rw [hT (14 + nw) 3 (by omega) (by omega) (by omega) (by omega) (by omega), sx_un (show ¬ (14 + nw = 51 ∧ 3 = 2) by omega), sx_un (show ¬ (14 + nw = 60 ∧ 3 = nw) by omega), sx_un (show ¬ (14 + nw = 59 ∧ 3 = nw) by omega), sx_un (show ¬ (14 + nw = 57 ∧ 3 = nw) by omega), sx_un (show ¬ (14 + nw = 56 ∧ 3 = nw) by omega), sx_un (show ¬ (14 + nw = 55 ∧ 3 = nw) by omega), sx_un (show ¬ (14 + nw = 54 ∧ 3 = nw) by omega), sx_un (show ¬ (14 + nw = 53 ∧ 3 = nw) by omega), sx_un (show ¬ (14 + nw = 2 ∧ 3 = 9) by omega), sx_un (show ¬ (14 + nw = 14 + nw ∧ 3 = 5) by omega), sx_un (show ¬ (14 + nw = 14 + nw ∧ 3 = 4) by omega), sx_un (show ¬ (14 + nw = 14 + nw ∧ 3 = 6) by omega), sx_us]
      · rw [hT (14 + nw) 4 (by omega) (by omega) (by omega) (by omega) (by omega), sx_un (show ¬ (14 + nw = 51 ∧ 4 = 2) by omega), sx_un (show ¬ (14 + nw = 60 ∧ 4 = nw) by omega), sx_un (show ¬ (14 + nw = 59 ∧ 4 = nw) by omega), sx_un (show ¬ (14 + nw = 57 ∧ 4 = nw) by omega), sx_un (show ¬ (14 + nw = 56 ∧ 4 = nw) by omega), sx_un (show ¬ (14 + nw = 55 ∧ 4 = nw) by omega), sx_un (show ¬ (14 + nw = 54 ∧ 4 = nw) by omega), sx_un (show ¬ (14 + nw = 53 ∧ 4 = nw) by omega), sx_un (show ¬ (14 + nw = 2 ∧ 4 = 9) by omega), sx_un (show ¬ (14 + nw = 14 + nw ∧ 4 = 5) by omega), sx_us]
      · rw [hT (14 + nw) 5 (by omega) (by omega) (by omega) (by omega) (by omega), sx_un (show ¬ (14 + nw = 51 ∧ 5 = 2) by omega), sx_un (show ¬ (14 + nw = 60 ∧ 5 = nw) by omega), sx_un (show ¬ (14 + nw = 59 ∧ 5 = nw) by omega), sx_un (show ¬ (14 + nw = 57 ∧ 5 = nw) by omega), sx_un (show ¬ (14 + nw = 56 ∧ 5 = nw) by omega), sx_un (show ¬ (14 + nw = 55 ∧ 5 = nw) by omega), sx_un (show ¬ (14 + nw = 54 ∧ 5 = nw) by omega), sx_un (show ¬ (14 + nw = 53 ∧ 5 = nw) by omega), sx_un (show ¬ (14 + nw = 2 ∧ 5 = 9) by omega), sx_us]
      · rw [hT (14 + nw) 6 (by omega) (by omega) (by omega) (by omega) (by omega), sx_un (show ¬ (14 + nw = 51 ∧ 6 = 2) by omega), sx_un (show ¬ (14 + nw = 60 ∧ 6 = nw) by omega), sx_un (show ¬ (14 + nw = 59 ∧ 6 = nw) by omega), sx_un (show ¬ (14 + nw = 57 ∧ 6 = nw) by omega), sx_un (show ¬ (14 + nw = 56 ∧ 6 = nw) by omega), sx_un (show ¬ (14 + nw = 55 ∧ 6 = nw) by omega), sx_un (show ¬ (14 + nw = 54 ∧ 6 = nw) by omega), sx_un (show ¬ (14 + nw = 53 ∧ 6 = nw) by omega), sx_un (show ¬ (14 + nw = 2 ∧ 6 = 9) by omega), sx_un (show ¬ (14 + nw = 14 + nw ∧ 6 = 5) by omega), sx_un (show ¬ (14 + nw = 14 + nw ∧ 6 = 4) by omega), sx_us]
      · rw [hT (2) 9 (by omega) (by omega) (by omega) (by omega) (by omega), sx_un (show ¬ (2 = 51 ∧ 9 = 2) by omega), sx_un (show ¬ (2 = 60 ∧ 9 = nw) by omega), sx_un (show ¬ (2 = 59 ∧ 9 = nw) by omega), sx_un (show ¬ (2 = 57 ∧ 9 = nw) by omega), sx_un (show ¬ (2 = 56 ∧ 9 = nw) by omega), sx_un (show ¬ (2 = 55 ∧ 9 = nw) by omega), sx_un (show ¬ (2 = 54 ∧ 9 = nw) by omega), sx_un (show ¬ (2 = 53 ∧ 9 = nw) by omega), sx_us]
      · rw [hT (51) 2 (by omega) (by omega) (by omega) (by omega) (by omega), sx_us]
      · rw [hT (53) nw (by omega) (by omega) (by omega) (by omega) (by omega), sx_un (show ¬ (53 = 51 ∧ nw = 2) by omega), sx_un (show ¬ (53 = 60 ∧ nw = nw) by omega), sx_un (show ¬ (53 = 59 ∧ nw = nw) by omega), sx_un (show ¬ (53 = 57 ∧ nw = nw) by omega), sx_un (show ¬ (53 = 56 ∧ nw = nw) by omega), sx_un (show ¬ (53 = 55 ∧ nw = nw) by omega), sx_un (show ¬ (53 = 54 ∧ nw = nw) by omega), sx_us]
      · rw [hT (54) nw (by omega) (by omega) (by omega) (by omega) (by omega), sx_un (show ¬ (54 = 51 ∧ nw = 2) by omega), sx_un (show ¬ (54 = 60 ∧ nw = nw) by omega), sx_un (show ¬ (54 = 59 ∧ nw = nw) by omega), sx_un (show ¬ (54 = 57 ∧ nw = nw) by omega), sx_un (show ¬ (54 = 56 ∧ nw = nw) by omega), sx_un (show ¬ (54 = 55 ∧ nw = nw) by omega), sx_us]
      · rw [hT (55) nw (by omega) (by omega) (by omega) (by omega) (by omega), sx_un (show ¬ (55 = 51 ∧ nw = 2) by omega), sx_un (show ¬ (55 = 60 ∧ nw = nw) by omega), sx_un (show ¬ (55 = 59 ∧ nw = nw) by omega), sx_un (show ¬ (55 = 57 ∧ nw = nw) by omega), sx_un (show ¬ (55 = 56 ∧ nw = nw) by omega), sx_us]
      · rw [hT (56) nw (by omega) (by omega) (by omega) (by omega) (by omega), sx_un (show ¬ (56 = 51 ∧ nw = 2) by omega), sx_un (show ¬ (56 = 60 ∧ nw = nw) by omega), sx_un (show ¬ (56 = 59 ∧ nw = nw) by omega), sx_un (show ¬ (56 = 57 ∧ nw = nw) by omega), sx_us]
      · rw [hT (57) nw (by omega) (by omega) (by omega) (by omega) (by omega), sx_un (show ¬ (57 = 51 ∧ nw = 2) by omega), sx_un (show ¬ (57 = 60 ∧ nw = nw) by omega), sx_un (show ¬ (57 = 59 ∧ nw = nw) by omega), sx_us]
      · rw [hT (59) nw (by omega) (by omega) (by omega) (by omega) (by omega), sx_un (show ¬ (59 = 51 ∧ nw = 2) by omega), sx_un (show ¬ (59 = 60 ∧ nw = nw) by omega), sx_us]
      · rw [hT (60) nw (by omega) (by omega) (by omega) (by omega) (by omega), sx_un (show ¬ (60 = 51 ∧ nw = 2) by omega), sx_us]
      · have hlt : 6 * a + b2 < 36 := by omega
        rw [hc.1 58 (6 * a + b2) (by omega), sx_un (show ¬ (58 = 51 ∧ 6 * a + b2 = 19) by omega), hg4 a b2 h1 h2]
        by_cases q : b2 = nw ∨ a = nw
        · rw [if_pos q, if_pos (by omega)]
        · rw [if_neg q, if_neg (by omega), sx_un (show ¬ (58 = 51 ∧ 6 * a + b2 = 2) by omega), sx_un (show ¬ (58 = 60 ∧ 6 * a + b2 = nw) by omega), sx_un (show ¬ (58 = 59 ∧ 6 * a + b2 = nw) by omega), sx_un (show ¬ (58 = 57 ∧ 6 * a + b2 = nw) by omega), sx_un (show ¬ (58 = 56 ∧ 6 * a + b2 = nw) by omega), sx_un (show ¬ (58 = 55 ∧ 6 * a + b2 = nw) by omega), sx_un (show ¬ (58 = 54 ∧ 6 * a + b2 = nw) by omega), sx_un (show ¬ (58 = 53 ∧ 6 * a + b2 = nw) by omega), hi 58 _ (by omega), fgx_ne (by omega)]
    exact ⟨rfl, M3, rfl, nc, nw + 1, nb, ek⟩
  · have hb2 : sx_r b := by rcases hb with rfl | rfl; exact ⟨by decide, by decide⟩; exact ⟨by decide, by decide⟩
    exact pp_q ⟨nc, nw, nb, hM⟩ (Nat.le_of_ble_eq_true rfl) (Nat.le_of_ble_eq_true rfl) (c_work_bad M nw hM.wn hM.w6 nc hM.cn hM.c4 x f t s b hx hf0 ht0 hs0 hb2 hg) (m_work_bad M nc nw nb hM M (sf.rf M) hM.ir x f t s b hx hf0 ht0 hs0 hb2 hg)
