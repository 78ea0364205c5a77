set_option maxHeartbeats 4000000 in
theorem p_proved {L : Nat} {xs : Nat → Int32}  {M : Nat → Nat → Int} (hE : MRE M) : PP y_T_proved y_M_proved L xs [] M := by
  obtain ⟨nc, nw, nb, hM⟩ := hE
  have hE : MRE M := ⟨nc, nw, nb, hM⟩
  have w6 := hM.w6
  exact pp_q hE (Nat.le_of_ble_eq_true rfl) (Nat.le_of_ble_eq_true rfl) (c_proved M hM.mpr.2) (by have h := m_proved (L := L) (xs := xs) M (by rw [hM.mpr.1]; exact hM.mpr.2); rw [hM.mpr.1] at h; exact h)
set_option maxHeartbeats 4000000 in
theorem p_tried {L : Nat} {xs : Nat → Int32}  {M : Nat → Nat → Int} (hE : MRE M) : PP y_T_tried y_M_tried L xs [] M := by
  obtain ⟨nc, nw, nb, hM⟩ := hE
  have hE : MRE M := ⟨nc, nw, nb, hM⟩
  have w6 := hM.w6
  exact pp_q hE (Nat.le_of_ble_eq_true rfl) (Nat.le_of_ble_eq_true rfl) (c_tried M) (by have h := m_tried (L := L) (xs := xs) M; rw [hM.mtr] at h; exact h)
set_option maxHeartbeats 4000000 in
theorem p_moved {L : Nat} {xs : Nat → Int32} {x : Int} (hx : sx_r x) {M : Nat → Nat → Int} (hE : MRE M) : PP y_T_moved y_M_moved L xs [.inl x] M := by
  obtain ⟨nc, nw, nb, hM⟩ := hE
  have hE : MRE M := ⟨nc, nw, nb, hM⟩
  have w6 := hM.w6
  by_cases hg : M 1 7 ≠ 0 ∧ 0 ≤ x ∧ x < nw
  · obtain ⟨u, rfl⟩ := Int.eq_ofNat_of_zero_le (show 0 ≤ x by omega)
    exact pp_q hE (Nat.le_of_ble_eq_true rfl) (Nat.le_of_ble_eq_true rfl) (c_moved_ok M hM.ir nw hM.wn hM.w6 u (by omega) hg.1) (m_moved_ok M nc nw nb hM M (sf.rf M) hM.ir u (by omega) hg.1)
  · exact pp_q hE (Nat.le_of_ble_eq_true rfl) (Nat.le_of_ble_eq_true rfl) (c_moved_bad M hM.ir nw hM.wn hM.w6 x hx hg) (m_moved_bad M nc nw nb hM M (sf.rf M) hM.ir x hx hg)
set_option maxHeartbeats 4000000 in
theorem p_told {L : Nat} {xs : Nat → Int32} {x q : Int} (hx : sx_r x) (hq : sx_r q) {M : Nat → Nat → Int} (hE : MRE M) : PP y_T_told y_M_told L xs [.inl x, .inl q] M := by
  obtain ⟨nc, nw, nb, hM⟩ := hE
  have hE : MRE M := ⟨nc, nw, nb, hM⟩
  have w6 := hM.w6
  by_cases hg : M 1 7 ≠ 0 ∧ 0 ≤ x ∧ x < nw
  · obtain ⟨u, rfl⟩ := Int.eq_ofNat_of_zero_le (show 0 ≤ x by omega)
    have hu : u < nw := by omega
    have hc := c_told_ok (L := L) (xs := xs) M hM.dy hM.ir nw hM.wn hM.w6 u hu (hM.ws u hu).1 q hq hg.1 (hM.pl hg.1)
    by_cases h3 : 0 ≤ q ∧ q ≤ 2
    · exact pp_m hM (Nat.le_of_ble_eq_true rfl) (Nat.le_of_ble_eq_true rfl) hc (m_told_ok M nc nw nb hM M (sf.rf M) hM.ir hg.1 u hu q h3)
    · rw [if_neg (by omega), if_neg (by omega), if_neg (by omega)] at hc
      exact pp_q hE (Nat.le_of_ble_eq_true rfl) (Nat.le_of_ble_eq_true rfl) hc (m_told_bad M nc nw nb hM M (sf.rf M) hM.ir _ q hx hq (by omega))
  · exact pp_q hE (Nat.le_of_ble_eq_true rfl) (Nat.le_of_ble_eq_true rfl) (c_told_bad M hM.ir nw hM.wn hM.w6 x q hx hq hg) (m_told_bad M nc nw nb hM M (sf.rf M) hM.ir x q hx hq (by omega))
set_option maxHeartbeats 4000000 in
theorem p_at {L : Nat} {xs : Nat → Int32} {x q : Int} (hx : sx_r x) (hq : sx_r q) {M : Nat → Nat → Int} (hE : MRE M) : PP y_T_at y_M_at L xs [.inl x, .inl q] M := by
  obtain ⟨nc, nw, nb, hM⟩ := hE
  have hE : MRE M := ⟨nc, nw, nb, hM⟩
  have w6 := hM.w6
  by_cases hg : M 1 7 ≠ 0 ∧ 0 ≤ x ∧ x < nw ∧ 0 ≤ q
  · obtain ⟨u, rfl⟩ := Int.eq_ofNat_of_zero_le (show 0 ≤ x by omega)
    have hu : u < nw := by omega
    exact pp_q hE (Nat.le_of_ble_eq_true rfl) (Nat.le_of_ble_eq_true rfl) (c_at_ok M hM.dy hM.ir nw hM.wn hM.w6 u hu (hM.ws u hu).1 q hq hg.1 hg.2.2.2 (hM.pl hg.1)) (m_at_ok M nc nw nb hM M (sf.rf M) hM.ir hg.1 u hu q hq hg.2.2.2)
  · exact pp_q hE (Nat.le_of_ble_eq_true rfl) (Nat.le_of_ble_eq_true rfl) (c_at_bad M hM.ir nw hM.wn hM.w6 x q hx hq hg) (m_at_bad M nc nw nb hM M (sf.rf M) hM.ir x q hx hq hg)
set_option maxHeartbeats 4000000 in
theorem p_passes {L : Nat} {xs : Nat → Int32} {x p lv q : Int} (hx : sx_r x) (hp : sx_r p) (hlv : lv = 0 ∨ lv = 1) (hq : sx_r q) {M : Nat → Nat → Int} (hE : MRE M) : PP y_T_passes y_M_passes L xs [.inl x, .inl p, .inl lv, .inl q] M := by
  obtain ⟨nc, nw, nb, hM⟩ := hE
  have hE : MRE M := ⟨nc, nw, nb, hM⟩
  have w6 := hM.w6
  have hl2 : sx_r lv := by rcases hlv with rfl | rfl; exact ⟨by decide, by decide⟩; exact ⟨by decide, by decide⟩
  by_cases hg : M 1 7 ≠ 0 ∧ 0 ≤ x ∧ x < nw ∧ M (14 + Int.toNat x) 2 ≤ p ∧ p ≤ M (14 + Int.toNat x) 3 ∧ 0 ≤ q ∧ q ≤ 1
  · obtain ⟨u, rfl⟩ := Int.eq_ofNat_of_zero_le (show 0 ≤ x by omega)
    rw [show Int.toNat (u : Int) = u from Int.toNat_natCast u] at hg
    have hu : u < nw := by omega
    exact pp_m hM (Nat.le_of_ble_eq_true rfl) (Nat.le_of_ble_eq_true rfl) (c_passes_ok M hM.dy hM.ir nw hM.wn hM.w6 u hu (hM.ws u hu).1 p lv q hp hl2 hq hg.1 (hM.pl hg.1) hg.2.2.2.1 hg.2.2.2.2.1 hg.2.2.2.2.2) (m_passes_ok M nc nw nb hM M (sf.rf M) hM.ir hg.1 u hu p lv q hg.2.2.2.1 hg.2.2.2.2.1 hlv hg.2.2.2.2.2)
  · exact pp_q hE (Nat.le_of_ble_eq_true rfl) (Nat.le_of_ble_eq_true rfl) (c_passes_bad M hM.ir nw hM.wn hM.w6 x p lv q hx hp hl2 hq hg) (m_passes_bad M nc nw nb hM M (sf.rf M) hM.ir x p lv q hx hp hl2 hq hg)
theorem z01_eq {z z2 : Int} {P : Prop} (h : z = 0 ∨ z = 1) (h2 : z2 = 0 ∨ z2 = 1) (e : z = 1 ↔ P) (e2 : z2 = 1 ↔ P) : z2 = z := by rcases h with rfl | rfl <;> rcases h2 with rfl | rfl <;> first | rfl | (exfalso; have := e.trans e2.symm; omega)
set_option maxHeartbeats 4000000 in
theorem p_crosses {L : Nat} {xs : Nat → Int32} {x q : Int} (hx : sx_r x) (hq : sx_r q) {M : Nat → Nat → Int} (hE : MRE M) : PP y_T_crosses y_M_crosses L xs [.inl x, .inl q] M := by
  obtain ⟨nc, nw, nb, hM⟩ := hE
  have hE : MRE M := ⟨nc, nw, nb, hM⟩
  have w6 := hM.w6
  by_cases hg : M 1 7 ≠ 0 ∧ 0 ≤ x ∧ x < nw ∧ 0 ≤ q ∧ q < nw
  · obtain ⟨u, rfl⟩ := Int.eq_ofNat_of_zero_le (show 0 ≤ x by omega)
    obtain ⟨u2, rfl⟩ := Int.eq_ofNat_of_zero_le (show 0 ≤ q by omega)
    refine pp1 (Nat.le_of_ble_eq_true rfl) (c_crosses_ok M hM.dy hM.ir nw hM.wn hM.w6 (fun w hw => (hM.ws w hw).1) (hM.pl hg.1) u u2 (by omega) (by omega) hg.1) ?_
    rintro v h2 ⟨z, rfl, z1, z2, rfl⟩
    refine ⟨z, M, _, _, rfl, rfl, ?_, m_crosses_ok M nc nw nb hM M (sf.rf M) hM.ir hg.1 u u2 (by omega) (by omega), ?_⟩
    · exact (Nat.le_of_ble_eq_true rfl)
    rintro v h3 ⟨y, rfl, y1, y2, M3, rfl, m1, m2⟩
    exact ⟨by rw [z01_eq z1 y1 z2 y2], M3, rfl, nc, nw, nb, hM.mq m1 m2⟩
  · exact pp_q hE (Nat.le_of_ble_eq_true rfl) (Nat.le_of_ble_eq_true rfl) (c_crosses_bad M hM.ir nw hM.wn hM.w6 x q hx hq hg) (m_crosses_bad M nc nw nb hM M (sf.rf M) hM.ir x q hx hq hg)
set_option maxHeartbeats 4000000 in
theorem p_under {L : Nat} {xs : Nat → Int32} {x q : Int} (hx : sx_r x) (hq : sx_r q) {M : Nat → Nat → Int} (hE : MRE M) : PP y_T_under y_M_under L xs [.inl x, .inl q] M := by
  obtain ⟨nc, nw, nb, hM⟩ := hE
  have hE : MRE M := ⟨nc, nw, nb, hM⟩
  have w6 := hM.w6
  by_cases hg : M 1 7 ≠ 0 ∧ 0 ≤ x ∧ x ≤ 3 ∧ 0 ≤ q
  · exact pp_m hM (Nat.le_of_ble_eq_true rfl) (Nat.le_of_ble_eq_true rfl) (c_under_ok M hM.dy hM.ir nw hM.wn hM.w6 (fun w hw => (hM.ws w hw).1) (hM.pl hg.1) x q hx hq hg) (m_under_ok M nc nw nb hM M (sf.rf M) hM.ir hg.1 x q hx hq hg.2)
  · exact pp_q hE (Nat.le_of_ble_eq_true rfl) (Nat.le_of_ble_eq_true rfl) (c_under_bad M hM.ir x q hx hq hg) (m_under_bad M nc nw nb hM M (sf.rf M) hM.ir x q hx hq hg)
set_option maxHeartbeats 4000000 in
theorem p_bound {L : Nat} {xs : Nat → Int32}  {M : Nat → Nat → Int} (hE : MRE M) : PP y_T_bound y_M_bound L xs [] M := by
  obtain ⟨nc, nw, nb, hM⟩ := hE
  have hE : MRE M := ⟨nc, nw, nb, hM⟩
  have w6 := hM.w6
  exact pp_q hE (Nat.le_of_ble_eq_true rfl) (Nat.le_of_ble_eq_true rfl) (c_bound M hM.ir nw hM.wn hM.w6 nc hM.cn hM.c4 (fun w hw => (hM.ws w hw).1)) (m_bound M nc nw nb hM M (sf.rf M) hM.ir)
/-- which of the works it is -/
theorem lone_eq {nw : Nat} {P : Nat → Prop} {k : Int} {v v2 : Option sx_v} (h : (∃ j, j < nw ∧ ¬ P j ∧ sm (fun j => b01 (¬ P j)) j = k ∧ v = some (.inl (j : Int))) ∨ (v = some (.inl (-1)) ∧ ∀ j, j < nw → ¬ P j → sm (fun j => b01 (¬ P j)) j ≠ k)) (h2 : (∃ j, j < nw ∧ ¬ P j ∧ sm (fun j => b01 (¬ P j)) j = k ∧ v2 = some (.inl (j : Int))) ∨ (v2 = some (.inl (-1)) ∧ ∀ j, j < nw → ¬ P j → sm (fun j => b01 (¬ P j)) j ≠ k)) : v2 = v ∧ ∃ z, v = some (.inl z) := by
  have key : ∀ i j, i < j → ¬ P i → sm (fun j => b01 (¬ P j)) i < sm (fun j => b01 (¬ P j)) j := by
    intro i j hij hi
    induction j with
    | zero => omega
    | succ j ih =>
      have h0 : (0 : Int) ≤ b01 (¬ P j) := by unfold b01; split <;> decide
      by_cases q : i = j
      · subst q
        have h1 : b01 (¬ P i) = 1 := by unfold b01; rw [if_pos hi]
        simp only [sm, h1]
        omega
      · have := ih (by omega)
        simp only [sm]
        omega
  rcases h with ⟨j, a1, a2, a3, rfl⟩ | ⟨rfl, a1⟩
  · rcases h2 with ⟨i, b1, b2, b3, rfl⟩ | ⟨rfl, b1⟩
    · have e : i = j := by
        rcases Nat.lt_trichotomy i j with q | q | q
        · have := key i j q b2
          omega
        · exact q
        · have := key j i q a2
          omega
      rw [e]
      exact ⟨rfl, _, rfl⟩
    · exact absurd a3 (b1 j a1 a2)
  · rcases h2 with ⟨i, b1, b2, b3, rfl⟩ | ⟨rfl, b1⟩
    · exact absurd b3 (a1 i b1 b2)
    · exact ⟨rfl, _, rfl⟩
set_option maxHeartbeats 4000000 in
theorem p_lone {L : Nat} {xs : Nat → Int32} {x : Int} (hx : sx_r x) {M : Nat → Nat → Int} (hE : MRE M) : PP y_T_lone y_M_lone L xs [.inl x] M := by
  obtain ⟨nc, nw, nb, hM⟩ := hE
  have hE : MRE M := ⟨nc, nw, nb, hM⟩
  have w6 := hM.w6
  refine pp1 (Nat.le_of_ble_eq_true rfl) (c_lone M hM.dy hM.ir nw hM.wn hM.w6 nb hM.bn hM.b8 hM.ws x hx) ?_
  rintro v h2 ⟨M1, rfl, f1, f2, f3⟩
  have hs : sf M M1 := fun a k h1 _ _ => f1 a k (by omega)
  obtain ⟨z, rfl⟩ := (lone_eq f3 f3).2
  refine ⟨z, M1, _, _, rfl, rfl, ?_, m_lone M nc nw nb hM M1 hs f2 x hx, ?_⟩
  · exact (Nat.le_of_ble_eq_true rfl)
  rintro v h3 ⟨M3, rfl, g1, g2, g3⟩
  exact ⟨(lone_eq f3 g3).1, M3, rfl, nc, nw, nb, hM.q (fun a k q1 q2 q3 q4 => by rw [g1 a k (by omega) q3]; exact f1 a k q1) g2⟩
set_option maxHeartbeats 4000000 in
theorem p_slack {L : Nat} {xs : Nat → Int32} {x : Int} (hx : sx_r x) {M : Nat → Nat → Int} (hE : MRE M) : PP y_T_slack y_M_slack L xs [.inl x] M := by
  obtain ⟨nc, nw, nb, hM⟩ := hE
  have hE : MRE M := ⟨nc, nw, nb, hM⟩
  have w6 := hM.w6
  by_cases hg : M 1 7 ≠ 0 ∧ 0 ≤ x ∧ x < nw
  · obtain ⟨u, rfl⟩ := Int.eq_ofNat_of_zero_le (show 0 ≤ x by omega)
    have hu : u < nw := by omega
    have hpl := (hM.pl hg.1 u hu).1
    refine pp1 (Nat.le_of_ble_eq_true rfl) (c_slack_ok M hM.dy hM.ir nw hM.wn hM.w6 nb hM.bn hM.b8 hM.ws (hM.pl hg.1) hM.gp u hu hg.1) ?_
    rintro v h2 ⟨rfl, M1, rfl, f1, f2⟩
    have hs : sf M M1 := fun a k h1 _ _ => f1 a k (by omega)
    refine ⟨_, M1, _, _, rfl, rfl, ?_, m_slack_ok M nc nw nb hM M1 hs f2 hg.1 u hu, ?_⟩
    · exact (Nat.le_of_ble_eq_true rfl)
    rintro v h3 ⟨rfl, M3, rfl, g1, g2⟩
    refine ⟨?_, M3, rfl, nc, nw, nb, hM.q (fun a k q1 q2 q3 q4 => by rw [g1 a k (by omega) q3]; exact f1 a k (by omega)) g2⟩
    have e : skf (fun s => dr M s.toNat = false) (mSl M nw nb u) (99 - M 23 u).toNat (M 23 u + 1) = skf (fun s => dr M s.toNat = false) (cSl M nw nb u) (99 - M 23 u).toNat (M 23 u + 1) := skf_c _ _ (fun t h1 h2 => ⟨Iff.rfl, fun hw => (mSl_iff hM hg.1 hu (by omega) hw).symm⟩)
    rw [e]
  · exact pp_q hE (Nat.le_of_ble_eq_true rfl) (Nat.le_of_ble_eq_true rfl) (c_slack_bad M hM.ir nw hM.wn hM.w6 x hx hg) (m_slack_bad M nc nw nb hM M (sf.rf M) hM.ir x hx hg)
set_option maxHeartbeats 4000000 in
theorem p_odds {L : Nat} {xs : Nat → Int32} {x dw ch q : Int} (hx : sx_r x) (hdw : sx_r dw) (hch : sx_r ch) (hq : sx_r q) {M : Nat → Nat → Int} (hE : MRE M) : PP y_T_odds y_M_odds L xs [.inl x, .inl dw, .inl ch, .inl q] M := by
  obtain ⟨nc, nw, nb, hM⟩ := hE
  have hE : MRE M := ⟨nc, nw, nb, hM⟩
  have w6 := hM.w6
  by_cases hg : M 1 7 ≠ 0 ∧ 0 ≤ x ∧ 1 ≤ dw ∧ dw ≤ 50 ∧ 0 ≤ ch ∧ ch ≤ 90
  · obtain ⟨u, rfl⟩ := Int.eq_ofNat_of_zero_le (show 0 ≤ dw by omega)
    have hn5 : ∀ i, i < nw → 1 ≤ M (14 + i) 5 ∧ M (14 + i) 5 ≤ 200 := fun i hi => by
      obtain ⟨a1, a2, a3, a4, a5, a6⟩ := (hM.ws i hi).1
      rw [a6]
      exact need_r (len := M (14 + i) 3 - M (14 + i) 2) (v := M (14 + i) 4) (by omega) (by omega) (by omega)
    refine pp1 (Nat.le_of_ble_eq_true rfl) (c_odds_ok M hM.dy hM.ir nw hM.wn hM.w6 (hM.pl hg.1) hn5 q ch hq hch x hx hg.2.1 u (by omega) ⟨hg.1, by omega, hg.2.2.2.2⟩) ?_
    rintro v h2 ⟨rfl, M1, rfl, f1, f2⟩
    have hs : sf M M1 := fun a k h1 _ _ => f1 a k (by omega) (by omega)
    refine ⟨_, M1, _, _, rfl, rfl, ?_, m_odds_ok M nc nw nb hM M1 hs f2 hg.1 x hx hg.2.1 u (by omega) ch q hch hq ⟨by omega, hg.2.2.2.2⟩, ?_⟩
    · exact (Nat.le_of_ble_eq_true rfl)
    rintro v h3 ⟨rfl, M3, rfl, g1, g2⟩
    exact ⟨rfl, M3, rfl, nc, nw, nb, hM.q (fun a k q1 q2 q3 q4 => by rw [g1 a k (by omega) q3]; exact f1 a k (by omega) (by omega)) g2⟩
  · exact pp_q hE (Nat.le_of_ble_eq_true rfl) (Nat.le_of_ble_eq_true rfl) (c_odds_bad M hM.ir x dw ch q hx hdw hch hq hg) (m_odds_bad M nc nw nb hM M (sf.rf M) hM.ir x dw ch q hx hdw hch hq hg)
set_option maxHeartbeats 4000000 in
theorem p_count {L : Nat} {xs : Nat → Int32} {x : Int} (hx : sx_r x) {M : Nat → Nat → Int} (hE : MRE M) : PP y_T_count y_M_count L xs [.inl x] M := by
  obtain ⟨nc, nw, nb, hM⟩ := hE
  have hE : MRE M := ⟨nc, nw, nb, hM⟩
  have w6 := hM.w6
  exact pp_m hM (Nat.le_of_ble_eq_true rfl) (Nat.le_of_ble_eq_true rfl) (c_count M hM.ir nw hM.wn hM.w6 x hx) (m_count M nc nw nb hM M (sf.rf M) hM.ir x hx)
