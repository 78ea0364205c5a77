theorem lc_r (x y : Int) : -1 ≤ (if x < y then (-1 : Int) else if x = y then 0 else 1) ∧ (if x < y then (-1 : Int) else if x = y then 0 else 1) ≤ 1 ∧ ((if x < y then (-1 : Int) else if x = y then 0 else 1) < 0 ↔ x < y) ∧ (0 < (if x < y then (-1 : Int) else if x = y then 0 else 1) ↔ y < x) := by
  (repeat' split) <;> omega
set_option maxRecDepth 100000 in
set_option maxHeartbeats 4000000 in
theorem c_M_within {L : Nat} {xs : Nat → Int32} (M : Nat → Nat → Int) (x lo hi : Int) (hx : sx_r x) (hlo : sx_r lo) (hhi : sx_r hi) : sx_R y_M_within (0, 0, 0) L xs [.inl x, .inl lo, .inl hi] (gm M) (fun v h2 => ∃ z, v = some (.inl z) ∧ (z = 0 ∨ z = 1) ∧ (z = 1 ↔ lo ≤ x ∧ x ≤ hi) ∧ h2 = gm M) := by
  refine sx_enter rfl (Nat.le_of_ble_eq_true rfl) rfl ?_
  show sx_V y_M_within (0, 0, 0) L xs (0, 0) 0 [some (.inl x), some (.inl lo), some (.inl hi)] [] (gm M) _
  refine sx_iload_n d_M_within_0 rfl ?_
  refine sx_iload_n d_M_within_1 rfl ?_
  refine sx_icmp_lt (tgt := 14) d_M_within_2 (by decide) (by omega) (by omega) (fun c2_7 => ?_) (fun c2_7 => ?_)
  · refine sx_iconst d_M_within_14 ?_
    refine sx_retI d_M_within_15 (Or.inr ⟨rfl, by first | exact Or.inl rfl | exact Or.inr rfl | omega⟩) ⟨Nat.zero_le _, Nat.zero_le _⟩ ?_
    refine ⟨_, rfl, ?_, ?_, rfl⟩ <;> omega
  · refine sx_iload_n d_M_within_5 rfl ?_
    refine sx_iload_n d_M_within_6 rfl ?_
    refine sx_icmp_gt (tgt := 14) d_M_within_7 (by decide) (by omega) (by omega) (fun c7_13 => ?_) (fun c7_13 => ?_)
    · refine sx_iconst d_M_within_14 ?_
      refine sx_retI d_M_within_15 (Or.inr ⟨rfl, by first | exact Or.inl rfl | exact Or.inr rfl | omega⟩) ⟨Nat.zero_le _, Nat.zero_le _⟩ ?_
      refine ⟨_, rfl, ?_, ?_, rfl⟩ <;> omega
    · refine sx_iconst d_M_within_10 ?_
      refine sx_goto (tgt := 15) d_M_within_11 (by decide) ?_
      refine sx_retI d_M_within_15 (Or.inr ⟨rfl, by first | exact Or.inl rfl | exact Or.inr rfl | omega⟩) ⟨Nat.zero_le _, Nat.zero_le _⟩ ?_
      refine ⟨_, rfl, ?_, ?_, rfl⟩ <;> omega
set_option maxRecDepth 100000 in
set_option maxHeartbeats 4000000 in
theorem c_M_isWork {L : Nat} {xs : Nat → Int32} (M : Nat → Nat → Int) (nc nw nb : Nat) (hM : MR M nc nw nb) (M1 : Nat → Nat → Int) (M1s : sf M M1) (w : Int) (hw : sx_r w) : sx_R y_M_isWork (0, 0, 0) L xs [sx_p 51, .inl w] (gm M1) (fun v h2 => ∃ z, v = some (.inl z) ∧ (z = 0 ∨ z = 1) ∧ (z = 1 ↔ 0 ≤ w ∧ w < nw) ∧ h2 = gm M1) := by
  have h6 := hM.w6
  refine sx_enter rfl (Nat.le_of_ble_eq_true rfl) rfl ?_
  show sx_V y_M_isWork (0, 0, 0) L xs (0, 0) 0 [some (sx_p 51), some (.inl w)] [] (gm M1) _
  refine sx_iload_n d_M_isWork_0 rfl ?_
  refine sx_if_lt (tgt := 16) d_M_isWork_1 (by decide) (by omega) (fun c1_7 => ?_) (fun c1_7 => ?_)
  · refine sx_iconst d_M_isWork_16 ?_
    refine sx_retI d_M_isWork_17 (Or.inr ⟨rfl, by first | exact Or.inl rfl | exact Or.inr rfl | omega⟩) ⟨Nat.zero_le _, Nat.zero_le _⟩ ?_
    refine ⟨_, rfl, ?_, ?_, rfl⟩ <;> omega
  · refine sx_iload_n d_M_isWork_4 rfl ?_
    refine sx_aload_n d_M_isWork_5 rfl ?_
    refine sx_getI (z := (nw : Int)) d_M_isWork_6 fl_M_95 (go rfl rfl rfl) (by decide) (by decide) (by decide) ((M1s 51 2 (by decide) (by decide) (by omega)).trans hM.mwn) ?_
    refine sx_icmp_ge (tgt := 16) d_M_isWork_9 (by decide) (by omega) (by omega) (fun c9_14 => ?_) (fun c9_14 => ?_)
    · refine sx_iconst d_M_isWork_16 ?_
      refine sx_retI d_M_isWork_17 (Or.inr ⟨rfl, by first | exact Or.inl rfl | exact Or.inr rfl | omega⟩) ⟨Nat.zero_le _, Nat.zero_le _⟩ ?_
      refine ⟨_, rfl, ?_, ?_, rfl⟩ <;> omega
    · refine sx_iconst d_M_isWork_12 ?_
      refine sx_goto (tgt := 17) d_M_isWork_13 (by decide) ?_
      refine sx_retI d_M_isWork_17 (Or.inr ⟨rfl, by first | exact Or.inl rfl | exact Or.inr rfl | omega⟩) ⟨Nat.zero_le _, Nat.zero_le _⟩ ?_
      refine ⟨_, rfl, ?_, ?_, rfl⟩ <;> omega
set_option maxRecDepth 100000 in
set_option maxHeartbeats 4000000 in
theorem c_M_isRest {L : Nat} {xs : Nat → Int32} (M : Nat → Nat → Int) (nc nw nb : Nat) (hM : MR M nc nw nb) (M1 : Nat → Nat → Int) (M1s : sf M M1) (d : Int) (hd : sx_r d) : sx_R y_M_isRest (0, 0, 0) L xs [sx_p 51, .inl d] (gm M1) (fun v h2 => ∃ z, v = some (.inl z) ∧ (z = 0 ∨ z = 1) ∧ (z = 1 ↔ 0 ≤ d ∧ dr M d.toNat = true) ∧ h2 = gm M1) := by
  refine sx_enter rfl (Nat.le_of_ble_eq_true rfl) rfl ?_
  show sx_V y_M_isRest (0, 0, 0) L xs (0, 0) 0 [some (sx_p 51), some (.inl d)] [] (gm M1) _
  refine sx_iload_n d_M_isRest_0 rfl ?_
  refine sx_if_lt (tgt := 24) d_M_isRest_1 (by decide) (by first | omega | (have := hM.dy.1 d.toNat (by omega); omega)) (fun c1_6 => ?_) (fun c1_6 => ?_)
  · refine sx_iconst d_M_isRest_24 ?_
    refine sx_retI d_M_isRest_25 (Or.inr ⟨rfl, by first | exact Or.inl rfl | exact Or.inr rfl | omega⟩) ⟨Nat.zero_le _, Nat.zero_le _⟩ ?_
    refine ⟨_, rfl, by omega, ?_, rfl⟩
    unfold dr
    rw [Bool.and_eq_true, decide_eq_true_iff, decide_eq_true_iff]
    first | omega | (have := hM.dy.1 d.toNat (by omega); omega)
  · refine sx_iload_n d_M_isRest_4 rfl ?_
    refine sx_sipush d_M_isRest_5 (by decide) ?_
    refine sx_icmp_ge (tgt := 24) d_M_isRest_8 (by decide) (by first | omega | (have := hM.dy.1 d.toNat (by omega); omega)) ⟨by decide, by decide⟩ (fun c8_15 => ?_) (fun c8_15 => ?_)
    · refine sx_iconst d_M_isRest_24 ?_
      refine sx_retI d_M_isRest_25 (Or.inr ⟨rfl, by first | exact Or.inl rfl | exact Or.inr rfl | omega⟩) ⟨Nat.zero_le _, Nat.zero_le _⟩ ?_
      refine ⟨_, rfl, by omega, ?_, rfl⟩
      unfold dr
      rw [Bool.and_eq_true, decide_eq_true_iff, decide_eq_true_iff]
      first | omega | (have := hM.dy.1 d.toNat (by omega); omega)
    · refine sx_aload_n d_M_isRest_11 rfl ?_
      refine sx_getR (r := some (64)) d_M_isRest_12 fl_M_47 (go rfl rfl rfl) (by decide) (by decide) (by decide) rfl ?_
      refine sx_iload_n d_M_isRest_15 rfl ?_
      refine sx_zald (z := (M 4 (Int.toNat d))) d_M_isRest_16 (go rfl rfl rfl) (by omega) (by omega) (by decide) ((M1s 64 (Int.toNat d) (by decide) (by decide) (by omega)).trans (hM.mre (Int.toNat d) (by omega))) ?_
      refine sx_if_eq (tgt := 24) d_M_isRest_17 (by decide) (by first | omega | (have := hM.dy.1 d.toNat (by omega); omega)) (fun c17_26 => ?_) (fun c17_26 => ?_)
      · refine sx_iconst d_M_isRest_24 ?_
        refine sx_retI d_M_isRest_25 (Or.inr ⟨rfl, by first | exact Or.inl rfl | exact Or.inr rfl | omega⟩) ⟨Nat.zero_le _, Nat.zero_le _⟩ ?_
        refine ⟨_, rfl, by omega, ?_, rfl⟩
        unfold dr
        rw [Bool.and_eq_true, decide_eq_true_iff, decide_eq_true_iff]
        first | omega | (have := hM.dy.1 d.toNat (by omega); omega)
      · refine sx_iconst d_M_isRest_20 ?_
        refine sx_goto (tgt := 25) d_M_isRest_21 (by decide) ?_
        refine sx_retI d_M_isRest_25 (Or.inr ⟨rfl, by first | exact Or.inl rfl | exact Or.inr rfl | omega⟩) ⟨Nat.zero_le _, Nat.zero_le _⟩ ?_
        refine ⟨_, rfl, by omega, ?_, rfl⟩
        unfold dr
        rw [Bool.and_eq_true, decide_eq_true_iff, decide_eq_true_iff]
        first | omega | (have := hM.dy.1 d.toNat (by omega); omega)
set_option maxRecDepth 100000 in
set_option maxHeartbeats 4000000 in
theorem l_M_next {L : Nat} {xs : Nat → Int32} (M : Nat → Nat → Int) (nc nw nb : Nat) (hM : MR M nc nw nb) (M1 : Nat → Nat → Int) (M1s : sf M M1) (day : Int) (hday : 0 ≤ day ∧ day ≤ 100000) : ∀ (n : Nat) (d : Int), (200 - d).toNat < n → 0 ≤ d → d ≤ 100201 → Bd M d = Bd M day + 1 → sx_V y_M_nextDay (1, 0, 0) L xs (0, 0) 4 [some (sx_p 51), some (.inl day), some (.inl d)] [] (gm M1) (fun v h2 => v = some (.inl (Dd M (Bd M day + 1))) ∧ h2 = gm M1) := by
  intro n
  induction n with
  | zero => intro d h1 h2; omega
  | succ n ih =>
    intro d hn h0 h1 hB
    refine sx_aload_n d_M_nextDay_4 rfl ?_
    refine sx_iload_n d_M_nextDay_5 rfl ?_
    refine sx_callV (c_M_isRest M nc nw nb hM M1 M1s d (by omega)) d_M_nextDay_6 cd_M_isRest lk_M_123 im_M_isRest se_M_isRest (go rfl rfl rfl) rfl rfl (by decide) (st := []) rfl rfl (Nat.le_of_ble_eq_true rfl) ⟨by decide, Nat.le_refl _, Nat.le_refl _⟩ (fun _ _ hq => ?_)
    obtain ⟨z78, rfl, z78b, z78i, rfl⟩ := hq
    show sx_V _ _ _ _ (0, 0) _ _ [.inl z78] (gm M1) _
    refine sx_if_eq (tgt := 18) d_M_nextDay_9 (by decide) (by omega) (fun c9_13 => ?_) (fun c9_13 => ?_)
    · refine sx_iload_n d_M_nextDay_18 rfl ?_
      refine sx_retI d_M_nextDay_19 (Or.inl rfl) ⟨Nat.zero_le _, Nat.zero_le _⟩ ?_
      refine ⟨?_, rfl⟩
      rw [Dd_eq (d := d) (by omega) ?_ hB]
      cases q : dr M d.toNat
      · rfl
      · exact absurd (z78i.mpr ⟨by omega, q⟩) (by omega)
    · refine sx_iinc (l' := [some (sx_p 51), some (.inl day), some (.inl (d + 1))]) d_M_nextDay_12 rfl (by decide) rfl rfl ?_
      refine sx_goto (tgt := 4) d_M_nextDay_15 (by decide) ?_
      have dz : dr M d.toNat = true := (z78i.mp (by omega)).2
      have d200 : d.toNat < 200 := by (rcases Nat.lt_or_ge d.toNat 200 with q | q; exact q; rw [dr_far M _ q] at dz; exact absurd dz (by decide))
      have b1 := Bd_s M (d := d) (by omega)
      rw [if_pos dz, Int.add_zero] at b1
      exact ih (d + 1) (by omega) (by omega) (by omega) (by rw [b1]; exact hB)
set_option maxRecDepth 100000 in
set_option maxHeartbeats 4000000 in
theorem c_M_next {L : Nat} {xs : Nat → Int32} (M : Nat → Nat → Int) (nc nw nb : Nat) (hM : MR M nc nw nb) (M1 : Nat → Nat → Int) (M1s : sf M M1) (day : Int) (hday : 0 ≤ day ∧ day ≤ 100000) (hw : dr M day.toNat = false) : sx_R y_M_nextDay (1, 0, 0) L xs [sx_p 51, .inl day] (gm M1) (fun v h2 => v = some (.inl (Dd M (Bd M day + 1))) ∧ h2 = gm M1) := by
  refine sx_enter rfl (Nat.le_of_ble_eq_true rfl) rfl ?_
  show sx_V y_M_nextDay (1, 0, 0) L xs (0, 0) 0 [some (sx_p 51), some (.inl day), none] [] (gm M1) _
  refine sx_iload_n d_M_nextDay_0 rfl ?_
  refine sx_iconst d_M_nextDay_1 ?_
  refine sx_iadd d_M_nextDay_2 ?_
  refine sx_istore_n (l' := [some (sx_p 51), some (.inl day), some (.inl (day + 1))]) d_M_nextDay_3 (by decide) rfl rfl ?_
  have b1 := Bd_s M (d := day) (by omega)
  rw [hw, if_neg (by decide)] at b1
  exact l_M_next M nc nw nb hM M1 M1s day hday 301 (day + 1) (by omega) (by omega) (by omega) b1
