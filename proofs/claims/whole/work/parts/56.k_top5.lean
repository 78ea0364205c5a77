theorem gcd_of {z t s : Int} (h1 : 1 ≤ z) (h2 : z ∣ t) (h3 : z ∣ s) (h4 : ∀ e, 1 ≤ e → e ∣ t → e ∣ s → e ≤ z) (hs : 1 ≤ s) : z = (Int.gcd t s : Int) := by
  have g1 : ((Int.gcd t s : Nat) : Int) ∣ t := Int.gcd_dvd_left ..
  have g2 : ((Int.gcd t s : Nat) : Int) ∣ s := Int.gcd_dvd_right ..
  have g3 : z ∣ ((Int.gcd t s : Nat) : Int) := Int.dvd_coe_gcd h2 h3
  have g0 : 0 < Int.gcd t s := Nat.pos_of_ne_zero (fun q => by have := (Int.gcd_eq_zero_iff.mp q).2; omega)
  have g4 := h4 _ (by omega) g1 g2
  have g5 := Int.le_of_dvd (by omega) g3
  omega
set_option maxRecDepth 100000 in
set_option maxHeartbeats 4000000 in
theorem c_proved {L : Nat} {xs : Nat → Int32} (M : Nat → Nat → Int) (h01 : M 1 9 = 0 ∨ M 1 9 = 1) : sx_R y_T_proved (0, 0, 0) L xs [sx_p 1] (gm M) (fun v h2 => v = some (.inl (M 1 9)) ∧ h2 = gm M) := by
  refine sx_enter rfl (Nat.le_of_ble_eq_true rfl) rfl ?_
  show sx_V y_T_proved (0, 0, 0) L xs (0, 0) 0 [some (sx_p 1)] [] (gm M) _
  refine sx_aload_n d_T_proved_0 rfl ?_
  refine sx_getI (z := (M 1 9)) d_T_proved_1 fl_T_149 (go rfl rfl rfl) (by decide) (by decide) (by decide) rfl ?_
  refine sx_retI d_T_proved_4 (Or.inr ⟨rfl, h01⟩) ⟨Nat.zero_le _, Nat.zero_le _⟩ ?_
  exact ⟨rfl, rfl⟩
set_option maxRecDepth 100000 in
set_option maxHeartbeats 4000000 in
theorem c_tried {L : Nat} {xs : Nat → Int32} (M : Nat → Nat → Int) : sx_R y_T_tried (0, 0, 0) L xs [sx_p 1] (gm M) (fun v h2 => v = some (.inl (M 1 10)) ∧ h2 = gm M) := by
  refine sx_enter rfl (Nat.le_of_ble_eq_true rfl) rfl ?_
  show sx_V y_T_tried (0, 0, 0) L xs (0, 0) 0 [some (sx_p 1)] [] (gm M) _
  refine sx_aload_n d_T_tried_0 rfl ?_
  refine sx_getI (z := (M 1 10)) d_T_tried_1 fl_T_153 (go rfl rfl rfl) (by decide) (by decide) (by decide) rfl ?_
  refine sx_retI d_T_tried_4 (Or.inl rfl) ⟨Nat.zero_le _, Nat.zero_le _⟩ ?_
  exact ⟨rfl, rfl⟩
set_option maxRecDepth 100000 in
set_option maxHeartbeats 4000000 in
theorem c_moved_bad {L : Nat} {xs : Nat → Int32} (M : Nat → Nat → Int) (hR : IR M) (nw : Nat) (hnw : M 2 9 = (nw : Int)) (h6 : nw ≤ 6) (w : Int) (hw : sx_r w) (hbd : ¬ (M 1 7 ≠ 0 ∧ 0 ≤ w ∧ w < nw)) : sx_R y_T_moved (2, 0, 0) L xs [sx_p 1, .inl w] (gm M) (fun v h2 => v = some (.inl 0) ∧ h2 = gm M) := by
  refine sx_enter rfl (Nat.le_of_ble_eq_true rfl) rfl ?_
  show sx_V y_T_moved (2, 0, 0) L xs (0, 0) 0 [some (sx_p 1), some (.inl w)] [] (gm M) _
  refine sx_aload_n d_T_moved_0 rfl ?_
  refine sx_iload_n d_T_moved_1 rfl ?_
  refine sx_callV (c_T_isPlanned M hR nw hnw h6 w (by omega)) d_T_moved_2 cd_T_isPlanned lk_T_156 im_T_isPlanned se_T_isPlanned (go rfl rfl rfl) rfl rfl (by decide) (st := []) rfl rfl (Nat.le_of_ble_eq_true rfl) ⟨by decide, Nat.le_refl _, Nat.le_refl _⟩ (fun _ _ hq => ?_)
  obtain ⟨z46, rfl, z46b, z46i, rfl⟩ := hq
  show sx_V _ _ _ _ (0, 0) _ _ [.inl z46] (gm M) _
  refine sx_if_eq (tgt := 21) d_T_moved_5 (by decide) (by omega) (fun c5_10 => ?_) (fun c5_10 => ?_)
  · refine sx_iconst d_T_moved_21 ?_
    refine sx_retI d_T_moved_22 (Or.inr ⟨rfl, by first | exact Or.inl rfl | exact Or.inr rfl | omega⟩) ⟨Nat.zero_le _, Nat.zero_le _⟩ ?_
    exact ⟨rfl, rfl⟩
  · omega
set_option maxRecDepth 100000 in
set_option maxHeartbeats 4000000 in
theorem c_moved_ok {L : Nat} {xs : Nat → Int32} (M : Nat → Nat → Int) (hR : IR M) (nw : Nat) (hnw : M 2 9 = (nw : Int)) (h6 : nw ≤ 6) (w : Nat) (hw : w < nw) (h7 : M 1 7 ≠ 0) : sx_R y_T_moved (2, 0, 0) L xs [sx_p 1, .inl (w : Int)] (gm M) (fun v h2 => v = some (.inl (if M 50 w = 0 then 0 else 1)) ∧ h2 = gm M) := by
  refine sx_enter rfl (Nat.le_of_ble_eq_true rfl) rfl ?_
  show sx_V y_T_moved (2, 0, 0) L xs (0, 0) 0 [some (sx_p 1), some (.inl (w : Int))] [] (gm M) _
  refine sx_aload_n d_T_moved_0 rfl ?_
  refine sx_iload_n d_T_moved_1 rfl ?_
  refine sx_callV (c_T_isPlanned M hR nw hnw h6 (w : Int) (by omega)) d_T_moved_2 cd_T_isPlanned lk_T_156 im_T_isPlanned se_T_isPlanned (go rfl rfl rfl) rfl rfl (by decide) (st := []) rfl rfl (Nat.le_of_ble_eq_true rfl) ⟨by decide, Nat.le_refl _, Nat.le_refl _⟩ (fun _ _ hq => ?_)
  obtain ⟨z47, rfl, z47b, z47i, rfl⟩ := hq
  show sx_V _ _ _ _ (0, 0) _ _ [.inl z47] (gm M) _
  refine sx_if_eq (tgt := 21) d_T_moved_5 (by decide) (by omega) (fun c5_10 => ?_) (fun c5_10 => ?_)
  · omega
  · refine sx_aload_n d_T_moved_8 rfl ?_
    refine sx_getR (r := some (50)) d_T_moved_9 fl_T_57 (go rfl rfl rfl) (by decide) (by decide) (by decide) rfl ?_
    refine sx_iload_n d_T_moved_12 rfl ?_
    refine sx_zald (z := (M 50 w)) d_T_moved_13 (go rfl rfl rfl) (by omega) (by omega) (by decide) rfl ?_
    refine sx_if_eq (tgt := 21) d_T_moved_14 (by decide) (hR _ _) (fun c14_16 => ?_) (fun c14_16 => ?_)
    · refine sx_iconst d_T_moved_21 ?_
      refine sx_retI d_T_moved_22 (Or.inr ⟨rfl, by first | exact Or.inl rfl | exact Or.inr rfl | omega⟩) ⟨Nat.zero_le _, Nat.zero_le _⟩ ?_
      refine ⟨?_, rfl⟩
      (repeat' first | rw [if_pos (by omega)] | rw [if_neg (by omega)])
      all_goals rfl
    · refine sx_iconst d_T_moved_17 ?_
      refine sx_goto (tgt := 22) d_T_moved_18 (by decide) ?_
      refine sx_retI d_T_moved_22 (Or.inr ⟨rfl, by first | exact Or.inl rfl | exact Or.inr rfl | omega⟩) ⟨Nat.zero_le _, Nat.zero_le _⟩ ?_
      refine ⟨?_, rfl⟩
      (repeat' first | rw [if_pos (by omega)] | rw [if_neg (by omega)])
      all_goals rfl
set_option maxRecDepth 100000 in
set_option maxHeartbeats 4000000 in
theorem c_told_bad {L : Nat} {xs : Nat → Int32} (M : Nat → Nat → Int) (hR : IR M) (nw : Nat) (hnw : M 2 9 = (nw : Int)) (h6 : nw ≤ 6) (w x : Int) (hw : sx_r w) (hx : sx_r x) (hbd : ¬ (M 1 7 ≠ 0 ∧ 0 ≤ w ∧ w < nw)) : sx_R y_T_told (2, 0, 0) L xs [sx_p 1, .inl w, .inl x] (gm M) (fun v h2 => v = some (.inl (-1)) ∧ h2 = gm M) := by
  refine sx_enter rfl (Nat.le_of_ble_eq_true rfl) rfl ?_
  show sx_V y_T_told (2, 0, 0) L xs (0, 0) 0 [some (sx_p 1), some (.inl w), some (.inl x)] [] (gm M) _
  refine sx_aload_n d_T_told_0 rfl ?_
  refine sx_iload_n d_T_told_1 rfl ?_
  refine sx_callV (c_T_isPlanned M hR nw hnw h6 w (by omega)) d_T_told_2 cd_T_isPlanned lk_T_156 im_T_isPlanned se_T_isPlanned (go rfl rfl rfl) rfl rfl (by decide) (st := []) rfl rfl (Nat.le_of_ble_eq_true rfl) ⟨by decide, Nat.le_refl _, Nat.le_refl _⟩ (fun _ _ hq => ?_)
  obtain ⟨z48, rfl, z48b, z48i, rfl⟩ := hq
  show sx_V _ _ _ _ (0, 0) _ _ [.inl z48] (gm M) _
  refine sx_if_ne (tgt := 10) d_T_told_5 (by decide) (by omega) (fun c5_10 => ?_) (fun c5_10 => ?_)
  · omega
  · refine sx_iconst d_T_told_8 ?_
    refine sx_retI d_T_told_9 (Or.inl rfl) ⟨Nat.zero_le _, Nat.zero_le _⟩ ?_
    exact ⟨rfl, rfl⟩
set_option maxRecDepth 100000 in
set_option maxHeartbeats 4000000 in
theorem c_told_ok {L : Nat} {xs : Nat → Int32} (M : Nat → Nat → Int) (hI : IDy M) (hR : IR M) (nw : Nat) (hnw : M 2 9 = (nw : Int)) (h6 : nw ≤ 6) (w : Nat) (hw : w < nw) (hW : IW M w) (x : Int) (hx : sx_r x) (h7 : M 1 7 ≠ 0) (hpl : ∀ w, w < nw → (0 ≤ M 23 w ∧ M 23 w ≤ 99) ∧ (M 24 w = 0 ∨ M 24 w = 1)) : sx_R y_T_told (2, 0, 0) L xs [sx_p 1, .inl (w : Int), .inl x] (gm M) (fun v h2 => v = some (.inl (if x = 0 then M 23 w else if x = 1 then eT M w (M 23 w) else if x = 2 then M 24 w else -1)) ∧ h2 = gm M) := by
  refine sx_enter rfl (Nat.le_of_ble_eq_true rfl) rfl ?_
  show sx_V y_T_told (2, 0, 0) L xs (0, 0) 0 [some (sx_p 1), some (.inl (w : Int)), some (.inl x)] [] (gm M) _
  refine sx_aload_n d_T_told_0 rfl ?_
  refine sx_iload_n d_T_told_1 rfl ?_
  refine sx_callV (c_T_isPlanned M hR nw hnw h6 (w : Int) (by omega)) d_T_told_2 cd_T_isPlanned lk_T_156 im_T_isPlanned se_T_isPlanned (go rfl rfl rfl) rfl rfl (by decide) (st := []) rfl rfl (Nat.le_of_ble_eq_true rfl) ⟨by decide, Nat.le_refl _, Nat.le_refl _⟩ (fun _ _ hq => ?_)
  obtain ⟨z49, rfl, z49b, z49i, rfl⟩ := hq
  show sx_V _ _ _ _ (0, 0) _ _ [.inl z49] (gm M) _
  refine sx_if_ne (tgt := 10) d_T_told_5 (by decide) (by omega) (fun c5_10 => ?_) (fun c5_10 => ?_)
  · refine sx_iload_n d_T_told_10 rfl ?_
    rcases (show (x < 0 ∨ 2 < x) ∨ x = 0 ∨ x = 1 ∨ x = 2 by omega) with ts12 | ts12 | ts12 | ts12
    · refine sx_tswOut (tgt := 74) d_T_told_11 (by omega) ts12 (by decide) ?_
      refine sx_iconst d_T_told_74 ?_
      refine sx_retI d_T_told_75 (Or.inl rfl) ⟨Nat.zero_le _, Nat.zero_le _⟩ ?_
      refine ⟨?_, rfl⟩
      (repeat' first | rw [if_pos (by omega)] | rw [if_neg (by omega)])
      all_goals rfl
    · refine sx_tswIn (off := 25) (tgt := 36) d_T_told_11 (by omega) (by omega) (by omega) (by rw [ts12]; rfl) (by decide) ?_
      refine sx_aload_n d_T_told_36 rfl ?_
      refine sx_getR (r := some (22)) d_T_told_37 fl_T_28 (go rfl rfl rfl) (by decide) (by decide) (by decide) rfl ?_
      refine sx_getR (r := some (23)) d_T_told_40 fl_T_159 (go rfl rfl rfl) (by decide) (by decide) (by decide) rfl ?_
      refine sx_iload_n d_T_told_43 rfl ?_
      refine sx_iald (z := (M 23 w)) d_T_told_44 (go rfl rfl rfl) (by omega) (by omega) (by decide) rfl ?_
      refine sx_retI d_T_told_45 (Or.inl rfl) ⟨Nat.zero_le _, Nat.zero_le _⟩ ?_
      refine ⟨?_, rfl⟩
      (repeat' first | rw [if_pos (by omega)] | rw [if_neg (by omega)])
      all_goals rfl
    · refine sx_tswIn (off := 35) (tgt := 46) d_T_told_11 (by omega) (by omega) (by omega) (by rw [ts12]; rfl) (by decide) ?_
      refine sx_aload_n d_T_told_46 rfl ?_
      refine sx_getR (r := some (2)) d_T_told_47 fl_T_10 (go rfl rfl rfl) (by decide) (by decide) (by decide) rfl ?_
      refine sx_iload_n d_T_told_50 rfl ?_
      refine sx_aload_n d_T_told_51 rfl ?_
      refine sx_getR (r := some (22)) d_T_told_52 fl_T_28 (go rfl rfl rfl) (by decide) (by decide) (by decide) rfl ?_
      refine sx_getR (r := some (23)) d_T_told_55 fl_T_159 (go rfl rfl rfl) (by decide) (by decide) (by decide) rfl ?_
      refine sx_iload_n d_T_told_58 rfl ?_
      refine sx_iald (z := (M 23 w)) d_T_told_59 (go rfl rfl rfl) (by omega) (by omega) (by decide) rfl ?_
      refine sx_callV (c_L_endOf M hI hR w (by omega) hW (M 23 w) ⟨(hpl w hw).1.1, by have := (hpl w hw).1.2; omega⟩) d_T_told_60 cd_L_endOf lk_T_162 im_L_endOf se_L_endOf (go rfl rfl rfl) rfl rfl (by decide) (st := []) rfl rfl (Nat.le_of_ble_eq_true rfl) ⟨by decide, Nat.le_refl _, Nat.le_refl _⟩ (fun _ _ hq => ?_)
      obtain ⟨rfl, rfl⟩ := hq
      show sx_V _ _ _ _ (0, 0) _ _ [.inl (eT M w (M 23 w))] (gm M) _
      refine sx_retI d_T_told_63 (Or.inl rfl) ⟨Nat.zero_le _, Nat.zero_le _⟩ ?_
      refine ⟨?_, rfl⟩
      (repeat' first | rw [if_pos (by omega)] | rw [if_neg (by omega)])
      all_goals rfl
    · refine sx_tswIn (off := 53) (tgt := 64) d_T_told_11 (by omega) (by omega) (by omega) (by rw [ts12]; rfl) (by decide) ?_
      refine sx_aload_n d_T_told_64 rfl ?_
      refine sx_getR (r := some (22)) d_T_told_65 fl_T_28 (go rfl rfl rfl) (by decide) (by decide) (by decide) rfl ?_
      refine sx_getR (r := some (24)) d_T_told_68 fl_T_166 (go rfl rfl rfl) (by decide) (by decide) (by decide) rfl ?_
      refine sx_iload_n d_T_told_71 rfl ?_
      refine sx_iald (z := (M 24 w)) d_T_told_72 (go rfl rfl rfl) (by omega) (by omega) (by decide) rfl ?_
      refine sx_retI d_T_told_73 (Or.inl rfl) ⟨Nat.zero_le _, Nat.zero_le _⟩ ?_
      refine ⟨?_, rfl⟩
      (repeat' first | rw [if_pos (by omega)] | rw [if_neg (by omega)])
      all_goals rfl
  · omega
set_option maxRecDepth 100000 in
set_option maxHeartbeats 4000000 in
theorem c_at_bad {L : Nat} {xs : Nat → Int32} (M : Nat → Nat → Int) (hR : IR M) (nw : Nat) (hnw : M 2 9 = (nw : Int)) (h6 : nw ≤ 6) (w x : Int) (hw : sx_r w) (hx : sx_r x) (hbd : ¬ (M 1 7 ≠ 0 ∧ 0 ≤ w ∧ w < nw ∧ 0 ≤ x)) : sx_R y_T_at (3, 0, 0) L xs [sx_p 1, .inl w, .inl x] (gm M) (fun v h2 => v = some (.inl (-1)) ∧ h2 = gm M) := by
  refine sx_enter rfl (Nat.le_of_ble_eq_true rfl) rfl ?_
  show sx_V y_T_at (3, 0, 0) L xs (0, 0) 0 [some (sx_p 1), some (.inl w), some (.inl x)] [] (gm M) _
  refine sx_aload_n d_T_at_0 rfl ?_
  refine sx_iload_n d_T_at_1 rfl ?_
  refine sx_callV (c_T_isPlanned M hR nw hnw h6 w (by omega)) d_T_at_2 cd_T_isPlanned lk_T_156 im_T_isPlanned se_T_isPlanned (go rfl rfl rfl) rfl rfl (by decide) (st := []) rfl rfl (Nat.le_of_ble_eq_true rfl) ⟨by decide, Nat.le_refl _, Nat.le_refl _⟩ (fun _ _ hq => ?_)
  obtain ⟨z50, rfl, z50b, z50i, rfl⟩ := hq
  show sx_V _ _ _ _ (0, 0) _ _ [.inl z50] (gm M) _
  refine sx_if_eq (tgt := 12) d_T_at_5 (by decide) (by omega) (fun c5_10 => ?_) (fun c5_10 => ?_)
  · refine sx_iconst d_T_at_12 ?_
    refine sx_retI d_T_at_13 (Or.inl rfl) ⟨Nat.zero_le _, Nat.zero_le _⟩ ?_
    exact ⟨rfl, rfl⟩
  · refine sx_iload_n d_T_at_8 rfl ?_
    refine sx_if_ge (tgt := 14) d_T_at_9 (by decide) (by omega) (fun c9_15 => ?_) (fun c9_15 => ?_)
    · omega
    · refine sx_iconst d_T_at_12 ?_
      refine sx_retI d_T_at_13 (Or.inl rfl) ⟨Nat.zero_le _, Nat.zero_le _⟩ ?_
      exact ⟨rfl, rfl⟩
set_option maxRecDepth 100000 in
set_option maxHeartbeats 4000000 in
theorem c_at_ok {L : Nat} {xs : Nat → Int32} (M : Nat → Nat → Int) (hI : IDy M) (hR : IR M) (nw : Nat) (hnw : M 2 9 = (nw : Int)) (h6 : nw ≤ 6) (w : Nat) (hw : w < nw) (hW : IW M w) (x : Int) (hx : sx_r x) (h7 : M 1 7 ≠ 0) (h0 : 0 ≤ x) (hpl : ∀ w, w < nw → (0 ≤ M 23 w ∧ M 23 w ≤ 99) ∧ (M 24 w = 0 ∨ M 24 w = 1)) : sx_R y_T_at (3, 0, 0) L xs [sx_p 1, .inl (w : Int), .inl x] (gm M) (fun v h2 => v = some (.inl (aP M w (M 23 w) (M 24 w) x)) ∧ h2 = gm M) := by
  refine sx_enter rfl (Nat.le_of_ble_eq_true rfl) rfl ?_
  show sx_V y_T_at (3, 0, 0) L xs (0, 0) 0 [some (sx_p 1), some (.inl (w : Int)), some (.inl x)] [] (gm M) _
  refine sx_aload_n d_T_at_0 rfl ?_
  refine sx_iload_n d_T_at_1 rfl ?_
  refine sx_callV (c_T_isPlanned M hR nw hnw h6 (w : Int) (by omega)) d_T_at_2 cd_T_isPlanned lk_T_156 im_T_isPlanned se_T_isPlanned (go rfl rfl rfl) rfl rfl (by decide) (st := []) rfl rfl (Nat.le_of_ble_eq_true rfl) ⟨by decide, Nat.le_refl _, Nat.le_refl _⟩ (fun _ _ hq => ?_)
  obtain ⟨z51, rfl, z51b, z51i, rfl⟩ := hq
  show sx_V _ _ _ _ (0, 0) _ _ [.inl z51] (gm M) _
  refine sx_if_eq (tgt := 12) d_T_at_5 (by decide) (by omega) (fun c5_10 => ?_) (fun c5_10 => ?_)
  · omega
  · refine sx_iload_n d_T_at_8 rfl ?_
    refine sx_if_ge (tgt := 14) d_T_at_9 (by decide) (by omega) (fun c9_13 => ?_) (fun c9_13 => ?_)
    · refine sx_aload_n d_T_at_14 rfl ?_
      refine sx_getR (r := some (2)) d_T_at_15 fl_T_10 (go rfl rfl rfl) (by decide) (by decide) (by decide) rfl ?_
      refine sx_iload_n d_T_at_18 rfl ?_
      refine sx_aload_n d_T_at_19 rfl ?_
      refine sx_getR (r := some (22)) d_T_at_20 fl_T_28 (go rfl rfl rfl) (by decide) (by decide) (by decide) rfl ?_
      refine sx_iload_n d_T_at_23 rfl ?_
      refine sx_callV (c_L_placeOn M hI hR 22 23 24 (fun _ => go rfl rfl rfl) (fun _ => go rfl rfl rfl) (fun _ => go rfl rfl rfl) (fun _ => rfl) (fun _ => rfl) w (by omega) hW x (by omega) ⟨(hpl w hw).1.1, by have := (hpl w hw).1.2; omega⟩) d_T_at_24 cd_L_placeOn lk_T_169 im_L_placeOn se_L_placeOn (go rfl rfl rfl) rfl rfl (by decide) (st := []) rfl rfl (Nat.le_of_ble_eq_true rfl) ⟨by decide, Nat.le_refl _, Nat.le_refl _⟩ (fun _ _ hq => ?_)
      obtain ⟨rfl, rfl⟩ := hq
      show sx_V _ _ _ _ (0, 0) _ _ [.inl (aP M w (M 23 w) (M 24 w) x)] (gm M) _
      refine sx_retI d_T_at_27 (Or.inl rfl) ⟨Nat.zero_le _, Nat.zero_le _⟩ ?_
      exact ⟨rfl, rfl⟩
    · omega
set_option maxRecDepth 100000 in
set_option maxHeartbeats 4000000 in
theorem c_passes_bad {L : Nat} {xs : Nat → Int32} (M : Nat → Nat → Int) (hR : IR M) (nw : Nat) (hnw : M 2 9 = (nw : Int)) (h6 : nw ≤ 6) (w p lv x : Int) (hw : sx_r w) (hp : sx_r p) (hlv : sx_r lv) (hx : sx_r x) (hbd : ¬ (M 1 7 ≠ 0 ∧ 0 ≤ w ∧ w < nw ∧ M (14 + Int.toNat w) 2 ≤ p ∧ p ≤ M (14 + Int.toNat w) 3 ∧ 0 ≤ x ∧ x ≤ 1)) : sx_R y_T_passes (3, 0, 0) L xs [sx_p 1, .inl w, .inl p, .inl lv, .inl x] (gm M) (fun v h2 => v = some (.inl (-1)) ∧ h2 = gm M) := by
  refine sx_enter rfl (Nat.le_of_ble_eq_true rfl) rfl ?_
  show sx_V y_T_passes (3, 0, 0) L xs (0, 0) 0 [some (sx_p 1), some (.inl w), some (.inl p), some (.inl lv), some (.inl x), none, none, none] [] (gm M) _
  refine sx_aload_n d_T_passes_0 rfl ?_
  refine sx_iload_n d_T_passes_1 rfl ?_
  refine sx_callV (c_T_isPlanned M hR nw hnw h6 w (by omega)) d_T_passes_2 cd_T_isPlanned lk_T_156 im_T_isPlanned se_T_isPlanned (go rfl rfl rfl) rfl rfl (by decide) (st := []) rfl rfl (Nat.le_of_ble_eq_true rfl) ⟨by decide, Nat.le_refl _, Nat.le_refl _⟩ (fun _ _ hq => ?_)
  obtain ⟨z52, rfl, z52b, z52i, rfl⟩ := hq
  show sx_V _ _ _ _ (0, 0) _ _ [.inl z52] (gm M) _
  refine sx_if_eq (tgt := 34) d_T_passes_5 (by decide) (by omega) (fun c5_10 => ?_) (fun c5_10 => ?_)
  · refine sx_iconst d_T_passes_34 ?_
    refine sx_retI d_T_passes_35 (Or.inl rfl) ⟨Nat.zero_le _, Nat.zero_le _⟩ ?_
    exact ⟨rfl, rfl⟩
  · refine sx_aload_n d_T_passes_8 rfl ?_
    refine sx_getR (r := some (2)) d_T_passes_9 fl_T_10 (go rfl rfl rfl) (by decide) (by decide) (by decide) rfl ?_
    refine sx_getR (r := some (8)) d_T_passes_12 fl_T_94 (go rfl rfl rfl) (by decide) (by decide) (by decide) rfl ?_
    refine sx_iload_n d_T_passes_15 rfl ?_
    refine sx_aald (r := some ((14 + (Int.toNat w)))) d_T_passes_16 (go rfl rfl rfl) (t := 0) rfl (by omega) (by omega) (by decide) (gr_w _ (by omega)) ?_
    refine sx_iload_n d_T_passes_17 rfl ?_
    refine sx_callV (z_of (c_K_comesTo M hR (Int.toNat w) (by omega) p (by omega))) d_T_passes_18 cd_K_comesTo lk_T_106 im_K_comesTo se_K_comesTo (go_w _ (by omega)) rfl rfl (by decide) (st := []) rfl rfl (Nat.le_of_ble_eq_true rfl) ⟨by decide, Nat.le_refl _, Nat.le_refl _⟩ (fun _ _ hq => ?_)
    obtain ⟨z53, rfl, z53b, z53i, rfl⟩ := hq
    show sx_V _ _ _ _ (0, 0) _ _ [.inl z53] (gm M) _
    refine sx_if_eq (tgt := 34) d_T_passes_21 (by decide) (by omega) (fun c21_23 => ?_) (fun c21_23 => ?_)
    · refine sx_iconst d_T_passes_34 ?_
      refine sx_retI d_T_passes_35 (Or.inl rfl) ⟨Nat.zero_le _, Nat.zero_le _⟩ ?_
      exact ⟨rfl, rfl⟩
    · refine sx_iload d_T_passes_24 rfl ?_
      refine sx_iconst d_T_passes_26 ?_
      refine sx_iconst d_T_passes_27 ?_
      refine sx_callS (z_of (c_isWithin M x 0 1 (by omega) (by omega) (by omega))) d_T_passes_28 cd_T_isWithin lk_T_76 st_T_isWithin (st := []) rfl rfl (Nat.le_of_ble_eq_true rfl) ⟨by decide, Nat.le_refl _, Nat.le_refl _⟩ (fun _ _ hq => ?_)
      obtain ⟨z54, rfl, z54b, z54i, rfl⟩ := hq
      show sx_V _ _ _ _ (0, 0) _ _ [.inl z54] (gm M) _
      refine sx_if_ne (tgt := 36) d_T_passes_31 (by decide) (by omega) (fun c31_33 => ?_) (fun c31_33 => ?_)
      · omega
      · refine sx_iconst d_T_passes_34 ?_
        refine sx_retI d_T_passes_35 (Or.inl rfl) ⟨Nat.zero_le _, Nat.zero_le _⟩ ?_
        exact ⟨rfl, rfl⟩
set_option maxRecDepth 100000 in
set_option maxHeartbeats 4000000 in
theorem c_passes_ok {L : Nat} {xs : Nat → Int32} (M : Nat → Nat → Int) (hI : IDy M) (hR : IR M) (nw : Nat) (hnw : M 2 9 = (nw : Int)) (h6 : nw ≤ 6) (w : Nat) (hw : w < nw) (hW : IW M w) (p lv x : Int) (hp : sx_r p) (hlv : sx_r lv) (hx : sx_r x) (h7 : M 1 7 ≠ 0) (hpl : ∀ w, w < nw → (0 ≤ M 23 w ∧ M 23 w ≤ 99) ∧ (M 24 w = 0 ∨ M 24 w = 1)) (hp1 : M (14 + w) 2 ≤ p) (hp2 : p ≤ M (14 + w) 3) (hx01 : 0 ≤ x ∧ x ≤ 1) : sx_R y_T_passes (3, 0, 0) L xs [sx_p 1, .inl (w : Int), .inl p, .inl lv, .inl x] (gm M) (fun v h2 => v = some (.inl ((if x = 0 then (pT M w (M 23 w) (M 24 w) p lv) else (M (14 + w) 4)) / (Int.gcd (pT M w (M 23 w) (M 24 w) p lv) (M (14 + w) 4) : Int))) ∧ h2 = gm M) := by
  refine sx_enter rfl (Nat.le_of_ble_eq_true rfl) rfl ?_
  show sx_V y_T_passes (3, 0, 0) L xs (0, 0) 0 [some (sx_p 1), some (.inl (w : Int)), some (.inl p), some (.inl lv), some (.inl x), none, none, none] [] (gm M) _
  refine sx_aload_n d_T_passes_0 rfl ?_
  refine sx_iload_n d_T_passes_1 rfl ?_
  refine sx_callV (c_T_isPlanned M hR nw hnw h6 (w : Int) (by omega)) d_T_passes_2 cd_T_isPlanned lk_T_156 im_T_isPlanned se_T_isPlanned (go rfl rfl rfl) rfl rfl (by decide) (st := []) rfl rfl (Nat.le_of_ble_eq_true rfl) ⟨by decide, Nat.le_refl _, Nat.le_refl _⟩ (fun _ _ hq => ?_)
  obtain ⟨z55, rfl, z55b, z55i, rfl⟩ := hq
  show sx_V _ _ _ _ (0, 0) _ _ [.inl z55] (gm M) _
  refine sx_if_eq (tgt := 34) d_T_passes_5 (by decide) (by first | omega | (have := hW.2.2.2; omega)) (fun c5_10 => ?_) (fun c5_10 => ?_)
  · omega
  · refine sx_aload_n d_T_passes_8 rfl ?_
    refine sx_getR (r := some (2)) d_T_passes_9 fl_T_10 (go rfl rfl rfl) (by decide) (by decide) (by decide) rfl ?_
    refine sx_getR (r := some (8)) d_T_passes_12 fl_T_94 (go rfl rfl rfl) (by decide) (by decide) (by decide) rfl ?_
    refine sx_iload_n d_T_passes_15 rfl ?_
    refine sx_aald (r := some ((14 + w))) d_T_passes_16 (go rfl rfl rfl) (t := 0) rfl (by omega) (by omega) (by decide) (gr_w _ (by omega)) ?_
    refine sx_iload_n d_T_passes_17 rfl ?_
    refine sx_callV (z_of (c_K_comesTo M hR w (by omega) p (by omega))) d_T_passes_18 cd_K_comesTo lk_T_106 im_K_comesTo se_K_comesTo (go_w _ (by omega)) rfl rfl (by decide) (st := []) rfl rfl (Nat.le_of_ble_eq_true rfl) ⟨by decide, Nat.le_refl _, Nat.le_refl _⟩ (fun _ _ hq => ?_)
    obtain ⟨z56, rfl, z56b, z56i, rfl⟩ := hq
    show sx_V _ _ _ _ (0, 0) _ _ [.inl z56] (gm M) _
    refine sx_if_eq (tgt := 34) d_T_passes_21 (by decide) (by first | omega | (have := hW.2.2.2; omega)) (fun c21_21 => ?_) (fun c21_21 => ?_)
    · omega
    · refine sx_iload d_T_passes_24 rfl ?_
      refine sx_iconst d_T_passes_26 ?_
      refine sx_iconst d_T_passes_27 ?_
      refine sx_callS (z_of (c_isWithin M x 0 1 (by omega) (by omega) (by omega))) d_T_passes_28 cd_T_isWithin lk_T_76 st_T_isWithin (st := []) rfl rfl (Nat.le_of_ble_eq_true rfl) ⟨by decide, Nat.le_refl _, Nat.le_refl _⟩ (fun _ _ hq => ?_)
      obtain ⟨z57, rfl, z57b, z57i, rfl⟩ := hq
      show sx_V _ _ _ _ (0, 0) _ _ [.inl z57] (gm M) _
      refine sx_if_ne (tgt := 36) d_T_passes_31 (by decide) (by first | omega | (have := hW.2.2.2; omega)) (fun c31_29 => ?_) (fun c31_29 => ?_)
      · refine sx_aload_n d_T_passes_36 rfl ?_
        refine sx_getR (r := some (2)) d_T_passes_37 fl_T_10 (go rfl rfl rfl) (by decide) (by decide) (by decide) rfl ?_
        refine sx_iload_n d_T_passes_40 rfl ?_
        refine sx_aload_n d_T_passes_41 rfl ?_
        refine sx_getR (r := some (22)) d_T_passes_42 fl_T_28 (go rfl rfl rfl) (by decide) (by decide) (by decide) rfl ?_
        refine sx_iload_n d_T_passes_45 rfl ?_
        refine sx_iload_n d_T_passes_46 rfl ?_
        refine sx_callV (c_L_passTime M hI hR 22 23 24 (fun _ => go rfl rfl rfl) (fun _ => go rfl rfl rfl) (fun _ => go rfl rfl rfl) (fun _ => rfl) (fun _ => rfl) w (by omega) hW p lv (by omega) ⟨(hpl w hw).1.1, by have := (hpl w hw).1.2; omega⟩ (wx_in hW hp1 hp2)) d_T_passes_47 cd_L_passTime lk_T_173 im_L_passTime se_L_passTime (go rfl rfl rfl) rfl rfl (by decide) (st := []) rfl rfl (Nat.le_of_ble_eq_true rfl) ⟨by decide, Nat.le_refl _, Nat.le_refl _⟩ (fun _ _ hq => ?_)
        obtain ⟨rfl, rfl⟩ := hq
        show sx_V _ _ _ _ (0, 0) _ _ [.inl (pT M w (M 23 w) (M 24 w) p lv)] (gm M) _
        have pq := pT_r hW (s := M 23 w) (d := M 24 w) (p := p) (lv := lv) ⟨(hpl w hw).1.1, by have := (hpl w hw).1.2; omega⟩ (wx_in hW hp1 hp2)
        refine sx_istore (l' := [some (sx_p 1), some (.inl (w : Int)), some (.inl p), some (.inl lv), some (.inl x), some (.inl (pT M w (M 23 w) (M 24 w) p lv)), none, none]) d_T_passes_50 (by decide) rfl rfl ?_
        refine sx_aload_n d_T_passes_52 rfl ?_
        refine sx_getR (r := some (2)) d_T_passes_53 fl_T_10 (go rfl rfl rfl) (by decide) (by decide) (by decide) rfl ?_
        refine sx_getR (r := some (8)) d_T_passes_56 fl_T_94 (go rfl rfl rfl) (by decide) (by decide) (by decide) rfl ?_
        refine sx_iload_n d_T_passes_59 rfl ?_
        refine sx_aald (r := some ((14 + w))) d_T_passes_60 (go rfl rfl rfl) (t := 0) rfl (by omega) (by omega) (by decide) (gr_w _ (by omega)) ?_
        refine sx_getI (z := (M (14 + w) 4)) d_T_passes_61 fl_T_135 (go_w _ (by omega)) (by decide) (by decide) (by decide) rfl ?_
        refine sx_istore (l' := [some (sx_p 1), some (.inl (w : Int)), some (.inl p), some (.inl lv), some (.inl x), some (.inl (pT M w (M 23 w) (M 24 w) p lv)), some (.inl (M (14 + w) 4)), none]) d_T_passes_64 (by decide) rfl rfl ?_
        refine sx_iload d_T_passes_66 rfl ?_
        refine sx_iload d_T_passes_68 rfl ?_
        refine sx_callS (c_T_gcd M (pT M w (M 23 w) (M 24 w) p lv) (M (14 + w) 4) (by omega) ⟨hW.2.2.2.1, hW.2.2.2.2.1⟩) d_T_passes_70 cd_T_commonDivisor lk_T_177 st_T_commonDivisor (st := []) rfl rfl (Nat.le_of_ble_eq_true rfl) ⟨by decide, Nat.le_refl _, Nat.le_refl _⟩ (fun _ _ hq => ?_)
        obtain ⟨gz, rfl, rfl, gz1, gz2, gz3, gz4⟩ := hq
        have gze := gcd_of gz1 gz2 gz3 gz4 hW.2.2.2.1
        have gz5 := Int.le_of_dvd (by have := hW.2.2.2.1; omega) gz3
        show sx_V _ _ _ _ (0, 0) _ _ [.inl gz] (gm M) _
        refine sx_istore (l' := [some (sx_p 1), some (.inl (w : Int)), some (.inl p), some (.inl lv), some (.inl x), some (.inl (pT M w (M 23 w) (M 24 w) p lv)), some (.inl (M (14 + w) 4)), some (.inl gz)]) d_T_passes_73 (by decide) rfl rfl ?_
        refine sx_iload d_T_passes_75 rfl ?_
        refine sx_iconst d_T_passes_77 ?_
        refine sx_icmp_ge (tgt := 85) d_T_passes_78 (by decide) (by first | omega | (have := hW.2.2.2; omega)) ⟨by decide, by decide⟩ (fun c78_59 => ?_) (fun c78_59 => ?_)
        · refine sx_iload d_T_passes_85 rfl ?_
          refine sx_if_ne (tgt := 95) d_T_passes_87 (by decide) (by first | omega | (have := hW.2.2.2; omega)) (fun c87_61 => ?_) (fun c87_61 => ?_)
          · refine sx_iload d_T_passes_95 rfl ?_
            refine sx_iload d_T_passes_97 rfl ?_
            refine sx_idiv d_T_passes_99 (hR _ _) (by first | omega | (have := hW.2.2.2; omega)) (by omega) ?_
            refine sx_retI d_T_passes_100 (Or.inl rfl) ⟨Nat.zero_le _, Nat.zero_le _⟩ ?_
            refine ⟨?_, rfl⟩
            (repeat' first | rw [if_pos (by omega)] | rw [if_neg (by omega)])
            rw [← gze, Int.tdiv_eq_ediv_of_nonneg (by have := hW.2.2.2.1; omega)]
          · refine sx_iload d_T_passes_90 rfl ?_
            refine sx_goto (tgt := 97) d_T_passes_92 (by decide) ?_
            refine sx_iload d_T_passes_97 rfl ?_
            refine sx_idiv d_T_passes_99 (by first | omega | (have := hW.2.2.2; omega)) (by first | omega | (have := hW.2.2.2; omega)) (by omega) ?_
            refine sx_retI d_T_passes_100 (Or.inl rfl) ⟨Nat.zero_le _, Nat.zero_le _⟩ ?_
            refine ⟨?_, rfl⟩
            (repeat' first | rw [if_pos (by omega)] | rw [if_neg (by omega)])
            rw [← gze, Int.tdiv_eq_ediv_of_nonneg (by have := hW.2.2.2.1; omega)]
        · omega
      · omega
set_option maxRecDepth 100000 in
set_option maxHeartbeats 4000000 in
theorem c_count {L : Nat} {xs : Nat → Int32} (M : Nat → Nat → Int) (hR : IR M) (nw : Nat) (hnw : M 2 9 = (nw : Int)) (h6 : nw ≤ 6) (x : Int) (hx : sx_r x) : sx_R y_T_count (1, 0, 0) L xs [sx_p 1, .inl x] (gm M) (fun v h2 => v = some (.inl (if x = 0 then M 2 8 else if x = 1 then (nw : Int) else if x = 2 then M 3 3 else if x = 3 then M 2 10 else if x = 4 then sm (fun j => if M (14 + j) 10 = 0 then 0 else 1) nw else if x = 5 then (if M 1 7 = 0 then -1 else M 1 8) else -1)) ∧ h2 = gm M) := by
  refine sx_enter rfl (Nat.le_of_ble_eq_true rfl) rfl ?_
  show sx_V y_T_count (1, 0, 0) L xs (0, 0) 0 [some (sx_p 1), some (.inl x)] [] (gm M) _
  refine sx_iload_n d_T_count_0 rfl ?_
  rcases (show (x < 0 ∨ 5 < x) ∨ x = 0 ∨ x = 1 ∨ x = 2 ∨ x = 3 ∨ x = 4 ∨ x = 5 by omega) with ts6 | ts6 | ts6 | ts6 | ts6 | ts6 | ts6
  · refine sx_tswOut (tgt := 99) d_T_count_1 (by omega) ts6 (by decide) ?_
    refine sx_iconst d_T_count_99 ?_
    refine sx_retI d_T_count_100 (Or.inl rfl) ⟨Nat.zero_le _, Nat.zero_le _⟩ ?_
    refine ⟨?_, rfl⟩
    (repeat' first | rw [if_pos (by omega)] | rw [if_neg (by omega)])
    all_goals rfl
  · refine sx_tswIn (off := 39) (tgt := 40) d_T_count_1 (by omega) (by omega) (by omega) (by rw [ts6]; rfl) (by decide) ?_
    refine sx_aload_n d_T_count_40 rfl ?_
    refine sx_getR (r := some (2)) d_T_count_41 fl_T_10 (go rfl rfl rfl) (by decide) (by decide) (by decide) rfl ?_
    refine sx_getI (z := (M 2 8)) d_T_count_44 fl_T_65 (go rfl rfl rfl) (by decide) (by decide) (by decide) rfl ?_
    refine sx_retI d_T_count_47 (Or.inl rfl) ⟨Nat.zero_le _, Nat.zero_le _⟩ ?_
    refine ⟨?_, rfl⟩
    (repeat' first | rw [if_pos (by omega)] | rw [if_neg (by omega)])
    all_goals rfl
  · refine sx_tswIn (off := 47) (tgt := 48) d_T_count_1 (by omega) (by omega) (by omega) (by rw [ts6]; rfl) (by decide) ?_
    refine sx_aload_n d_T_count_48 rfl ?_
    refine sx_getR (r := some (2)) d_T_count_49 fl_T_10 (go rfl rfl rfl) (by decide) (by decide) (by decide) rfl ?_
    refine sx_getI (z := (nw : Int)) d_T_count_52 fl_T_80 (go rfl rfl rfl) (by decide) (by decide) (by decide) hnw ?_
    refine sx_retI d_T_count_55 (Or.inl rfl) ⟨Nat.zero_le _, Nat.zero_le _⟩ ?_
    refine ⟨?_, rfl⟩
    (repeat' first | rw [if_pos (by omega)] | rw [if_neg (by omega)])
    all_goals rfl
  · refine sx_tswIn (off := 55) (tgt := 56) d_T_count_1 (by omega) (by omega) (by omega) (by rw [ts6]; rfl) (by decide) ?_
    refine sx_aload_n d_T_count_56 rfl ?_
    refine sx_getR (r := some (2)) d_T_count_57 fl_T_10 (go rfl rfl rfl) (by decide) (by decide) (by decide) rfl ?_
    refine sx_getR (r := some (3)) d_T_count_60 fl_T_115 (go rfl rfl rfl) (by decide) (by decide) (by decide) rfl ?_
    refine sx_getI (z := (M 3 3)) d_T_count_63 fl_T_230 (go rfl rfl rfl) (by decide) (by decide) (by decide) rfl ?_
    refine sx_retI d_T_count_66 (Or.inl rfl) ⟨Nat.zero_le _, Nat.zero_le _⟩ ?_
    refine ⟨?_, rfl⟩
    (repeat' first | rw [if_pos (by omega)] | rw [if_neg (by omega)])
    all_goals rfl
  · refine sx_tswIn (off := 66) (tgt := 67) d_T_count_1 (by omega) (by omega) (by omega) (by rw [ts6]; rfl) (by decide) ?_
    refine sx_aload_n d_T_count_67 rfl ?_
    refine sx_getR (r := some (2)) d_T_count_68 fl_T_10 (go rfl rfl rfl) (by decide) (by decide) (by decide) rfl ?_
    refine sx_getI (z := (M 2 10)) d_T_count_71 fl_T_109 (go rfl rfl rfl) (by decide) (by decide) (by decide) rfl ?_
    refine sx_retI d_T_count_74 (Or.inl rfl) ⟨Nat.zero_le _, Nat.zero_le _⟩ ?_
    refine ⟨?_, rfl⟩
    (repeat' first | rw [if_pos (by omega)] | rw [if_neg (by omega)])
    all_goals rfl
  · refine sx_tswIn (off := 74) (tgt := 75) d_T_count_1 (by omega) (by omega) (by omega) (by rw [ts6]; rfl) (by decide) ?_
    refine sx_aload_n d_T_count_75 rfl ?_
    refine sx_getR (r := some (2)) d_T_count_76 fl_T_10 (go rfl rfl rfl) (by decide) (by decide) (by decide) rfl ?_
    refine sx_callV (c_L_frz M hR nw hnw h6) d_T_count_79 cd_L_frozenWorks lk_T_209 im_L_frozenWorks se_L_frozenWorks (go rfl rfl rfl) rfl rfl (by decide) (st := []) rfl rfl (Nat.le_of_ble_eq_true rfl) ⟨by decide, Nat.le_refl _, Nat.le_refl _⟩ (fun _ _ hq => ?_)
    obtain ⟨rfl, rfl⟩ := hq
    show sx_V _ _ _ _ (0, 0) _ _ [.inl (sm (fun j => if M (14 + j) 10 = 0 then 0 else 1) nw)] (gm M) _
    refine sx_retI d_T_count_82 (Or.inl rfl) ⟨Nat.zero_le _, Nat.zero_le _⟩ ?_
    refine ⟨?_, rfl⟩
    (repeat' first | rw [if_pos (by omega)] | rw [if_neg (by omega)])
    all_goals rfl
  · refine sx_tswIn (off := 82) (tgt := 83) d_T_count_1 (by omega) (by omega) (by omega) (by rw [ts6]; rfl) (by decide) ?_
    refine sx_aload_n d_T_count_83 rfl ?_
    refine sx_getI (z := (M 1 7)) d_T_count_84 fl_T_186 (go rfl rfl rfl) (by decide) (by decide) (by decide) rfl ?_
    refine sx_if_eq (tgt := 97) d_T_count_87 (by decide) (hR _ _) (fun c87_59 => ?_) (fun c87_59 => ?_)
    · refine sx_iconst d_T_count_97 ?_
      refine sx_retI d_T_count_98 (Or.inl rfl) ⟨Nat.zero_le _, Nat.zero_le _⟩ ?_
      refine ⟨?_, rfl⟩
      (repeat' first | rw [if_pos (by omega)] | rw [if_neg (by omega)])
      all_goals rfl
    · refine sx_aload_n d_T_count_90 rfl ?_
      refine sx_getI (z := (M 1 8)) d_T_count_91 fl_T_146 (go rfl rfl rfl) (by decide) (by decide) (by decide) rfl ?_
      refine sx_goto (tgt := 98) d_T_count_94 (by decide) ?_
      refine sx_retI d_T_count_98 (Or.inl rfl) ⟨Nat.zero_le _, Nat.zero_le _⟩ ?_
      refine ⟨?_, rfl⟩
      (repeat' first | rw [if_pos (by omega)] | rw [if_neg (by omega)])
      all_goals rfl
