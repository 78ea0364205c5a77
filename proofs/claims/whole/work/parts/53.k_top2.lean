set_option maxRecDepth 100000 in
set_option maxHeartbeats 4000000 in
theorem c_crew_bad {L : Nat} {xs : Nat → Int32} (M : Nat → Nat → Int) (nc : Nat) (hnc : M 2 8 = (nc : Int)) (hc4 : nc ≤ 4) (kd : Int) (hkd : sx_r kd) (hb : ¬ (0 ≤ kd ∧ kd ≤ 3 ∧ nc < 4)) : sx_R y_T_crew (2, 0, 0) L xs [sx_p 1, .inl kd] (gm M) (fun v h2 => v = some (.inl (-1)) ∧ h2 = gm M) := by
  refine sx_enter rfl (Nat.le_of_ble_eq_true rfl) rfl ?_
  show sx_V y_T_crew (2, 0, 0) L xs (0, 0) 0 [some (sx_p 1), some (.inl kd), none] [] (gm M) _
  refine sx_iload_n d_T_crew_0 rfl ?_
  refine sx_callS (c_T_isKind M kd (by omega)) d_T_crew_1 cd_T_isKind lk_T_61 st_T_isKind (st := []) rfl rfl (Nat.le_of_ble_eq_true rfl) ⟨by decide, Nat.le_refl _, Nat.le_refl _⟩ (fun _ _ hq => ?_)
  obtain ⟨z3, rfl, z3b, z3i, rfl⟩ := hq
  show sx_V _ _ _ _ (0, 0) _ _ [.inl z3] (gm M) _
  refine sx_if_eq (tgt := 18) d_T_crew_4 (by decide) (by omega) (fun c4_9 => ?_) (fun c4_9 => ?_)
  · refine sx_iconst d_T_crew_18 ?_
    refine sx_retI d_T_crew_19 (Or.inl rfl) ⟨Nat.zero_le _, Nat.zero_le _⟩ ?_
    exact ⟨rfl, rfl⟩
  · refine sx_aload_n d_T_crew_7 rfl ?_
    refine sx_getR (r := some (2)) d_T_crew_8 fl_T_10 (go rfl rfl rfl) (by decide) (by decide) (by decide) rfl ?_
    refine sx_getI (z := (nc : Int)) d_T_crew_11 fl_T_65 (go rfl rfl rfl) (by decide) (by decide) (by decide) hnc ?_
    refine sx_iconst d_T_crew_14 ?_
    refine sx_icmp_lt (tgt := 20) d_T_crew_15 (by decide) (by omega) ⟨by decide, by decide⟩ (fun c15_17 => ?_) (fun c15_17 => ?_)
    · omega
    · refine sx_iconst d_T_crew_18 ?_
      refine sx_retI d_T_crew_19 (Or.inl rfl) ⟨Nat.zero_le _, Nat.zero_le _⟩ ?_
      exact ⟨rfl, rfl⟩
set_option maxRecDepth 100000 in
set_option maxHeartbeats 4000000 in
theorem c_crew_ok {L : Nat} {xs : Nat → Int32} (M : Nat → Nat → Int) (hR : IR M) (nw : Nat) (hnw : M 2 9 = (nw : Int)) (h6 : nw ≤ 6) (nc : Nat) (hnc : M 2 8 = (nc : Int)) (hc4 : nc ≤ 4) (kd : Int) (hkd : sx_r kd) (hg : 0 ≤ kd ∧ kd ≤ 3 ∧ nc < 4) : sx_R y_T_crew (2, 0, 0) L xs [sx_p 1, .inl kd] (gm M) (fun v h2 => v = some (.inl (nc : Int)) ∧ ∃ M2, h2 = gm M2 ∧ fgt nw (sx_u (sx_u M 7 nc kd) 2 8 ((nc : Int) + 1)) M2) := by
  refine sx_enter rfl (Nat.le_of_ble_eq_true rfl) rfl ?_
  show sx_V y_T_crew (2, 0, 0) L xs (0, 0) 0 [some (sx_p 1), some (.inl kd), none] [] (gm M) _
  refine sx_iload_n d_T_crew_0 rfl ?_
  refine sx_callS (c_T_isKind M kd (by omega)) d_T_crew_1 cd_T_isKind lk_T_61 st_T_isKind (st := []) rfl rfl (Nat.le_of_ble_eq_true rfl) ⟨by decide, Nat.le_refl _, Nat.le_refl _⟩ (fun _ _ hq => ?_)
  obtain ⟨z4, rfl, z4b, z4i, rfl⟩ := hq
  show sx_V _ _ _ _ (0, 0) _ _ [.inl z4] (gm M) _
  refine sx_if_eq (tgt := 18) d_T_crew_4 (by decide) (by omega) (fun c4_9 => ?_) (fun c4_9 => ?_)
  · omega
  · refine sx_aload_n d_T_crew_7 rfl ?_
    refine sx_getR (r := some (2)) d_T_crew_8 fl_T_10 (go rfl rfl rfl) (by decide) (by decide) (by decide) rfl ?_
    refine sx_getI (z := (nc : Int)) d_T_crew_11 fl_T_65 (go rfl rfl rfl) (by decide) (by decide) (by decide) hnc ?_
    refine sx_iconst d_T_crew_14 ?_
    refine sx_icmp_lt (tgt := 20) d_T_crew_15 (by decide) (by omega) ⟨by decide, by decide⟩ (fun c15_15 => ?_) (fun c15_15 => ?_)
    · refine sx_aload_n d_T_crew_20 rfl ?_
      refine sx_getR (r := some (2)) d_T_crew_21 fl_T_10 (go rfl rfl rfl) (by decide) (by decide) (by decide) rfl ?_
      refine sx_iload_n d_T_crew_24 rfl ?_
      refine sx_callV (c_L_addCrew M nc hnc (by omega) kd) d_T_crew_25 cd_L_addCrew lk_T_69 im_L_addCrew se_L_addCrew (go rfl rfl rfl) rfl rfl (by decide) (st := []) rfl rfl (Nat.le_of_ble_eq_true rfl) ⟨by decide, Nat.le_refl _, Nat.le_refl _⟩ (fun _ _ hq => ?_)
      obtain ⟨rfl, rfl⟩ := hq
      show sx_V _ _ _ _ (0, 0) _ _ [.inl (nc : Int)] (gm (sx_u (sx_u M 7 nc kd) 2 8 ((nc : Int) + 1))) _
      refine sx_istore_n (l' := [some (sx_p 1), some (.inl kd), some (.inl (nc : Int))]) d_T_crew_28 (by decide) rfl rfl ?_
      refine sx_aload_n d_T_crew_29 rfl ?_
      refine sx_callV (c_T_fgt (sx_u (sx_u M 7 nc kd) 2 8 ((nc : Int) + 1)) (((hR).u _ _ (by omega)).u _ _ (by omega)) nw hnw h6) d_T_crew_30 cd_T_forgetPlan lk_T_73 im_T_forgetPlan se_T_forgetPlan (go rfl rfl rfl) rfl rfl (by decide) (st := []) rfl rfl (Nat.le_of_ble_eq_true rfl) ⟨by decide, Nat.le_refl _, Nat.le_refl _⟩ (fun _ _ hq => ?_)
      obtain ⟨rfl, f1, rfl, f1g⟩ := hq
      show sx_V _ _ _ _ (0, 0) _ _ [] (gm f1) _
      refine sx_iload_n d_T_crew_33 rfl ?_
      refine sx_retI d_T_crew_34 (Or.inl rfl) ⟨Nat.zero_le _, Nat.zero_le _⟩ ?_
      exact ⟨rfl, f1, rfl, f1g⟩
    · omega
set_option maxRecDepth 100000 in
set_option maxHeartbeats 4000000 in
theorem c_after_bad {L : Nat} {xs : Nat → Int32} (M : Nat → Nat → Int) (nw : Nat) (hnw : M 2 9 = (nw : Int)) (h6 : nw ≤ 6) (a b d : Int) (ha : sx_r a) (hb : sx_r b) (hd : sx_r d) (hbd : ¬ (0 ≤ a ∧ a < nw ∧ 0 ≤ b ∧ b < nw ∧ a ≠ b ∧ 0 ≤ d ∧ d ≤ 30)) : sx_R y_T_after (2, 0, 0) L xs [sx_p 1, .inl a, .inl b, .inl d] (gm M) (fun v h2 => v = some (.inl (0)) ∧ h2 = gm M) := by
  refine sx_enter rfl (Nat.le_of_ble_eq_true rfl) rfl ?_
  show sx_V y_T_after (2, 0, 0) L xs (0, 0) 0 [some (sx_p 1), some (.inl a), some (.inl b), some (.inl d)] [] (gm M) _
  refine sx_aload_n d_T_after_0 rfl ?_
  refine sx_iload_n d_T_after_1 rfl ?_
  refine sx_callV (c_T_isWork M nw hnw h6 a (by omega)) d_T_after_2 cd_T_isWork lk_T_87 im_T_isWork se_T_isWork (go rfl rfl rfl) rfl rfl (by decide) (st := []) rfl rfl (Nat.le_of_ble_eq_true rfl) ⟨by decide, Nat.le_refl _, Nat.le_refl _⟩ (fun _ _ hq => ?_)
  obtain ⟨z5, rfl, z5b, z5i, rfl⟩ := hq
  show sx_V _ _ _ _ (0, 0) _ _ [.inl z5] (gm M) _
  refine sx_if_eq (tgt := 31) d_T_after_5 (by decide) (by omega) (fun c5_10 => ?_) (fun c5_10 => ?_)
  · refine sx_iconst d_T_after_31 ?_
    refine sx_retI d_T_after_32 (Or.inr ⟨rfl, by first | exact Or.inl rfl | exact Or.inr rfl | omega⟩) ⟨Nat.zero_le _, Nat.zero_le _⟩ ?_
    exact ⟨rfl, rfl⟩
  · refine sx_aload_n d_T_after_8 rfl ?_
    refine sx_iload_n d_T_after_9 rfl ?_
    refine sx_callV (c_T_isWork M nw hnw h6 b (by omega)) d_T_after_10 cd_T_isWork lk_T_87 im_T_isWork se_T_isWork (go rfl rfl rfl) rfl rfl (by decide) (st := []) rfl rfl (Nat.le_of_ble_eq_true rfl) ⟨by decide, Nat.le_refl _, Nat.le_refl _⟩ (fun _ _ hq => ?_)
    obtain ⟨z6, rfl, z6b, z6i, rfl⟩ := hq
    show sx_V _ _ _ _ (0, 0) _ _ [.inl z6] (gm M) _
    refine sx_if_eq (tgt := 31) d_T_after_13 (by decide) (by omega) (fun c13_19 => ?_) (fun c13_19 => ?_)
    · refine sx_iconst d_T_after_31 ?_
      refine sx_retI d_T_after_32 (Or.inr ⟨rfl, by first | exact Or.inl rfl | exact Or.inr rfl | omega⟩) ⟨Nat.zero_le _, Nat.zero_le _⟩ ?_
      exact ⟨rfl, rfl⟩
    · refine sx_iload_n d_T_after_16 rfl ?_
      refine sx_iload_n d_T_after_17 rfl ?_
      refine sx_icmp_eq (tgt := 31) d_T_after_18 (by decide) (by omega) (by omega) (fun c18_25 => ?_) (fun c18_25 => ?_)
      · refine sx_iconst d_T_after_31 ?_
        refine sx_retI d_T_after_32 (Or.inr ⟨rfl, by first | exact Or.inl rfl | exact Or.inr rfl | omega⟩) ⟨Nat.zero_le _, Nat.zero_le _⟩ ?_
        exact ⟨rfl, rfl⟩
      · refine sx_iload_n d_T_after_21 rfl ?_
        refine sx_iconst d_T_after_22 ?_
        refine sx_bipush d_T_after_23 (by decide) ?_
        refine sx_callS (z_of (c_isWithin M d 0 30 (by omega) (by omega) (by omega))) d_T_after_25 cd_T_isWithin lk_T_76 st_T_isWithin (st := []) rfl rfl (Nat.le_of_ble_eq_true rfl) ⟨by decide, Nat.le_refl _, Nat.le_refl _⟩ (fun _ _ hq => ?_)
        obtain ⟨z7, rfl, z7b, z7i, rfl⟩ := hq
        show sx_V _ _ _ _ (0, 0) _ _ [.inl z7] (gm M) _
        refine sx_if_ne (tgt := 33) d_T_after_28 (by decide) (by omega) (fun c28_35 => ?_) (fun c28_35 => ?_)
        · omega
        · refine sx_iconst d_T_after_31 ?_
          refine sx_retI d_T_after_32 (Or.inr ⟨rfl, by first | exact Or.inl rfl | exact Or.inr rfl | omega⟩) ⟨Nat.zero_le _, Nat.zero_le _⟩ ?_
          exact ⟨rfl, rfl⟩
set_option maxRecDepth 100000 in
set_option maxHeartbeats 4000000 in
theorem c_after_ok {L : Nat} {xs : Nat → Int32} (M : Nat → Nat → Int) (hR : IR M) (nw : Nat) (hnw : M 2 9 = (nw : Int)) (h6 : nw ≤ 6) (a b : Nat) (d : Int) (hd : sx_r d) (hg : a < nw ∧ b < nw ∧ a ≠ b ∧ 0 ≤ d ∧ d ≤ 30) : sx_R y_T_after (2, 0, 0) L xs [sx_p 1, .inl (a : Int), .inl (b : Int), .inl d] (gm M) (fun v h2 => v = some (.inl 1) ∧ ∃ M2, h2 = gm M2 ∧ fgt nw (sx_u M 9 (6 * a + b) d) M2) := by
  refine sx_enter rfl (Nat.le_of_ble_eq_true rfl) rfl ?_
  show sx_V y_T_after (2, 0, 0) L xs (0, 0) 0 [some (sx_p 1), some (.inl (a : Int)), some (.inl (b : Int)), some (.inl d)] [] (gm M) _
  refine sx_aload_n d_T_after_0 rfl ?_
  refine sx_iload_n d_T_after_1 rfl ?_
  refine sx_callV (c_T_isWork M nw hnw h6 (a : Int) (by omega)) d_T_after_2 cd_T_isWork lk_T_87 im_T_isWork se_T_isWork (go rfl rfl rfl) rfl rfl (by decide) (st := []) rfl rfl (Nat.le_of_ble_eq_true rfl) ⟨by decide, Nat.le_refl _, Nat.le_refl _⟩ (fun _ _ hq => ?_)
  obtain ⟨z8, rfl, z8b, z8i, rfl⟩ := hq
  show sx_V _ _ _ _ (0, 0) _ _ [.inl z8] (gm M) _
  refine sx_if_eq (tgt := 31) d_T_after_5 (by decide) (by omega) (fun c5_10 => ?_) (fun c5_10 => ?_)
  · omega
  · refine sx_aload_n d_T_after_8 rfl ?_
    refine sx_iload_n d_T_after_9 rfl ?_
    refine sx_callV (c_T_isWork M nw hnw h6 (b : Int) (by omega)) d_T_after_10 cd_T_isWork lk_T_87 im_T_isWork se_T_isWork (go rfl rfl rfl) rfl rfl (by decide) (st := []) rfl rfl (Nat.le_of_ble_eq_true rfl) ⟨by decide, Nat.le_refl _, Nat.le_refl _⟩ (fun _ _ hq => ?_)
    obtain ⟨z9, rfl, z9b, z9i, rfl⟩ := hq
    show sx_V _ _ _ _ (0, 0) _ _ [.inl z9] (gm M) _
    refine sx_if_eq (tgt := 31) d_T_after_13 (by decide) (by omega) (fun c13_17 => ?_) (fun c13_17 => ?_)
    · omega
    · refine sx_iload_n d_T_after_16 rfl ?_
      refine sx_iload_n d_T_after_17 rfl ?_
      refine sx_icmp_eq (tgt := 31) d_T_after_18 (by decide) (by omega) (by omega) (fun c18_21 => ?_) (fun c18_21 => ?_)
      · omega
      · refine sx_iload_n d_T_after_21 rfl ?_
        refine sx_iconst d_T_after_22 ?_
        refine sx_bipush d_T_after_23 (by decide) ?_
        refine sx_callS (z_of (c_isWithin M d 0 30 (by omega) (by omega) (by omega))) d_T_after_25 cd_T_isWithin lk_T_76 st_T_isWithin (st := []) rfl rfl (Nat.le_of_ble_eq_true rfl) ⟨by decide, Nat.le_refl _, Nat.le_refl _⟩ (fun _ _ hq => ?_)
        obtain ⟨z10, rfl, z10b, z10i, rfl⟩ := hq
        show sx_V _ _ _ _ (0, 0) _ _ [.inl z10] (gm M) _
        refine sx_if_ne (tgt := 33) d_T_after_28 (by decide) (by omega) (fun c28_29 => ?_) (fun c28_29 => ?_)
        · refine sx_aload_n d_T_after_33 rfl ?_
          refine sx_getR (r := some (2)) d_T_after_34 fl_T_10 (go rfl rfl rfl) (by decide) (by decide) (by decide) rfl ?_
          refine sx_iload_n d_T_after_37 rfl ?_
          refine sx_iload_n d_T_after_38 rfl ?_
          refine sx_iload_n d_T_after_39 rfl ?_
          refine sx_callV (c_L_setGap M a b (by omega) (by omega) d) d_T_after_40 cd_L_setGap lk_T_90 im_L_setGap se_L_setGap (go rfl rfl rfl) rfl rfl (by decide) (st := []) rfl rfl (Nat.le_of_ble_eq_true rfl) ⟨by decide, Nat.le_refl _, Nat.le_refl _⟩ (fun _ _ hq => ?_)
          obtain ⟨rfl, rfl⟩ := hq
          show sx_V _ _ _ _ (0, 0) _ _ [] (gm (sx_u M 9 (6 * a + b) d)) _
          refine sx_aload_n d_T_after_43 rfl ?_
          refine sx_callV (c_T_fgt (sx_u M 9 (6 * a + b) d) ((hR).u _ _ (by omega)) nw hnw h6) d_T_after_44 cd_T_forgetPlan lk_T_73 im_T_forgetPlan se_T_forgetPlan (go rfl rfl rfl) rfl rfl (by decide) (st := []) rfl rfl (Nat.le_of_ble_eq_true rfl) ⟨by decide, Nat.le_refl _, Nat.le_refl _⟩ (fun _ _ hq => ?_)
          obtain ⟨rfl, f2, rfl, f2g⟩ := hq
          show sx_V _ _ _ _ (0, 0) _ _ [] (gm f2) _
          refine sx_iconst d_T_after_47 ?_
          refine sx_retI d_T_after_48 (Or.inr ⟨rfl, by first | exact Or.inl rfl | exact Or.inr rfl | omega⟩) ⟨Nat.zero_le _, Nat.zero_le _⟩ ?_
          exact ⟨rfl, f2, rfl, f2g⟩
        · omega
set_option maxRecDepth 100000 in
set_option maxHeartbeats 4000000 in
theorem c_season_bad {L : Nat} {xs : Nat → Int32} (M : Nat → Nat → Int) (nw : Nat) (hnw : M 2 9 = (nw : Int)) (h6 : nw ≤ 6) (w a b : Int) (hw : sx_r w) (ha : sx_r a) (hb : sx_r b) (hbd : ¬ (0 ≤ w ∧ w < nw ∧ 0 ≤ a ∧ a ≤ b ∧ b ≤ 999)) : sx_R y_T_season (1, 0, 0) L xs [sx_p 1, .inl w, .inl a, .inl b] (gm M) (fun v h2 => v = some (.inl (0)) ∧ h2 = gm M) := by
  refine sx_enter rfl (Nat.le_of_ble_eq_true rfl) rfl ?_
  show sx_V y_T_season (1, 0, 0) L xs (0, 0) 0 [some (sx_p 1), some (.inl w), some (.inl a), some (.inl b), none] [] (gm M) _
  refine sx_aload_n d_T_season_0 rfl ?_
  refine sx_iload_n d_T_season_1 rfl ?_
  refine sx_callV (c_T_isWork M nw hnw h6 w (by omega)) d_T_season_2 cd_T_isWork lk_T_87 im_T_isWork se_T_isWork (go rfl rfl rfl) rfl rfl (by decide) (st := []) rfl rfl (Nat.le_of_ble_eq_true rfl) ⟨by decide, Nat.le_refl _, Nat.le_refl _⟩ (fun _ _ hq => ?_)
  obtain ⟨z11, rfl, z11b, z11i, rfl⟩ := hq
  show sx_V _ _ _ _ (0, 0) _ _ [.inl z11] (gm M) _
  refine sx_if_eq (tgt := 24) d_T_season_5 (by decide) (by omega) (fun c5_10 => ?_) (fun c5_10 => ?_)
  · refine sx_iconst d_T_season_24 ?_
    refine sx_retI d_T_season_25 (Or.inr ⟨rfl, by first | exact Or.inl rfl | exact Or.inr rfl | omega⟩) ⟨Nat.zero_le _, Nat.zero_le _⟩ ?_
    exact ⟨rfl, rfl⟩
  · refine sx_iload_n d_T_season_8 rfl ?_
    refine sx_if_lt (tgt := 24) d_T_season_9 (by decide) (by omega) (fun c9_15 => ?_) (fun c9_15 => ?_)
    · refine sx_iconst d_T_season_24 ?_
      refine sx_retI d_T_season_25 (Or.inr ⟨rfl, by first | exact Or.inl rfl | exact Or.inr rfl | omega⟩) ⟨Nat.zero_le _, Nat.zero_le _⟩ ?_
      exact ⟨rfl, rfl⟩
    · refine sx_iload_n d_T_season_12 rfl ?_
      refine sx_iload_n d_T_season_13 rfl ?_
      refine sx_icmp_lt (tgt := 24) d_T_season_14 (by decide) (by omega) (by omega) (fun c14_21 => ?_) (fun c14_21 => ?_)
      · refine sx_iconst d_T_season_24 ?_
        refine sx_retI d_T_season_25 (Or.inr ⟨rfl, by first | exact Or.inl rfl | exact Or.inr rfl | omega⟩) ⟨Nat.zero_le _, Nat.zero_le _⟩ ?_
        exact ⟨rfl, rfl⟩
      · refine sx_iload_n d_T_season_17 rfl ?_
        refine sx_sipush d_T_season_18 (by decide) ?_
        refine sx_icmp_le (tgt := 26) d_T_season_21 (by decide) (by omega) ⟨by decide, by decide⟩ (fun c21_27 => ?_) (fun c21_27 => ?_)
        · omega
        · refine sx_iconst d_T_season_24 ?_
          refine sx_retI d_T_season_25 (Or.inr ⟨rfl, by first | exact Or.inl rfl | exact Or.inr rfl | omega⟩) ⟨Nat.zero_le _, Nat.zero_le _⟩ ?_
          exact ⟨rfl, rfl⟩
set_option maxRecDepth 100000 in
set_option maxHeartbeats 4000000 in
theorem c_season_ok {L : Nat} {xs : Nat → Int32} (M : Nat → Nat → Int) (hR : IR M) (nw : Nat) (hnw : M 2 9 = (nw : Int)) (h6 : nw ≤ 6) (w : Nat) (a b : Int) (ha : sx_r a) (hb : sx_r b) (hg : w < nw ∧ 0 ≤ a ∧ a ≤ b ∧ b ≤ 999) : sx_R y_T_season (1, 0, 0) L xs [sx_p 1, .inl (w : Int), .inl a, .inl b] (gm M) (fun v h2 => v = some (.inl 1) ∧ ∃ M2, h2 = gm M2 ∧ fgt nw (sx_u (sx_u M (14 + w) 7 a) (14 + w) 8 b) M2) := by
  refine sx_enter rfl (Nat.le_of_ble_eq_true rfl) rfl ?_
  show sx_V y_T_season (1, 0, 0) L xs (0, 0) 0 [some (sx_p 1), some (.inl (w : Int)), some (.inl a), some (.inl b), none] [] (gm M) _
  refine sx_aload_n d_T_season_0 rfl ?_
  refine sx_iload_n d_T_season_1 rfl ?_
  refine sx_callV (c_T_isWork M nw hnw h6 (w : Int) (by omega)) d_T_season_2 cd_T_isWork lk_T_87 im_T_isWork se_T_isWork (go rfl rfl rfl) rfl rfl (by decide) (st := []) rfl rfl (Nat.le_of_ble_eq_true rfl) ⟨by decide, Nat.le_refl _, Nat.le_refl _⟩ (fun _ _ hq => ?_)
  obtain ⟨z12, rfl, z12b, z12i, rfl⟩ := hq
  show sx_V _ _ _ _ (0, 0) _ _ [.inl z12] (gm M) _
  refine sx_if_eq (tgt := 24) d_T_season_5 (by decide) (by omega) (fun c5_10 => ?_) (fun c5_10 => ?_)
  · omega
  · refine sx_iload_n d_T_season_8 rfl ?_
    refine sx_if_lt (tgt := 24) d_T_season_9 (by decide) (by omega) (fun c9_13 => ?_) (fun c9_13 => ?_)
    · omega
    · refine sx_iload_n d_T_season_12 rfl ?_
      refine sx_iload_n d_T_season_13 rfl ?_
      refine sx_icmp_lt (tgt := 24) d_T_season_14 (by decide) (by omega) (by omega) (fun c14_17 => ?_) (fun c14_17 => ?_)
      · omega
      · refine sx_iload_n d_T_season_17 rfl ?_
        refine sx_sipush d_T_season_18 (by decide) ?_
        refine sx_icmp_le (tgt := 26) d_T_season_21 (by decide) (by omega) ⟨by decide, by decide⟩ (fun c21_21 => ?_) (fun c21_21 => ?_)
        · refine sx_aload_n d_T_season_26 rfl ?_
          refine sx_getR (r := some (2)) d_T_season_27 fl_T_10 (go rfl rfl rfl) (by decide) (by decide) (by decide) rfl ?_
          refine sx_getR (r := some (8)) d_T_season_30 fl_T_94 (go rfl rfl rfl) (by decide) (by decide) (by decide) rfl ?_
          refine sx_iload_n d_T_season_33 rfl ?_
          refine sx_aald (r := some ((14 + w))) d_T_season_34 (go rfl rfl rfl) (t := 0) rfl (by omega) (by omega) (by decide) (gr_w _ (by omega)) ?_
          refine sx_astore (l' := [some (sx_p 1), some (.inl (w : Int)), some (.inl a), some (.inl b), some (sx_p (14 + w))]) d_T_season_35 (by decide) rfl rfl ?_
          refine sx_aload d_T_season_37 rfl ?_
          refine sx_iload_n d_T_season_39 rfl ?_
          refine sx_putI (h2 := gm (sx_u M (14 + w) 7 a)) d_T_season_40 fl_T_98 (go_w _ (by omega)) (by decide) (by decide) (by decide) (fun q hq => Or.inl (nf_K_7 q hq)) (Or.inl rfl) rfl ?_
          refine sx_aload d_T_season_43 rfl ?_
          refine sx_iload_n d_T_season_45 rfl ?_
          refine sx_putI (h2 := gm (sx_u (sx_u M (14 + w) 7 a) (14 + w) 8 b)) d_T_season_46 fl_T_103 (go_w _ (by omega)) (by decide) (by decide) (by decide) (fun q hq => Or.inl (nf_K_8 q hq)) (Or.inl rfl) rfl ?_
          refine sx_aload_n d_T_season_49 rfl ?_
          refine sx_callV (c_T_fgt (sx_u (sx_u M (14 + w) 7 a) (14 + w) 8 b) (((hR).u _ _ (by omega)).u _ _ (by omega)) nw (by rw [sx_u_ne (by omega), sx_u_ne (by omega)]; exact hnw) h6) d_T_season_50 cd_T_forgetPlan lk_T_73 im_T_forgetPlan se_T_forgetPlan (go rfl rfl rfl) rfl rfl (by decide) (st := []) rfl rfl (Nat.le_of_ble_eq_true rfl) ⟨by decide, Nat.le_refl _, Nat.le_refl _⟩ (fun _ _ hq => ?_)
          obtain ⟨rfl, f3, rfl, f3g⟩ := hq
          show sx_V _ _ _ _ (0, 0) _ _ [] (gm f3) _
          refine sx_iconst d_T_season_53 ?_
          refine sx_retI d_T_season_54 (Or.inr ⟨rfl, by first | exact Or.inl rfl | exact Or.inr rfl | omega⟩) ⟨Nat.zero_le _, Nat.zero_le _⟩ ?_
          exact ⟨rfl, f3, rfl, f3g⟩
        · omega
set_option maxRecDepth 100000 in
set_option maxHeartbeats 4000000 in
theorem c_bar_bad {L : Nat} {xs : Nat → Int32} (M : Nat → Nat → Int) (hR : IR M) (nw : Nat) (hnw : M 2 9 = (nw : Int)) (h6 : nw ≤ 6) (nb : Nat) (hnb : M 2 10 = (nb : Int)) (hb8 : nb ≤ 8) (w p u : Int) (hw : sx_r w) (hp : sx_r p) (hu : sx_r u) (hbd : ¬ (0 ≤ w ∧ w < nw ∧ M (14 + Int.toNat w) 2 ≤ p ∧ p ≤ M (14 + Int.toNat w) 3 ∧ 0 ≤ u ∧ u ≤ 999 ∧ nb < 8)) : sx_R y_T_bar (2, 0, 0) L xs [sx_p 1, .inl w, .inl p, .inl u] (gm M) (fun v h2 => v = some (.inl (0)) ∧ h2 = gm M) := by
  refine sx_enter rfl (Nat.le_of_ble_eq_true rfl) rfl ?_
  show sx_V y_T_bar (2, 0, 0) L xs (0, 0) 0 [some (sx_p 1), some (.inl w), some (.inl p), some (.inl u)] [] (gm M) _
  refine sx_aload_n d_T_bar_0 rfl ?_
  refine sx_iload_n d_T_bar_1 rfl ?_
  refine sx_callV (c_T_isWork M nw hnw h6 w (by omega)) d_T_bar_2 cd_T_isWork lk_T_87 im_T_isWork se_T_isWork (go rfl rfl rfl) rfl rfl (by decide) (st := []) rfl rfl (Nat.le_of_ble_eq_true rfl) ⟨by decide, Nat.le_refl _, Nat.le_refl _⟩ (fun _ _ hq => ?_)
  obtain ⟨z13, rfl, z13b, z13i, rfl⟩ := hq
  show sx_V _ _ _ _ (0, 0) _ _ [.inl z13] (gm M) _
  refine sx_if_eq (tgt := 47) d_T_bar_5 (by decide) (by omega) (fun c5_10 => ?_) (fun c5_10 => ?_)
  · refine sx_iconst d_T_bar_47 ?_
    refine sx_retI d_T_bar_48 (Or.inr ⟨rfl, by first | exact Or.inl rfl | exact Or.inr rfl | omega⟩) ⟨Nat.zero_le _, Nat.zero_le _⟩ ?_
    exact ⟨rfl, rfl⟩
  · refine sx_aload_n d_T_bar_8 rfl ?_
    refine sx_getR (r := some (2)) d_T_bar_9 fl_T_10 (go rfl rfl rfl) (by decide) (by decide) (by decide) rfl ?_
    refine sx_getR (r := some (8)) d_T_bar_12 fl_T_94 (go rfl rfl rfl) (by decide) (by decide) (by decide) rfl ?_
    refine sx_iload_n d_T_bar_15 rfl ?_
    refine sx_aald (r := some ((14 + (Int.toNat w)))) d_T_bar_16 (go rfl rfl rfl) (t := 0) rfl (by omega) (by omega) (by decide) (gr_w _ (by omega)) ?_
    refine sx_iload_n d_T_bar_17 rfl ?_
    refine sx_callV (z_of (c_K_comesTo M hR (Int.toNat w) (by omega) p (by omega))) d_T_bar_18 cd_K_comesTo lk_T_106 im_K_comesTo se_K_comesTo (go_w _ (by omega)) rfl rfl (by decide) (st := []) rfl rfl (Nat.le_of_ble_eq_true rfl) ⟨by decide, Nat.le_refl _, Nat.le_refl _⟩ (fun _ _ hq => ?_)
    obtain ⟨z14, rfl, z14b, z14i, rfl⟩ := hq
    show sx_V _ _ _ _ (0, 0) _ _ [.inl z14] (gm M) _
    refine sx_if_eq (tgt := 47) d_T_bar_21 (by decide) (by omega) (fun c21_23 => ?_) (fun c21_23 => ?_)
    · refine sx_iconst d_T_bar_47 ?_
      refine sx_retI d_T_bar_48 (Or.inr ⟨rfl, by first | exact Or.inl rfl | exact Or.inr rfl | omega⟩) ⟨Nat.zero_le _, Nat.zero_le _⟩ ?_
      exact ⟨rfl, rfl⟩
    · refine sx_iload_n d_T_bar_24 rfl ?_
      refine sx_iconst d_T_bar_25 ?_
      refine sx_sipush d_T_bar_26 (by decide) ?_
      refine sx_callS (z_of (c_isWithin M u 0 999 (by omega) (by omega) (by omega))) d_T_bar_29 cd_T_isWithin lk_T_76 st_T_isWithin (st := []) rfl rfl (Nat.le_of_ble_eq_true rfl) ⟨by decide, Nat.le_refl _, Nat.le_refl _⟩ (fun _ _ hq => ?_)
      obtain ⟨z15, rfl, z15b, z15i, rfl⟩ := hq
      show sx_V _ _ _ _ (0, 0) _ _ [.inl z15] (gm M) _
      refine sx_if_eq (tgt := 47) d_T_bar_32 (by decide) (by omega) (fun c32_33 => ?_) (fun c32_33 => ?_)
      · refine sx_iconst d_T_bar_47 ?_
        refine sx_retI d_T_bar_48 (Or.inr ⟨rfl, by first | exact Or.inl rfl | exact Or.inr rfl | omega⟩) ⟨Nat.zero_le _, Nat.zero_le _⟩ ?_
        exact ⟨rfl, rfl⟩
      · refine sx_aload_n d_T_bar_35 rfl ?_
        refine sx_getR (r := some (2)) d_T_bar_36 fl_T_10 (go rfl rfl rfl) (by decide) (by decide) (by decide) rfl ?_
        refine sx_getI (z := (nb : Int)) d_T_bar_39 fl_T_109 (go rfl rfl rfl) (by decide) (by decide) (by decide) hnb ?_
        refine sx_bipush d_T_bar_42 (by decide) ?_
        refine sx_icmp_lt (tgt := 49) d_T_bar_44 (by decide) (by omega) ⟨by decide, by decide⟩ (fun c44_41 => ?_) (fun c44_41 => ?_)
        · omega
        · refine sx_iconst d_T_bar_47 ?_
          refine sx_retI d_T_bar_48 (Or.inr ⟨rfl, by first | exact Or.inl rfl | exact Or.inr rfl | omega⟩) ⟨Nat.zero_le _, Nat.zero_le _⟩ ?_
          exact ⟨rfl, rfl⟩
set_option maxRecDepth 100000 in
set_option maxHeartbeats 4000000 in
theorem c_bar_ok {L : Nat} {xs : Nat → Int32} (M : Nat → Nat → Int) (hR : IR M) (nw : Nat) (hnw : M 2 9 = (nw : Int)) (h6 : nw ≤ 6) (nb : Nat) (hnb : M 2 10 = (nb : Int)) (hb8 : nb ≤ 8) (w : Nat) (p u : Int) (hp : sx_r p) (hu : sx_r u) (hg : w < nw ∧ M (14 + w) 2 ≤ p ∧ p ≤ M (14 + w) 3 ∧ 0 ≤ u ∧ u ≤ 999 ∧ nb < 8) : sx_R y_T_bar (2, 0, 0) L xs [sx_p 1, .inl (w : Int), .inl p, .inl u] (gm M) (fun v h2 => v = some (.inl 1) ∧ ∃ M2, h2 = gm M2 ∧ fgt nw (sx_u (sx_u (sx_u (sx_u M 11 nb (w : Int)) 12 nb p) 13 nb u) 2 10 ((nb : Int) + 1)) M2) := by
  refine sx_enter rfl (Nat.le_of_ble_eq_true rfl) rfl ?_
  show sx_V y_T_bar (2, 0, 0) L xs (0, 0) 0 [some (sx_p 1), some (.inl (w : Int)), some (.inl p), some (.inl u)] [] (gm M) _
  refine sx_aload_n d_T_bar_0 rfl ?_
  refine sx_iload_n d_T_bar_1 rfl ?_
  refine sx_callV (c_T_isWork M nw hnw h6 (w : Int) (by omega)) d_T_bar_2 cd_T_isWork lk_T_87 im_T_isWork se_T_isWork (go rfl rfl rfl) rfl rfl (by decide) (st := []) rfl rfl (Nat.le_of_ble_eq_true rfl) ⟨by decide, Nat.le_refl _, Nat.le_refl _⟩ (fun _ _ hq => ?_)
  obtain ⟨z16, rfl, z16b, z16i, rfl⟩ := hq
  show sx_V _ _ _ _ (0, 0) _ _ [.inl z16] (gm M) _
  refine sx_if_eq (tgt := 47) d_T_bar_5 (by decide) (by omega) (fun c5_10 => ?_) (fun c5_10 => ?_)
  · omega
  · refine sx_aload_n d_T_bar_8 rfl ?_
    refine sx_getR (r := some (2)) d_T_bar_9 fl_T_10 (go rfl rfl rfl) (by decide) (by decide) (by decide) rfl ?_
    refine sx_getR (r := some (8)) d_T_bar_12 fl_T_94 (go rfl rfl rfl) (by decide) (by decide) (by decide) rfl ?_
    refine sx_iload_n d_T_bar_15 rfl ?_
    refine sx_aald (r := some ((14 + w))) d_T_bar_16 (go rfl rfl rfl) (t := 0) rfl (by omega) (by omega) (by decide) (gr_w _ (by omega)) ?_
    refine sx_iload_n d_T_bar_17 rfl ?_
    refine sx_callV (z_of (c_K_comesTo M hR w (by omega) p (by omega))) d_T_bar_18 cd_K_comesTo lk_T_106 im_K_comesTo se_K_comesTo (go_w _ (by omega)) rfl rfl (by decide) (st := []) rfl rfl (Nat.le_of_ble_eq_true rfl) ⟨by decide, Nat.le_refl _, Nat.le_refl _⟩ (fun _ _ hq => ?_)
    obtain ⟨z17, rfl, z17b, z17i, rfl⟩ := hq
    show sx_V _ _ _ _ (0, 0) _ _ [.inl z17] (gm M) _
    refine sx_if_eq (tgt := 47) d_T_bar_21 (by decide) (by omega) (fun c21_21 => ?_) (fun c21_21 => ?_)
    · omega
    · refine sx_iload_n d_T_bar_24 rfl ?_
      refine sx_iconst d_T_bar_25 ?_
      refine sx_sipush d_T_bar_26 (by decide) ?_
      refine sx_callS (z_of (c_isWithin M u 0 999 (by omega) (by omega) (by omega))) d_T_bar_29 cd_T_isWithin lk_T_76 st_T_isWithin (st := []) rfl rfl (Nat.le_of_ble_eq_true rfl) ⟨by decide, Nat.le_refl _, Nat.le_refl _⟩ (fun _ _ hq => ?_)
      obtain ⟨z18, rfl, z18b, z18i, rfl⟩ := hq
      show sx_V _ _ _ _ (0, 0) _ _ [.inl z18] (gm M) _
      refine sx_if_eq (tgt := 47) d_T_bar_32 (by decide) (by omega) (fun c32_29 => ?_) (fun c32_29 => ?_)
      · omega
      · refine sx_aload_n d_T_bar_35 rfl ?_
        refine sx_getR (r := some (2)) d_T_bar_36 fl_T_10 (go rfl rfl rfl) (by decide) (by decide) (by decide) rfl ?_
        refine sx_getI (z := (nb : Int)) d_T_bar_39 fl_T_109 (go rfl rfl rfl) (by decide) (by decide) (by decide) hnb ?_
        refine sx_bipush d_T_bar_42 (by decide) ?_
        refine sx_icmp_lt (tgt := 49) d_T_bar_44 (by decide) (by omega) ⟨by decide, by decide⟩ (fun c44_35 => ?_) (fun c44_35 => ?_)
        · refine sx_aload_n d_T_bar_49 rfl ?_
          refine sx_getR (r := some (2)) d_T_bar_50 fl_T_10 (go rfl rfl rfl) (by decide) (by decide) (by decide) rfl ?_
          refine sx_iload_n d_T_bar_53 rfl ?_
          refine sx_iload_n d_T_bar_54 rfl ?_
          refine sx_iload_n d_T_bar_55 rfl ?_
          refine sx_callV (c_L_addBar M nb hnb (by omega) (w : Int) p u) d_T_bar_56 cd_L_addBar lk_T_112 im_L_addBar se_L_addBar (go rfl rfl rfl) rfl rfl (by decide) (st := []) rfl rfl (Nat.le_of_ble_eq_true rfl) ⟨by decide, Nat.le_refl _, Nat.le_refl _⟩ (fun _ _ hq => ?_)
          obtain ⟨rfl, rfl⟩ := hq
          show sx_V _ _ _ _ (0, 0) _ _ [] (gm (sx_u (sx_u (sx_u (sx_u M 11 nb (w : Int)) 12 nb p) 13 nb u) 2 10 ((nb : Int) + 1))) _
          refine sx_aload_n d_T_bar_59 rfl ?_
          refine sx_callV (c_T_fgt (sx_u (sx_u (sx_u (sx_u M 11 nb (w : Int)) 12 nb p) 13 nb u) 2 10 ((nb : Int) + 1)) (((((hR).u _ _ (by omega)).u _ _ (by omega)).u _ _ (by omega)).u _ _ (by omega)) nw hnw h6) d_T_bar_60 cd_T_forgetPlan lk_T_73 im_T_forgetPlan se_T_forgetPlan (go rfl rfl rfl) rfl rfl (by decide) (st := []) rfl rfl (Nat.le_of_ble_eq_true rfl) ⟨by decide, Nat.le_refl _, Nat.le_refl _⟩ (fun _ _ hq => ?_)
          obtain ⟨rfl, f4, rfl, f4g⟩ := hq
          show sx_V _ _ _ _ (0, 0) _ _ [] (gm f4) _
          refine sx_iconst d_T_bar_63 ?_
          refine sx_retI d_T_bar_64 (Or.inr ⟨rfl, by first | exact Or.inl rfl | exact Or.inr rfl | omega⟩) ⟨Nat.zero_le _, Nat.zero_le _⟩ ?_
          exact ⟨rfl, f4, rfl, f4g⟩
        · omega
set_option maxRecDepth 100000 in
set_option maxHeartbeats 4000000 in
theorem c_most_bad {L : Nat} {xs : Nat → Int32} (M : Nat → Nat → Int) (kd n : Int) (hkd : sx_r kd) (hn : sx_r n) (hbd : ¬ (0 ≤ kd ∧ kd ≤ 3 ∧ 0 ≤ n ∧ n ≤ 6)) : sx_R y_T_most (2, 0, 0) L xs [sx_p 1, .inl kd, .inl n] (gm M) (fun v h2 => v = some (.inl (-1)) ∧ h2 = gm M) := by
  refine sx_enter rfl (Nat.le_of_ble_eq_true rfl) rfl ?_
  show sx_V y_T_most (2, 0, 0) L xs (0, 0) 0 [some (sx_p 1), some (.inl kd), some (.inl n), none] [] (gm M) _
  refine sx_iload_n d_T_most_0 rfl ?_
  refine sx_callS (c_T_isKind M kd (by omega)) d_T_most_1 cd_T_isKind lk_T_61 st_T_isKind (st := []) rfl rfl (Nat.le_of_ble_eq_true rfl) ⟨by decide, Nat.le_refl _, Nat.le_refl _⟩ (fun _ _ hq => ?_)
  obtain ⟨z19, rfl, z19b, z19i, rfl⟩ := hq
  show sx_V _ _ _ _ (0, 0) _ _ [.inl z19] (gm M) _
  refine sx_if_eq (tgt := 17) d_T_most_4 (by decide) (by omega) (fun c4_9 => ?_) (fun c4_9 => ?_)
  · refine sx_iconst d_T_most_17 ?_
    refine sx_retI d_T_most_18 (Or.inl rfl) ⟨Nat.zero_le _, Nat.zero_le _⟩ ?_
    exact ⟨rfl, rfl⟩
  · refine sx_iload_n d_T_most_7 rfl ?_
    refine sx_iconst d_T_most_8 ?_
    refine sx_bipush d_T_most_9 (by decide) ?_
    refine sx_callS (z_of (c_isWithin M n 0 6 (by omega) (by omega) (by omega))) d_T_most_11 cd_T_isWithin lk_T_76 st_T_isWithin (st := []) rfl rfl (Nat.le_of_ble_eq_true rfl) ⟨by decide, Nat.le_refl _, Nat.le_refl _⟩ (fun _ _ hq => ?_)
    obtain ⟨z20, rfl, z20b, z20i, rfl⟩ := hq
    show sx_V _ _ _ _ (0, 0) _ _ [.inl z20] (gm M) _
    refine sx_if_ne (tgt := 19) d_T_most_14 (by decide) (by omega) (fun c14_19 => ?_) (fun c14_19 => ?_)
    · omega
    · refine sx_iconst d_T_most_17 ?_
      refine sx_retI d_T_most_18 (Or.inl rfl) ⟨Nat.zero_le _, Nat.zero_le _⟩ ?_
      exact ⟨rfl, rfl⟩
set_option maxRecDepth 100000 in
set_option maxHeartbeats 4000000 in
theorem c_most_ok {L : Nat} {xs : Nat → Int32} (M : Nat → Nat → Int) (hR : IR M) (nw : Nat) (hnw : M 2 9 = (nw : Int)) (h6 : nw ≤ 6) (kd : Nat) (n : Int) (hn : sx_r n) (hg : kd < 4 ∧ 0 ≤ n ∧ n ≤ 6) : sx_R y_T_most (2, 0, 0) L xs [sx_p 1, .inl (kd : Int), .inl n] (gm M) (fun v h2 => v = some (.inl (M 10 kd)) ∧ ∃ M2, h2 = gm M2 ∧ fgt nw (sx_u M 10 kd n) M2) := by
  refine sx_enter rfl (Nat.le_of_ble_eq_true rfl) rfl ?_
  show sx_V y_T_most (2, 0, 0) L xs (0, 0) 0 [some (sx_p 1), some (.inl (kd : Int)), some (.inl n), none] [] (gm M) _
  refine sx_iload_n d_T_most_0 rfl ?_
  refine sx_callS (c_T_isKind M (kd : Int) (by omega)) d_T_most_1 cd_T_isKind lk_T_61 st_T_isKind (st := []) rfl rfl (Nat.le_of_ble_eq_true rfl) ⟨by decide, Nat.le_refl _, Nat.le_refl _⟩ (fun _ _ hq => ?_)
  obtain ⟨z21, rfl, z21b, z21i, rfl⟩ := hq
  show sx_V _ _ _ _ (0, 0) _ _ [.inl z21] (gm M) _
  refine sx_if_eq (tgt := 17) d_T_most_4 (by decide) (by omega) (fun c4_9 => ?_) (fun c4_9 => ?_)
  · omega
  · refine sx_iload_n d_T_most_7 rfl ?_
    refine sx_iconst d_T_most_8 ?_
    refine sx_bipush d_T_most_9 (by decide) ?_
    refine sx_callS (z_of (c_isWithin M n 0 6 (by omega) (by omega) (by omega))) d_T_most_11 cd_T_isWithin lk_T_76 st_T_isWithin (st := []) rfl rfl (Nat.le_of_ble_eq_true rfl) ⟨by decide, Nat.le_refl _, Nat.le_refl _⟩ (fun _ _ hq => ?_)
    obtain ⟨z22, rfl, z22b, z22i, rfl⟩ := hq
    show sx_V _ _ _ _ (0, 0) _ _ [.inl z22] (gm M) _
    refine sx_if_ne (tgt := 19) d_T_most_14 (by decide) (by omega) (fun c14_17 => ?_) (fun c14_17 => ?_)
    · refine sx_aload_n d_T_most_19 rfl ?_
      refine sx_getR (r := some (2)) d_T_most_20 fl_T_10 (go rfl rfl rfl) (by decide) (by decide) (by decide) rfl ?_
      refine sx_getR (r := some (10)) d_T_most_23 fl_T_128 (go rfl rfl rfl) (by decide) (by decide) (by decide) rfl ?_
      refine sx_iload_n d_T_most_26 rfl ?_
      refine sx_iald (z := (M 10 kd)) d_T_most_27 (go rfl rfl rfl) (by omega) (by omega) (by decide) rfl ?_
      refine sx_istore_n (l' := [some (sx_p 1), some (.inl (kd : Int)), some (.inl n), some (.inl (M 10 kd))]) d_T_most_28 (by decide) rfl rfl ?_
      refine sx_aload_n d_T_most_29 rfl ?_
      refine sx_getR (r := some (2)) d_T_most_30 fl_T_10 (go rfl rfl rfl) (by decide) (by decide) (by decide) rfl ?_
      refine sx_getR (r := some (10)) d_T_most_33 fl_T_128 (go rfl rfl rfl) (by decide) (by decide) (by decide) rfl ?_
      refine sx_iload_n d_T_most_36 rfl ?_
      refine sx_iload_n d_T_most_37 rfl ?_
      refine sx_iast (h2 := gm (sx_u M 10 kd n)) d_T_most_38 (go rfl rfl rfl) (by omega) (by omega) (by decide) rfl ?_
      refine sx_aload_n d_T_most_39 rfl ?_
      refine sx_callV (c_T_fgt (sx_u M 10 kd n) ((hR).u _ _ (by omega)) nw hnw h6) d_T_most_40 cd_T_forgetPlan lk_T_73 im_T_forgetPlan se_T_forgetPlan (go rfl rfl rfl) rfl rfl (by decide) (st := []) rfl rfl (Nat.le_of_ble_eq_true rfl) ⟨by decide, Nat.le_refl _, Nat.le_refl _⟩ (fun _ _ hq => ?_)
      obtain ⟨rfl, f5, rfl, f5g⟩ := hq
      show sx_V _ _ _ _ (0, 0) _ _ [] (gm f5) _
      refine sx_iload_n d_T_most_43 rfl ?_
      refine sx_retI d_T_most_44 (Or.inl rfl) ⟨Nat.zero_le _, Nat.zero_le _⟩ ?_
      exact ⟨rfl, f5, rfl, f5g⟩
    · omega
set_option maxRecDepth 100000 in
set_option maxHeartbeats 4000000 in
theorem c_rest_bad {L : Nat} {xs : Nat → Int32} (M : Nat → Nat → Int) (hI : IDy M) (d : Int) (hd : sx_r d) (hbd : ¬ (0 ≤ d ∧ d ≤ 199 ∧ dr M d.toNat = false)) : sx_R y_T_rest (2, 0, 0) L xs [sx_p 1, .inl d] (gm M) (fun v h2 => v = some (.inl (0)) ∧ h2 = gm M) := by
  refine sx_enter rfl (Nat.le_of_ble_eq_true rfl) rfl ?_
  show sx_V y_T_rest (2, 0, 0) L xs (0, 0) 0 [some (sx_p 1), some (.inl d)] [] (gm M) _
  refine sx_iload_n d_T_rest_0 rfl ?_
  refine sx_iconst d_T_rest_1 ?_
  refine sx_sipush d_T_rest_2 (by decide) ?_
  refine sx_callS (z_of (c_isWithin M d 0 199 (by omega) (by omega) (by omega))) d_T_rest_5 cd_T_isWithin lk_T_76 st_T_isWithin (st := []) rfl rfl (Nat.le_of_ble_eq_true rfl) ⟨by decide, Nat.le_refl _, Nat.le_refl _⟩ (fun _ _ hq => ?_)
  obtain ⟨z23, rfl, z23b, z23i, rfl⟩ := hq
  show sx_V _ _ _ _ (0, 0) _ _ [.inl z23] (gm M) _
  refine sx_if_eq (tgt := 25) d_T_rest_8 (by decide) (by omega) (fun c8_11 => ?_) (fun c8_11 => ?_)
  · refine sx_iconst d_T_rest_25 ?_
    refine sx_retI d_T_rest_26 (Or.inr ⟨rfl, by first | exact Or.inl rfl | exact Or.inr rfl | omega⟩) ⟨Nat.zero_le _, Nat.zero_le _⟩ ?_
    exact ⟨rfl, rfl⟩
  · refine sx_aload_n d_T_rest_11 rfl ?_
    refine sx_getR (r := some (2)) d_T_rest_12 fl_T_10 (go rfl rfl rfl) (by decide) (by decide) (by decide) rfl ?_
    refine sx_getR (r := some (3)) d_T_rest_15 fl_T_115 (go rfl rfl rfl) (by decide) (by decide) (by decide) rfl ?_
    refine sx_iload_n d_T_rest_18 rfl ?_
    refine sx_callV (z_of (c_D_isWorking M hI d (by omega))) d_T_rest_19 cd_D_isWorking lk_T_119 im_D_isWorking se_D_isWorking (go rfl rfl rfl) rfl rfl (by decide) (st := []) rfl rfl (Nat.le_of_ble_eq_true rfl) ⟨by decide, Nat.le_refl _, Nat.le_refl _⟩ (fun _ _ hq => ?_)
    obtain ⟨z24, rfl, z24b, z24i, rfl⟩ := hq
    show sx_V _ _ _ _ (0, 0) _ _ [.inl z24] (gm M) _
    refine sx_if_ne (tgt := 27) d_T_rest_22 (by decide) (by omega) (fun c22_22 => ?_) (fun c22_22 => ?_)
    · exact absurd ⟨by omega, by omega, (z24i.mp (by omega)).2⟩ hbd
    · refine sx_iconst d_T_rest_25 ?_
      refine sx_retI d_T_rest_26 (Or.inr ⟨rfl, by first | exact Or.inl rfl | exact Or.inr rfl | omega⟩) ⟨Nat.zero_le _, Nat.zero_le _⟩ ?_
      exact ⟨rfl, rfl⟩
set_option maxRecDepth 100000 in
set_option maxHeartbeats 4000000 in
theorem c_D_give {L : Nat} {xs : Nat → Int32} (M : Nat → Nat → Int) (hI : IDy M) (hR : IR M) (d : Nat) (hd : d < 200) (hr : M 4 d = 0) : sx_R y_D_giveRest (1, 0, 0) L xs [sx_p 3, .inl (d : Int)] (gm M) (fun v h2 => v = none ∧ ∃ M2, h2 = gm M2 ∧ gvr d M M2) := by
  refine sx_enter rfl (Nat.le_of_ble_eq_true rfl) rfl ?_
  show sx_V y_D_giveRest (1, 0, 0) L xs (0, 0) 0 [some (sx_p 3), some (.inl (d : Int))] [] (gm M) _
  refine sx_iload_n d_D_giveRest_0 rfl ?_
  refine sx_iconst d_D_giveRest_1 ?_
  refine sx_sipush d_D_giveRest_2 (by decide) ?_
  refine sx_callS (z_of (c_isWithin M (d : Int) 0 199 (by omega) (by omega) (by omega))) d_D_giveRest_5 cd_T_isWithin lk_D_25 st_T_isWithin (st := []) rfl rfl (Nat.le_of_ble_eq_true rfl) ⟨by decide, Nat.le_refl _, Nat.le_refl _⟩ (fun _ _ hq => ?_)
  obtain ⟨z25, rfl, z25b, z25i, rfl⟩ := hq
  show sx_V _ _ _ _ (0, 0) _ _ [.inl z25] (gm M) _
  refine sx_if_eq (tgt := 41) d_D_giveRest_8 (by decide) (by omega) (fun c8_11 => ?_) (fun c8_11 => ?_)
  · omega
  · refine sx_aload_n d_D_giveRest_11 rfl ?_
    refine sx_getR (r := some (4)) d_D_giveRest_12 fl_D_9 (go rfl rfl rfl) (by decide) (by decide) (by decide) rfl ?_
    refine sx_iload_n d_D_giveRest_15 rfl ?_
    refine sx_zald (z := 0) d_D_giveRest_16 (go rfl rfl rfl) (by omega) (by omega) (by decide) hr ?_
    refine sx_if_ne (tgt := 41) d_D_giveRest_17 (by decide) ⟨by decide, by decide⟩ (fun c17_17 => ?_) (fun c17_17 => ?_)
    · omega
    · refine sx_aload_n d_D_giveRest_20 rfl ?_
      refine sx_getR (r := some (4)) d_D_giveRest_21 fl_D_9 (go rfl rfl rfl) (by decide) (by decide) (by decide) rfl ?_
      refine sx_iload_n d_D_giveRest_24 rfl ?_
      refine sx_iconst d_D_giveRest_25 ?_
      refine sx_zast (h2 := gm (sx_u M 4 d 1)) d_D_giveRest_26 (go rfl rfl rfl) (by omega) (by omega) (by decide) (Or.inr rfl) rfl ?_
      refine sx_aload_n d_D_giveRest_27 rfl ?_
      refine sx_dup rfl d_D_giveRest_28 ?_
      refine sx_getI (z := (M 3 3)) d_D_giveRest_29 fl_D_29 (go rfl rfl rfl) (by decide) (by decide) (by decide) rfl ?_
      refine sx_iconst d_D_giveRest_32 ?_
      refine sx_iadd d_D_giveRest_33 ?_
      refine sx_putI (h2 := gm (sx_u (sx_u M 4 d 1) 3 3 ((M 3 3) + 1))) d_D_giveRest_34 fl_D_29 (go rfl rfl rfl) (by decide) (by decide) (by decide) (fun q hq => Or.inl (nf_D_3 q hq)) (Or.inl rfl) rfl ?_
      refine sx_aload_n d_D_giveRest_37 rfl ?_
      refine sx_callV (c_D_cwd (sx_u (sx_u M 4 d 1) 3 3 ((M 3 3) + 1)) (fun e he => by have := hI.1 e he; simp only [sx_u]; (repeat' split) <;> omega)) d_D_giveRest_38 cd_D_countWorkingDays lk_D_22 im_D_countWorkingDays se_D_countWorkingDays (go rfl rfl rfl) rfl rfl (by decide) (st := []) rfl rfl (Nat.le_of_ble_eq_true rfl) ⟨by decide, Nat.le_refl _, Nat.le_refl _⟩ (fun _ _ hq => ?_)
      obtain ⟨rfl, M2, rfl, hcw⟩ := hq
      show sx_V _ _ _ _ (0, 0) _ _ [] (gm M2) _
      refine sx_retV d_D_giveRest_41 rfl ⟨Nat.zero_le _, Nat.zero_le _⟩ ?_
      exact ⟨rfl, M2, rfl, gvr_of hI hR hd hr hcw⟩
set_option maxRecDepth 100000 in
set_option maxHeartbeats 4000000 in
theorem c_rest_ok {L : Nat} {xs : Nat → Int32} (M : Nat → Nat → Int) (hI : IDy M) (hR : IR M) (nw : Nat) (hnw : M 2 9 = (nw : Int)) (h6 : nw ≤ 6) (d : Nat) (hg : d < 200) (hr0 : M 4 d = 0) : sx_R y_T_rest (2, 0, 0) L xs [sx_p 1, .inl (d : Int)] (gm M) (fun v h2 => v = some (.inl 1) ∧ ∃ M1, gvr d M M1 ∧ ∃ M2, h2 = gm M2 ∧ fgt nw M1 M2) := by
  refine sx_enter rfl (Nat.le_of_ble_eq_true rfl) rfl ?_
  show sx_V y_T_rest (2, 0, 0) L xs (0, 0) 0 [some (sx_p 1), some (.inl (d : Int))] [] (gm M) _
  refine sx_iload_n d_T_rest_0 rfl ?_
  refine sx_iconst d_T_rest_1 ?_
  refine sx_sipush d_T_rest_2 (by decide) ?_
  refine sx_callS (z_of (c_isWithin M (d : Int) 0 199 (by omega) (by omega) (by omega))) d_T_rest_5 cd_T_isWithin lk_T_76 st_T_isWithin (st := []) rfl rfl (Nat.le_of_ble_eq_true rfl) ⟨by decide, Nat.le_refl _, Nat.le_refl _⟩ (fun _ _ hq => ?_)
  obtain ⟨z26, rfl, z26b, z26i, rfl⟩ := hq
  show sx_V _ _ _ _ (0, 0) _ _ [.inl z26] (gm M) _
  refine sx_if_eq (tgt := 25) d_T_rest_8 (by decide) (by omega) (fun c8_11 => ?_) (fun c8_11 => ?_)
  · omega
  · refine sx_aload_n d_T_rest_11 rfl ?_
    refine sx_getR (r := some (2)) d_T_rest_12 fl_T_10 (go rfl rfl rfl) (by decide) (by decide) (by decide) rfl ?_
    refine sx_getR (r := some (3)) d_T_rest_15 fl_T_115 (go rfl rfl rfl) (by decide) (by decide) (by decide) rfl ?_
    refine sx_iload_n d_T_rest_18 rfl ?_
    refine sx_callV (z_of (c_D_isWorking M hI (d : Int) (by omega))) d_T_rest_19 cd_D_isWorking lk_T_119 im_D_isWorking se_D_isWorking (go rfl rfl rfl) rfl rfl (by decide) (st := []) rfl rfl (Nat.le_of_ble_eq_true rfl) ⟨by decide, Nat.le_refl _, Nat.le_refl _⟩ (fun _ _ hq => ?_)
    obtain ⟨z27, rfl, z27b, z27i, rfl⟩ := hq
    show sx_V _ _ _ _ (0, 0) _ _ [.inl z27] (gm M) _
    refine sx_if_ne (tgt := 27) d_T_rest_22 (by decide) (by omega) (fun c22_20 => ?_) (fun c22_20 => ?_)
    · refine sx_aload_n d_T_rest_27 rfl ?_
      refine sx_getR (r := some (2)) d_T_rest_28 fl_T_10 (go rfl rfl rfl) (by decide) (by decide) (by decide) rfl ?_
      refine sx_getR (r := some (3)) d_T_rest_31 fl_T_115 (go rfl rfl rfl) (by decide) (by decide) (by decide) rfl ?_
      refine sx_iload_n d_T_rest_34 rfl ?_
      refine sx_callV (c_D_give M hI hR d (by omega) hr0) d_T_rest_35 cd_D_giveRest lk_T_124 im_D_giveRest se_D_giveRest (go rfl rfl rfl) rfl rfl (by decide) (st := []) rfl rfl (Nat.le_of_ble_eq_true rfl) ⟨by decide, Nat.le_refl _, Nat.le_refl _⟩ (fun _ _ hq => ?_)
      obtain ⟨rfl, g1, rfl, g1g⟩ := hq
      have g1R : IR g1 := g1g.2.2
      show sx_V _ _ _ _ (0, 0) _ _ [] (gm g1) _
      refine sx_aload_n d_T_rest_38 rfl ?_
      refine sx_callV (c_T_fgt g1 g1R nw (((g1g.1 2 9 (by decide) (by decide)).trans rfl).trans hnw) h6) d_T_rest_39 cd_T_forgetPlan lk_T_73 im_T_forgetPlan se_T_forgetPlan (go rfl rfl rfl) rfl rfl (by decide) (st := []) rfl rfl (Nat.le_of_ble_eq_true rfl) ⟨by decide, Nat.le_refl _, Nat.le_refl _⟩ (fun _ _ hq => ?_)
      obtain ⟨rfl, f6, rfl, f6g⟩ := hq
      show sx_V _ _ _ _ (0, 0) _ _ [] (gm f6) _
      refine sx_iconst d_T_rest_42 ?_
      refine sx_retI d_T_rest_43 (Or.inr ⟨rfl, by first | exact Or.inl rfl | exact Or.inr rfl | omega⟩) ⟨Nat.zero_le _, Nat.zero_le _⟩ ?_
      exact ⟨rfl, g1, g1g, f6, rfl, f6g⟩
    · exact absurd (z27i.mpr ⟨by omega, by simp [dr]; intro _; omega⟩) (by omega)
