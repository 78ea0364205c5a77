set_option maxRecDepth 100000 in
set_option maxHeartbeats 4000000 in
theorem c_L_first {L : Nat} {xs : Nat → Int32} (M : Nat → Nat → Int) (hR : IR M) (a b : Nat) (ha : a < 6) (hb : b < 6) : sx_R y_L_firstShared (1, 0, 0) L xs [sx_p 2, .inl (a : Int), .inl (b : Int)] (gm M) (fun v h2 => v = some (.inl (if M (14 + a) 2 < M (14 + b) 2 then M (14 + b) 2 else M (14 + a) 2)) ∧ h2 = gm M) := by
  refine sx_enter rfl (Nat.le_of_ble_eq_true rfl) rfl ?_
  show sx_V y_L_firstShared (1, 0, 0) L xs (0, 0) 0 [some (sx_p 2), some (.inl (a : Int)), some (.inl (b : Int))] [] (gm M) _
  refine sx_aload_n d_L_firstShared_0 rfl ?_
  refine sx_getR (r := some (8)) d_L_firstShared_1 fl_L_24 (go rfl rfl rfl) (by decide) (by decide) (by decide) rfl ?_
  refine sx_iload_n d_L_firstShared_4 rfl ?_
  refine sx_aald (r := some ((14 + a))) d_L_firstShared_5 (go rfl rfl rfl) (t := 0) rfl (by omega) (by omega) (by decide) (gr_w _ (by omega)) ?_
  refine sx_getI (z := (M (14 + a) 2)) d_L_firstShared_6 fl_L_61 (go_w _ (by omega)) (by decide) (by decide) (by decide) rfl ?_
  refine sx_aload_n d_L_firstShared_9 rfl ?_
  refine sx_getR (r := some (8)) d_L_firstShared_10 fl_L_24 (go rfl rfl rfl) (by decide) (by decide) (by decide) rfl ?_
  refine sx_iload_n d_L_firstShared_13 rfl ?_
  refine sx_aald (r := some ((14 + b))) d_L_firstShared_14 (go rfl rfl rfl) (t := 0) rfl (by omega) (by omega) (by decide) (gr_w _ (by omega)) ?_
  refine sx_getI (z := (M (14 + b) 2)) d_L_firstShared_15 fl_L_61 (go_w _ (by omega)) (by decide) (by decide) (by decide) rfl ?_
  refine sx_mmax d_L_firstShared_18 tw_486 tw_368 tw_11 tw_369 (by decide) (Nat.le_of_ble_eq_true rfl) (hR _ _) (hR _ _) ⟨by decide, by decide⟩ ?_
  refine sx_retI d_L_firstShared_21 (Or.inl rfl) ⟨by decide, by decide⟩ ?_
  exact ⟨rfl, rfl⟩
set_option maxRecDepth 100000 in
set_option maxHeartbeats 4000000 in
theorem c_L_last {L : Nat} {xs : Nat → Int32} (M : Nat → Nat → Int) (hR : IR M) (a b : Nat) (ha : a < 6) (hb : b < 6) : sx_R y_L_lastShared (1, 0, 0) L xs [sx_p 2, .inl (a : Int), .inl (b : Int)] (gm M) (fun v h2 => v = some (.inl (if M (14 + b) 3 < M (14 + a) 3 then M (14 + b) 3 else M (14 + a) 3)) ∧ h2 = gm M) := by
  refine sx_enter rfl (Nat.le_of_ble_eq_true rfl) rfl ?_
  show sx_V y_L_lastShared (1, 0, 0) L xs (0, 0) 0 [some (sx_p 2), some (.inl (a : Int)), some (.inl (b : Int))] [] (gm M) _
  refine sx_aload_n d_L_lastShared_0 rfl ?_
  refine sx_getR (r := some (8)) d_L_lastShared_1 fl_L_24 (go rfl rfl rfl) (by decide) (by decide) (by decide) rfl ?_
  refine sx_iload_n d_L_lastShared_4 rfl ?_
  refine sx_aald (r := some ((14 + a))) d_L_lastShared_5 (go rfl rfl rfl) (t := 0) rfl (by omega) (by omega) (by decide) (gr_w _ (by omega)) ?_
  refine sx_getI (z := (M (14 + a) 3)) d_L_lastShared_6 fl_L_64 (go_w _ (by omega)) (by decide) (by decide) (by decide) rfl ?_
  refine sx_aload_n d_L_lastShared_9 rfl ?_
  refine sx_getR (r := some (8)) d_L_lastShared_10 fl_L_24 (go rfl rfl rfl) (by decide) (by decide) (by decide) rfl ?_
  refine sx_iload_n d_L_lastShared_13 rfl ?_
  refine sx_aald (r := some ((14 + b))) d_L_lastShared_14 (go rfl rfl rfl) (t := 0) rfl (by omega) (by omega) (by decide) (gr_w _ (by omega)) ?_
  refine sx_getI (z := (M (14 + b) 3)) d_L_lastShared_15 fl_L_64 (go_w _ (by omega)) (by decide) (by decide) (by decide) rfl ?_
  refine sx_mmin d_L_lastShared_18 tw_481 tw_365 tw_11 tw_366 (by decide) (Nat.le_of_ble_eq_true rfl) (hR _ _) (hR _ _) ⟨by decide, by decide⟩ ?_
  refine sx_retI d_L_lastShared_21 (Or.inl rfl) ⟨by decide, by decide⟩ ?_
  exact ⟨rfl, rfl⟩
set_option maxRecDepth 100000 in
set_option maxHeartbeats 4000000 in
theorem c_L_endOf {L : Nat} {xs : Nat → Int32} (M : Nat → Nat → Int) (hI : IDy M) (hR : IR M) (w : Nat) (hw : w < 6) (hW : IW M w) (s : Int) (hs : 0 ≤ s ∧ s ≤ 1000000) : sx_R y_L_endOf (1, 0, 0) L xs [sx_p 2, .inl (w : Int), .inl s] (gm M) (fun v h2 => v = some (.inl (eT M w s)) ∧ h2 = gm M) := by
  refine sx_enter rfl (Nat.le_of_ble_eq_true rfl) rfl ?_
  show sx_V y_L_endOf (1, 0, 0) L xs (0, 0) 0 [some (sx_p 2), some (.inl (w : Int)), some (.inl s)] [] (gm M) _
  refine sx_aload_n d_L_endOf_0 rfl ?_
  refine sx_getR (r := some (3)) d_L_endOf_1 fl_L_12 (go rfl rfl rfl) (by decide) (by decide) (by decide) rfl ?_
  refine sx_aload_n d_L_endOf_4 rfl ?_
  refine sx_getR (r := some (3)) d_L_endOf_5 fl_L_12 (go rfl rfl rfl) (by decide) (by decide) (by decide) rfl ?_
  refine sx_iload_n d_L_endOf_8 rfl ?_
  refine sx_callV (c_D_before M hI s ⟨by omega, by omega⟩) d_L_endOf_9 cd_D_before lk_L_87 im_D_before se_D_before (go rfl rfl rfl) rfl rfl (by decide) (st := [sx_p 3]) rfl rfl (Nat.le_of_ble_eq_true rfl) ⟨by decide, by decide, by decide⟩ (fun _ _ hq => ?_)
  obtain ⟨rfl, rfl⟩ := hq
  show sx_V _ _ _ _ (0, 0) _ _ [.inl (Bd M s), sx_p 3] (gm M) _
  have bq := Bd_r M s
  have nq := hW.need
  refine sx_aload_n d_L_endOf_12 rfl ?_
  refine sx_getR (r := some (8)) d_L_endOf_13 fl_L_24 (go rfl rfl rfl) (by decide) (by decide) (by decide) rfl ?_
  refine sx_iload_n d_L_endOf_16 rfl ?_
  refine sx_aald (r := some ((14 + w))) d_L_endOf_17 (go rfl rfl rfl) (t := 0) rfl (by omega) (by omega) (by decide) (gr_w _ hw) ?_
  refine sx_getI (z := (M (14 + w) 5)) d_L_endOf_18 fl_L_91 (go_w _ hw) (by decide) (by decide) (by decide) rfl ?_
  refine sx_iadd d_L_endOf_21 ?_
  refine sx_iconst d_L_endOf_22 ?_
  refine sx_isub d_L_endOf_23 ?_
  refine sx_callV (c_D_dayOf M hI (((Bd M s) + (M (14 + w) 5)) - 1) ⟨by omega, by omega⟩ (by omega)) d_L_endOf_24 cd_D_dayOf lk_L_94 im_D_dayOf se_D_dayOf (go rfl rfl rfl) rfl rfl (by decide) (st := []) rfl rfl (Nat.le_of_ble_eq_true rfl) ⟨by decide, by decide, by decide⟩ (fun _ _ hq => ?_)
  obtain ⟨rfl, rfl⟩ := hq
  show sx_V _ _ _ _ (0, 0) _ _ [.inl (Dd M (((Bd M s) + (M (14 + w) 5)) - 1))] (gm M) _
  have dq := Dd_r M (((Bd M s) + (M (14 + w) 5)) - 1)
  refine sx_iconst d_L_endOf_27 ?_
  refine sx_iadd d_L_endOf_28 ?_
  refine sx_retI d_L_endOf_29 (Or.inl rfl) ⟨by decide, by decide⟩ ?_
  exact ⟨rfl, rfl⟩
set_option maxRecDepth 100000 in
set_option maxHeartbeats 4000000 in
theorem c_L_passTime {L : Nat} {xs : Nat → Int32} (M : Nat → Nat → Int) (hI : IDy M) (hR : IR M) (a b c : Nat) (ho : ∀ M, sx_o (gm M) a 2 2) (hb : ∀ M, sx_o (gm M) b 100 6) (hc : ∀ M, sx_o (gm M) c 100 6) (hab : ∀ M, (gm M).2.2.2 a 0 = some b) (hac : ∀ M, (gm M).2.2.2 a 1 = some c) (w : Nat) (hw : w < 6) (hW : IW M w) (p lv : Int) (hlv : sx_r lv) (hs : 0 ≤ M b w ∧ M b w ≤ 1000) (hx : 0 ≤ wx M w p (M c w) ∧ wx M w p (M c w) ≤ 200) : sx_R y_L_passTime (1, 0, 0) L xs [sx_p 2, .inl (w : Int), sx_p a, .inl p, .inl lv] (gm M) (fun v h2 => v = some (.inl (pT M w (M b w) (M c w) p lv)) ∧ h2 = gm M) := by
  refine sx_enter rfl (Nat.le_of_ble_eq_true rfl) rfl ?_
  show sx_V y_L_passTime (1, 0, 0) L xs (0, 0) 0 [some (sx_p 2), some (.inl (w : Int)), some (sx_p a), some (.inl p), some (.inl lv), none, none, none, none] [] (gm M) _
  refine sx_aload_n d_L_passTime_0 rfl ?_
  refine sx_getR (r := some (8)) d_L_passTime_1 fl_L_24 (go rfl rfl rfl) (by decide) (by decide) (by decide) rfl ?_
  refine sx_iload_n d_L_passTime_4 rfl ?_
  refine sx_aald (r := some ((14 + w))) d_L_passTime_5 (go rfl rfl rfl) (t := 0) rfl (by omega) (by omega) (by decide) (gr_w _ hw) ?_
  refine sx_astore (l' := [some (sx_p 2), some (.inl (w : Int)), some (sx_p a), some (.inl p), some (.inl lv), some (sx_p (14 + w)), none, none, none]) d_L_passTime_6 (by decide) rfl rfl ?_
  refine sx_aload d_L_passTime_8 rfl ?_
  refine sx_iload_n d_L_passTime_10 rfl ?_
  refine sx_aload_n d_L_passTime_11 rfl ?_
  refine sx_getR (r := some (c)) d_L_passTime_12 fl_L_97 (ho _) (by decide) (by decide) (by decide) (hac _) ?_
  refine sx_iload_n d_L_passTime_15 rfl ?_
  refine sx_iald (z := (M c w)) d_L_passTime_16 (hc _) (by omega) (by omega) (by decide) rfl ?_
  refine sx_callV (c_K_wayTo M w hw p (M c w) (hR _ _)) d_L_passTime_17 cd_K_wayTo lk_L_102 im_K_wayTo se_K_wayTo (go_w _ hw) rfl rfl (by decide) (st := []) rfl rfl (Nat.le_of_ble_eq_true rfl) ⟨by decide, by decide, by decide⟩ (fun _ _ hq => ?_)
  obtain ⟨rfl, rfl⟩ := hq
  show sx_V _ _ _ _ (0, 0) _ _ [.inl (wx M w p (M c w))] (gm M) _
  refine sx_istore (l' := [some (sx_p 2), some (.inl (w : Int)), some (sx_p a), some (.inl p), some (.inl lv), some (sx_p (14 + w)), some (.inl (wx M w p (M c w))), none, none]) d_L_passTime_20 (by decide) rfl rfl ?_
  refine sx_aload d_L_passTime_22 rfl ?_
  refine sx_iload d_L_passTime_24 rfl ?_
  refine sx_iload d_L_passTime_26 rfl ?_
  refine sx_callV (c_K_whole M hR w hw (wx M w p (M c w)) lv hx hlv ⟨hW.2.2.2.1, hW.2.2.2.2.1⟩ (by obtain ⟨q1, q2, q3, q4, q5, q6⟩ := hW; constructor <;> omega)) d_L_passTime_28 cd_K_wholeDays lk_L_105 im_K_wholeDays se_K_wholeDays (go_w _ hw) rfl rfl (by decide) (st := []) rfl rfl (Nat.le_of_ble_eq_true rfl) ⟨by decide, by decide, by decide⟩ (fun _ _ hq => ?_)
  obtain ⟨rfl, rfl⟩ := hq
  show sx_V _ _ _ _ (0, 0) _ _ [.inl (wh (M (14 + w) 4) (M (14 + w) 3 - M (14 + w) 2) (wx M w p (M c w)) lv)] (gm M) _
  have wq := wh_r (len := M (14 + w) 3 - M (14 + w) 2) (lv := lv) hx.1 hx.2 hW.2.2.2.1
  refine sx_istore (l' := [some (sx_p 2), some (.inl (w : Int)), some (sx_p a), some (.inl p), some (.inl lv), some (sx_p (14 + w)), some (.inl (wx M w p (M c w))), some (.inl (wh (M (14 + w) 4) (M (14 + w) 3 - M (14 + w) 2) (wx M w p (M c w)) lv)), none]) d_L_passTime_31 (by decide) rfl rfl ?_
  refine sx_aload_n d_L_passTime_33 rfl ?_
  refine sx_getR (r := some (3)) d_L_passTime_34 fl_L_12 (go rfl rfl rfl) (by decide) (by decide) (by decide) rfl ?_
  refine sx_aload_n d_L_passTime_37 rfl ?_
  refine sx_getR (r := some (3)) d_L_passTime_38 fl_L_12 (go rfl rfl rfl) (by decide) (by decide) (by decide) rfl ?_
  refine sx_aload_n d_L_passTime_41 rfl ?_
  refine sx_getR (r := some (b)) d_L_passTime_42 fl_L_109 (ho _) (by decide) (by decide) (by decide) (hab _) ?_
  refine sx_iload_n d_L_passTime_45 rfl ?_
  refine sx_iald (z := (M b w)) d_L_passTime_46 (hb _) (by omega) (by omega) (by decide) rfl ?_
  refine sx_callV (c_D_before M hI (M b w) ⟨by omega, by omega⟩) d_L_passTime_47 cd_D_before lk_L_87 im_D_before se_D_before (go rfl rfl rfl) rfl rfl (by decide) (st := [sx_p 3]) rfl rfl (Nat.le_of_ble_eq_true rfl) ⟨by decide, by decide, by decide⟩ (fun _ _ hq => ?_)
  obtain ⟨rfl, rfl⟩ := hq
  show sx_V _ _ _ _ (0, 0) _ _ [.inl (Bd M (M b w)), sx_p 3] (gm M) _
  have bq := Bd_r M (M b w)
  refine sx_iload d_L_passTime_50 rfl ?_
  refine sx_iadd d_L_passTime_52 ?_
  refine sx_callV (c_D_dayOf M hI ((Bd M (M b w)) + (wh (M (14 + w) 4) (M (14 + w) 3 - M (14 + w) 2) (wx M w p (M c w)) lv)) ⟨by omega, by omega⟩ (by omega)) d_L_passTime_53 cd_D_dayOf lk_L_94 im_D_dayOf se_D_dayOf (go rfl rfl rfl) rfl rfl (by decide) (st := []) rfl rfl (Nat.le_of_ble_eq_true rfl) ⟨by decide, by decide, by decide⟩ (fun _ _ hq => ?_)
  obtain ⟨rfl, rfl⟩ := hq
  show sx_V _ _ _ _ (0, 0) _ _ [.inl (Dd M ((Bd M (M b w)) + (wh (M (14 + w) 4) (M (14 + w) 3 - M (14 + w) 2) (wx M w p (M c w)) lv)))] (gm M) _
  have dq := Dd_r M ((Bd M (M b w)) + (wh (M (14 + w) 4) (M (14 + w) 3 - M (14 + w) 2) (wx M w p (M c w)) lv))
  refine sx_istore (l' := [some (sx_p 2), some (.inl (w : Int)), some (sx_p a), some (.inl p), some (.inl lv), some (sx_p (14 + w)), some (.inl (wx M w p (M c w))), some (.inl (wh (M (14 + w) 4) (M (14 + w) 3 - M (14 + w) 2) (wx M w p (M c w)) lv)), some (.inl (Dd M ((Bd M (M b w)) + (wh (M (14 + w) 4) (M (14 + w) 3 - M (14 + w) 2) (wx M w p (M c w)) lv))))]) d_L_passTime_56 (by decide) rfl rfl ?_
  refine sx_iload d_L_passTime_58 rfl ?_
  refine sx_aload d_L_passTime_60 rfl ?_
  refine sx_getI (z := (M (14 + w) 4)) d_L_passTime_62 fl_L_112 (go_w _ hw) (by decide) (by decide) (by decide) rfl ?_
  refine sx_imul d_L_passTime_65 ?_
  refine sx_iload d_L_passTime_66 rfl ?_
  refine sx_iadd d_L_passTime_68 ?_
  refine sx_iload d_L_passTime_69 rfl ?_
  refine sx_aload d_L_passTime_71 rfl ?_
  refine sx_getI (z := (M (14 + w) 4)) d_L_passTime_73 fl_L_112 (go_w _ hw) (by decide) (by decide) (by decide) rfl ?_
  refine sx_imul d_L_passTime_76 ?_
  refine sx_isub d_L_passTime_77 ?_
  refine sx_retI d_L_passTime_78 (Or.inl rfl) ⟨by decide, by decide⟩ ?_
  exact ⟨rfl, rfl⟩
set_option maxRecDepth 100000 in
set_option maxHeartbeats 4000000 in
theorem c_L_gap {L : Nat} {xs : Nat → Int32} (M : Nat → Nat → Int) (a b : Nat) (ha : a < 6) (hb : b < 6) : sx_R y_L_gapBetween (1, 0, 0) L xs [sx_p 2, .inl (a : Int), .inl (b : Int)] (gm M) (fun v h2 => v = some (.inl (M 9 (6 * a + b))) ∧ h2 = gm M) := by
  refine sx_enter rfl (Nat.le_of_ble_eq_true rfl) rfl ?_
  show sx_V y_L_gapBetween (1, 0, 0) L xs (0, 0) 0 [some (sx_p 2), some (.inl (a : Int)), some (.inl (b : Int)), none] [] (gm M) _
  refine sx_iload_n d_L_gapBetween_0 rfl ?_
  refine sx_iconst d_L_gapBetween_1 ?_
  refine sx_iconst d_L_gapBetween_2 ?_
  refine sx_callS (c_isWithin M (a : Int) 0 5 ⟨by omega, by omega⟩ ⟨by decide, by decide⟩ ⟨by decide, by decide⟩) d_L_gapBetween_3 cd_T_isWithin lk_L_51 st_T_isWithin (st := []) rfl rfl (Nat.le_of_ble_eq_true rfl) ⟨by decide, by decide, by decide⟩ (fun _ _ hq => ?_)
  obtain ⟨rfl, rfl⟩ := hq
  show sx_V _ _ _ _ (0, 0) _ _ [.inl (if 0 ≤ (a : Int) ∧ (a : Int) ≤ 5 then 1 else 0)] (gm M) _
  refine sx_if_eq (tgt := 22) d_L_gapBetween_6 (by decide) ⟨by split <;> omega, by split <;> omega⟩ (fun c6_11 => ?_) (fun c6_11 => ?_)
  · exact absurd c6_11 (by rw [if_pos (by omega)]; decide)
  · refine sx_iload_n d_L_gapBetween_9 rfl ?_
    refine sx_iconst d_L_gapBetween_10 ?_
    refine sx_iconst d_L_gapBetween_11 ?_
    refine sx_callS (c_isWithin M (b : Int) 0 5 ⟨by omega, by omega⟩ ⟨by decide, by decide⟩ ⟨by decide, by decide⟩) d_L_gapBetween_12 cd_T_isWithin lk_L_51 st_T_isWithin (st := []) rfl rfl (Nat.le_of_ble_eq_true rfl) ⟨by decide, by decide, by decide⟩ (fun _ _ hq => ?_)
    obtain ⟨rfl, rfl⟩ := hq
    show sx_V _ _ _ _ (0, 0) _ _ [.inl (if 0 ≤ (b : Int) ∧ (b : Int) ≤ 5 then 1 else 0)] (gm M) _
    refine sx_if_eq (tgt := 22) d_L_gapBetween_15 (by decide) ⟨by split <;> omega, by split <;> omega⟩ (fun c15_19 => ?_) (fun c15_19 => ?_)
    · exact absurd c15_19 (by rw [if_pos (by omega)]; decide)
    · refine sx_iconst d_L_gapBetween_18 ?_
      refine sx_goto (tgt := 23) d_L_gapBetween_19 (by decide) ?_
      refine sx_istore_n (l' := [some (sx_p 2), some (.inl (a : Int)), some (.inl (b : Int)), some (.inl 1)]) d_L_gapBetween_23 (by decide) rfl rfl ?_
      refine sx_iload_n d_L_gapBetween_24 rfl ?_
      refine sx_if_eq (tgt := 42) d_L_gapBetween_25 (by decide) ⟨by decide, by decide⟩ (fun c25_25 => ?_) (fun c25_25 => ?_)
      · exact absurd c25_25 (by decide)
      · refine sx_aload_n d_L_gapBetween_28 rfl ?_
        refine sx_getR (r := some (9)) d_L_gapBetween_29 fl_L_28 (go rfl rfl rfl) (by decide) (by decide) (by decide) rfl ?_
        refine sx_iload_n d_L_gapBetween_32 rfl ?_
        refine sx_bipush d_L_gapBetween_33 (by decide) ?_
        refine sx_imul d_L_gapBetween_35 ?_
        refine sx_iload_n d_L_gapBetween_36 rfl ?_
        refine sx_iadd d_L_gapBetween_37 ?_
        refine sx_iald (z := (M 9 (6 * a + b))) d_L_gapBetween_38 (go rfl rfl rfl) (by omega) (by omega) (by decide) (by show M 9 (Int.toNat (((a : Int) * 6) + (b : Int))) = _; rw [show (Int.toNat (((a : Int) * 6) + (b : Int))) = 6 * a + b by omega]) ?_
        refine sx_goto (tgt := 43) d_L_gapBetween_39 (by decide) ?_
        refine sx_retI d_L_gapBetween_43 (Or.inl rfl) ⟨by decide, by decide⟩ ?_
        exact ⟨rfl, rfl⟩
set_option maxRecDepth 100000 in
set_option maxHeartbeats 4000000 in
theorem c_L_setGap {L : Nat} {xs : Nat → Int32} (M : Nat → Nat → Int) (a b : Nat) (ha : a < 6) (hb : b < 6) (g : Int) : sx_R y_L_setGap (1, 0, 0) L xs [sx_p 2, .inl (a : Int), .inl (b : Int), .inl g] (gm M) (fun v h2 => v = none ∧ h2 = gm (sx_u M 9 (6 * a + b) g)) := by
  refine sx_enter rfl (Nat.le_of_ble_eq_true rfl) rfl ?_
  show sx_V y_L_setGap (1, 0, 0) L xs (0, 0) 0 [some (sx_p 2), some (.inl (a : Int)), some (.inl (b : Int)), some (.inl g)] [] (gm M) _
  refine sx_iload_n d_L_setGap_0 rfl ?_
  refine sx_iconst d_L_setGap_1 ?_
  refine sx_iconst d_L_setGap_2 ?_
  refine sx_callS (c_isWithin M (a : Int) 0 5 ⟨by omega, by omega⟩ ⟨by decide, by decide⟩ ⟨by decide, by decide⟩) d_L_setGap_3 cd_T_isWithin lk_L_51 st_T_isWithin (st := []) rfl rfl (Nat.le_of_ble_eq_true rfl) ⟨by decide, by decide, by decide⟩ (fun _ _ hq => ?_)
  obtain ⟨rfl, rfl⟩ := hq
  show sx_V _ _ _ _ (0, 0) _ _ [.inl (if 0 ≤ (a : Int) ∧ (a : Int) ≤ 5 then 1 else 0)] (gm M) _
  refine sx_if_eq (tgt := 30) d_L_setGap_6 (by decide) ⟨by split <;> omega, by split <;> omega⟩ (fun c6_11 => ?_) (fun c6_11 => ?_)
  · exact absurd c6_11 (by rw [if_pos (by omega)]; decide)
  · refine sx_iload_n d_L_setGap_9 rfl ?_
    refine sx_iconst d_L_setGap_10 ?_
    refine sx_iconst d_L_setGap_11 ?_
    refine sx_callS (c_isWithin M (b : Int) 0 5 ⟨by omega, by omega⟩ ⟨by decide, by decide⟩ ⟨by decide, by decide⟩) d_L_setGap_12 cd_T_isWithin lk_L_51 st_T_isWithin (st := []) rfl rfl (Nat.le_of_ble_eq_true rfl) ⟨by decide, by decide, by decide⟩ (fun _ _ hq => ?_)
    obtain ⟨rfl, rfl⟩ := hq
    show sx_V _ _ _ _ (0, 0) _ _ [.inl (if 0 ≤ (b : Int) ∧ (b : Int) ≤ 5 then 1 else 0)] (gm M) _
    refine sx_if_eq (tgt := 30) d_L_setGap_15 (by decide) ⟨by split <;> omega, by split <;> omega⟩ (fun c15_19 => ?_) (fun c15_19 => ?_)
    · exact absurd c15_19 (by rw [if_pos (by omega)]; decide)
    · refine sx_aload_n d_L_setGap_18 rfl ?_
      refine sx_getR (r := some (9)) d_L_setGap_19 fl_L_28 (go rfl rfl rfl) (by decide) (by decide) (by decide) rfl ?_
      refine sx_iload_n d_L_setGap_22 rfl ?_
      refine sx_bipush d_L_setGap_23 (by decide) ?_
      refine sx_imul d_L_setGap_25 ?_
      refine sx_iload_n d_L_setGap_26 rfl ?_
      refine sx_iadd d_L_setGap_27 ?_
      refine sx_iload_n d_L_setGap_28 rfl ?_
      refine sx_iast (h2 := gm (sx_u M 9 (Int.toNat (((a : Int) * 6) + (b : Int))) g)) d_L_setGap_29 (go rfl rfl rfl) (by omega) (by omega) (by decide) rfl ?_
      refine sx_retV d_L_setGap_30 rfl ⟨by decide, by decide⟩ ?_
      rw [show (Int.toNat (((a : Int) * 6) + (b : Int))) = 6 * a + b by omega]
      exact ⟨rfl, rfl⟩
set_option maxRecDepth 100000 in
set_option maxHeartbeats 4000000 in
theorem c_L_addCrew {L : Nat} {xs : Nat → Int32} (M : Nat → Nat → Int) (n : Nat) (hn : M 2 8 = (n : Int)) (h4 : n < 4) (kd : Int) : sx_R y_L_addCrew (0, 0, 0) L xs [sx_p 2, .inl kd] (gm M) (fun v h2 => v = some (.inl (n : Int)) ∧ h2 = gm (sx_u (sx_u M 7 n kd) 2 8 ((n : Int) + 1))) := by
  refine sx_enter rfl (Nat.le_of_ble_eq_true rfl) rfl ?_
  show sx_V y_L_addCrew (0, 0, 0) L xs (0, 0) 0 [some (sx_p 2), some (.inl kd)] [] (gm M) _
  refine sx_aload_n d_L_addCrew_0 rfl ?_
  refine sx_getI (z := (n : Int)) d_L_addCrew_1 fl_L_44 (go rfl rfl rfl) (by decide) (by decide) (by decide) hn ?_
  refine sx_iconst d_L_addCrew_4 ?_
  refine sx_icmp_lt (tgt := 10) d_L_addCrew_5 (by decide) ⟨by omega, by omega⟩ ⟨by decide, by decide⟩ (fun c5_8 => ?_) (fun c5_8 => ?_)
  · refine sx_aload_n d_L_addCrew_10 rfl ?_
    refine sx_getR (r := some (7)) d_L_addCrew_11 fl_L_18 (go rfl rfl rfl) (by decide) (by decide) (by decide) rfl ?_
    refine sx_aload_n d_L_addCrew_14 rfl ?_
    refine sx_getI (z := (n : Int)) d_L_addCrew_15 fl_L_44 (go rfl rfl rfl) (by decide) (by decide) (by decide) hn ?_
    refine sx_iload_n d_L_addCrew_18 rfl ?_
    refine sx_iast (h2 := gm (sx_u M 7 n kd)) d_L_addCrew_19 (go rfl rfl rfl) (by omega) (by omega) (by decide) rfl ?_
    refine sx_aload_n d_L_addCrew_20 rfl ?_
    refine sx_dup rfl d_L_addCrew_21 ?_
    refine sx_getI (z := (n : Int)) d_L_addCrew_22 fl_L_44 (go rfl rfl rfl) (by decide) (by decide) (by decide) hn ?_
    refine sx_iconst d_L_addCrew_25 ?_
    refine sx_iadd d_L_addCrew_26 ?_
    refine sx_putI (h2 := gm (sx_u (sx_u M 7 n kd) 2 8 ((n : Int) + 1))) d_L_addCrew_27 fl_L_44 (go rfl rfl rfl) (by decide) (by decide) (by decide) (fun q hq => Or.inl (nf_L_8 q hq)) (Or.inl rfl) rfl ?_
    refine sx_aload_n d_L_addCrew_30 rfl ?_
    refine sx_getI (z := ((n : Int) + 1)) d_L_addCrew_31 fl_L_44 (go rfl rfl rfl) (by decide) (by decide) (by decide) rfl ?_
    refine sx_iconst d_L_addCrew_34 ?_
    refine sx_isub d_L_addCrew_35 ?_
    refine sx_retI d_L_addCrew_36 (Or.inl rfl) ⟨by decide, by decide⟩ ?_
    refine ⟨?_, rfl⟩
    congr 2
    omega
  · omega
set_option maxRecDepth 100000 in
set_option maxHeartbeats 4000000 in
theorem c_L_addBar {L : Nat} {xs : Nat → Int32} (M : Nat → Nat → Int) (n : Nat) (hn : M 2 10 = (n : Int)) (h8 : n < 8) (w p u : Int) : sx_R y_L_addBar (0, 0, 0) L xs [sx_p 2, .inl w, .inl p, .inl u] (gm M) (fun v h2 => v = none ∧ h2 = gm (sx_u (sx_u (sx_u (sx_u M 11 n w) 12 n p) 13 n u) 2 10 ((n : Int) + 1))) := by
  refine sx_enter rfl (Nat.le_of_ble_eq_true rfl) rfl ?_
  show sx_V y_L_addBar (0, 0, 0) L xs (0, 0) 0 [some (sx_p 2), some (.inl w), some (.inl p), some (.inl u)] [] (gm M) _
  refine sx_aload_n d_L_addBar_0 rfl ?_
  refine sx_getI (z := (n : Int)) d_L_addBar_1 fl_L_75 (go rfl rfl rfl) (by decide) (by decide) (by decide) hn ?_
  refine sx_bipush d_L_addBar_4 (by decide) ?_
  refine sx_icmp_ge (tgt := 49) d_L_addBar_6 (by decide) ⟨by omega, by omega⟩ ⟨by decide, by decide⟩ (fun c6_8 => ?_) (fun c6_8 => ?_)
  · omega
  · refine sx_aload_n d_L_addBar_9 rfl ?_
    refine sx_getR (r := some (11)) d_L_addBar_10 fl_L_34 (go rfl rfl rfl) (by decide) (by decide) (by decide) rfl ?_
    refine sx_aload_n d_L_addBar_13 rfl ?_
    refine sx_getI (z := (n : Int)) d_L_addBar_14 fl_L_75 (go rfl rfl rfl) (by decide) (by decide) (by decide) hn ?_
    refine sx_iload_n d_L_addBar_17 rfl ?_
    refine sx_iast (h2 := gm (sx_u M 11 n w)) d_L_addBar_18 (go rfl rfl rfl) (by omega) (by omega) (by decide) rfl ?_
    refine sx_aload_n d_L_addBar_19 rfl ?_
    refine sx_getR (r := some (12)) d_L_addBar_20 fl_L_37 (go rfl rfl rfl) (by decide) (by decide) (by decide) rfl ?_
    refine sx_aload_n d_L_addBar_23 rfl ?_
    refine sx_getI (z := (n : Int)) d_L_addBar_24 fl_L_75 (go rfl rfl rfl) (by decide) (by decide) (by decide) hn ?_
    refine sx_iload_n d_L_addBar_27 rfl ?_
    refine sx_iast (h2 := gm (sx_u (sx_u M 11 n w) 12 n p)) d_L_addBar_28 (go rfl rfl rfl) (by omega) (by omega) (by decide) rfl ?_
    refine sx_aload_n d_L_addBar_29 rfl ?_
    refine sx_getR (r := some (13)) d_L_addBar_30 fl_L_40 (go rfl rfl rfl) (by decide) (by decide) (by decide) rfl ?_
    refine sx_aload_n d_L_addBar_33 rfl ?_
    refine sx_getI (z := (n : Int)) d_L_addBar_34 fl_L_75 (go rfl rfl rfl) (by decide) (by decide) (by decide) hn ?_
    refine sx_iload_n d_L_addBar_37 rfl ?_
    refine sx_iast (h2 := gm (sx_u (sx_u (sx_u M 11 n w) 12 n p) 13 n u)) d_L_addBar_38 (go rfl rfl rfl) (by omega) (by omega) (by decide) rfl ?_
    refine sx_aload_n d_L_addBar_39 rfl ?_
    refine sx_dup rfl d_L_addBar_40 ?_
    refine sx_getI (z := (n : Int)) d_L_addBar_41 fl_L_75 (go rfl rfl rfl) (by decide) (by decide) (by decide) hn ?_
    refine sx_iconst d_L_addBar_44 ?_
    refine sx_iadd d_L_addBar_45 ?_
    refine sx_putI (h2 := gm (sx_u (sx_u (sx_u (sx_u M 11 n w) 12 n p) 13 n u) 2 10 ((n : Int) + 1))) d_L_addBar_46 fl_L_75 (go rfl rfl rfl) (by decide) (by decide) (by decide) (fun q hq => Or.inl (nf_L_10 q hq)) (Or.inl rfl) rfl ?_
    refine sx_retV d_L_addBar_49 rfl ⟨by decide, by decide⟩ ?_
    exact ⟨rfl, rfl⟩
/-- where a work is at a day's beginning -/
noncomputable def aP (M : Nat → Nat → Int) (w : Nat) (s d day : Int) : Int := if d = 0 then M (14 + w) 2 + (if eT M w s ≤ day then M (14 + w) 3 - M (14 + w) 2 else if s < day then (Bd M day - Bd M s) * M (14 + w) 4 else 0) else M (14 + w) 3 - (if eT M w s ≤ day then M (14 + w) 3 - M (14 + w) 2 else if s < day then (Bd M day - Bd M s) * M (14 + w) 4 else 0)
set_option maxRecDepth 100000 in
set_option maxHeartbeats 4000000 in
theorem c_L_placeOn {L : Nat} {xs : Nat → Int32} (M : Nat → Nat → Int) (hI : IDy M) (hR : IR M) (a b c : Nat) (ho : ∀ M, sx_o (gm M) a 2 2) (hb : ∀ M, sx_o (gm M) b 100 6) (hc : ∀ M, sx_o (gm M) c 100 6) (hab : ∀ M, (gm M).2.2.2 a 0 = some b) (hac : ∀ M, (gm M).2.2.2 a 1 = some c) (w : Nat) (hw : w < 6) (hW : IW M w) (day : Int) (hd : sx_r day) (hs : 0 ≤ M b w ∧ M b w ≤ 1000000) : sx_R y_L_placeOn (2, 0, 0) L xs [sx_p 2, .inl (w : Int), sx_p a, .inl day] (gm M) (fun v h2 => v = some (.inl (aP M w (M b w) (M c w) day)) ∧ h2 = gm M) := by
  refine sx_enter rfl (Nat.le_of_ble_eq_true rfl) rfl ?_
  show sx_V y_L_placeOn (2, 0, 0) L xs (0, 0) 0 [some (sx_p 2), some (.inl (w : Int)), some (sx_p a), some (.inl day), none, none, none] [] (gm M) _
  refine sx_aload_n d_L_placeOn_0 rfl ?_
  refine sx_getR (r := some (8)) d_L_placeOn_1 fl_L_24 (go rfl rfl rfl) (by decide) (by decide) (by decide) rfl ?_
  refine sx_iload_n d_L_placeOn_4 rfl ?_
  refine sx_aald (r := some ((14 + w))) d_L_placeOn_5 (go rfl rfl rfl) (t := 0) rfl (by omega) (by omega) (by decide) (gr_w _ hw) ?_
  refine sx_astore (l' := [some (sx_p 2), some (.inl (w : Int)), some (sx_p a), some (.inl day), some (sx_p (14 + w)), none, none]) d_L_placeOn_6 (by decide) rfl rfl ?_
  refine sx_aload_n d_L_placeOn_8 rfl ?_
  refine sx_getR (r := some (b)) d_L_placeOn_9 fl_L_109 (ho _) (by decide) (by decide) (by decide) (hab _) ?_
  refine sx_iload_n d_L_placeOn_12 rfl ?_
  refine sx_iald (z := (M b w)) d_L_placeOn_13 (hb _) (by omega) (by omega) (by decide) rfl ?_
  refine sx_istore (l' := [some (sx_p 2), some (.inl (w : Int)), some (sx_p a), some (.inl day), some (sx_p (14 + w)), some (.inl (M b w)), none]) d_L_placeOn_14 (by decide) rfl rfl ?_
  refine sx_iconst d_L_placeOn_16 ?_
  refine sx_istore (l' := [some (sx_p 2), some (.inl (w : Int)), some (sx_p a), some (.inl day), some (sx_p (14 + w)), some (.inl (M b w)), some (.inl 0)]) d_L_placeOn_17 (by decide) rfl rfl ?_
  refine sx_iload_n d_L_placeOn_19 rfl ?_
  refine sx_aload_n d_L_placeOn_20 rfl ?_
  refine sx_iload_n d_L_placeOn_21 rfl ?_
  refine sx_iload d_L_placeOn_22 rfl ?_
  refine sx_callV (c_L_endOf M hI hR w hw hW (M b w) hs) d_L_placeOn_24 cd_L_endOf lk_L_115 im_L_endOf se_L_endOf (go rfl rfl rfl) rfl rfl (by decide) (st := [.inl day]) rfl rfl (Nat.le_of_ble_eq_true rfl) ⟨by decide, by decide, by decide⟩ (fun _ _ hq => ?_)
  obtain ⟨rfl, rfl⟩ := hq
  show sx_V _ _ _ _ (0, 0) _ _ [.inl (eT M w (M b w)), .inl day] (gm M) _
  refine sx_icmp_lt (tgt := 46) d_L_placeOn_27 (by decide) hd ⟨by have nq := hW.need; have eq1 := Bd_r M (M b w); have eq2 := Dd_r M (Bd M (M b w) + M (14 + w) 5 - 1); unfold eT; omega, by have nq := hW.need; have eq1 := Bd_r M (M b w); have eq2 := Dd_r M (Bd M (M b w) + M (14 + w) 5 - 1); unfold eT; omega⟩ (fun c27_24 => ?_) (fun c27_24 => ?_)
  · refine sx_iload_n d_L_placeOn_46 rfl ?_
    refine sx_iload d_L_placeOn_47 rfl ?_
    refine sx_icmp_le (tgt := 78) d_L_placeOn_49 (by decide) hd (hR _ _) (fun c49_27 => ?_) (fun c49_27 => ?_)
    · refine sx_aload_n d_L_placeOn_78 rfl ?_
      refine sx_getR (r := some (c)) d_L_placeOn_79 fl_L_97 (ho _) (by decide) (by decide) (by decide) (hac _) ?_
      refine sx_iload_n d_L_placeOn_82 rfl ?_
      refine sx_iald (z := (M c w)) d_L_placeOn_83 (hc _) (by omega) (by omega) (by decide) rfl ?_
      refine sx_if_ne (tgt := 98) d_L_placeOn_84 (by decide) (hR _ _) (fun c84_32 => ?_) (fun c84_32 => ?_)
      · refine sx_aload d_L_placeOn_98 rfl ?_
        refine sx_getI (z := (M (14 + w) 3)) d_L_placeOn_100 fl_L_64 (go_w _ hw) (by decide) (by decide) (by decide) rfl ?_
        refine sx_iload d_L_placeOn_103 rfl ?_
        refine sx_isub d_L_placeOn_105 ?_
        refine sx_retI d_L_placeOn_106 (Or.inl rfl) ⟨by decide, by decide⟩ ?_
        refine ⟨?_, rfl⟩
        congr 2
        unfold aP
        (repeat' first | rw [if_pos (by omega)] | rw [if_neg (by omega)])
        all_goals first | rfl | omega
      · refine sx_aload d_L_placeOn_87 rfl ?_
        refine sx_getI (z := (M (14 + w) 2)) d_L_placeOn_89 fl_L_61 (go_w _ hw) (by decide) (by decide) (by decide) rfl ?_
        refine sx_iload d_L_placeOn_92 rfl ?_
        refine sx_iadd d_L_placeOn_94 ?_
        refine sx_goto (tgt := 106) d_L_placeOn_95 (by decide) ?_
        refine sx_retI d_L_placeOn_106 (Or.inl rfl) ⟨by decide, by decide⟩ ?_
        refine ⟨?_, rfl⟩
        congr 2
        unfold aP
        (repeat' first | rw [if_pos (by omega)] | rw [if_neg (by omega)])
        all_goals first | rfl | omega
    · refine sx_aload_n d_L_placeOn_52 rfl ?_
      refine sx_getR (r := some (3)) d_L_placeOn_53 fl_L_12 (go rfl rfl rfl) (by decide) (by decide) (by decide) rfl ?_
      refine sx_iload_n d_L_placeOn_56 rfl ?_
      refine sx_callV (c_D_before M hI day hd) d_L_placeOn_57 cd_D_before lk_L_87 im_D_before se_D_before (go rfl rfl rfl) rfl rfl (by decide) (st := []) rfl rfl (Nat.le_of_ble_eq_true rfl) ⟨by decide, by decide, by decide⟩ (fun _ _ hq => ?_)
      obtain ⟨rfl, rfl⟩ := hq
      show sx_V _ _ _ _ (0, 0) _ _ [.inl (Bd M day)] (gm M) _
      have bq := Bd_r M day
      refine sx_aload_n d_L_placeOn_60 rfl ?_
      refine sx_getR (r := some (3)) d_L_placeOn_61 fl_L_12 (go rfl rfl rfl) (by decide) (by decide) (by decide) rfl ?_
      refine sx_iload d_L_placeOn_64 rfl ?_
      refine sx_callV (c_D_before M hI (M b w) (hR _ _)) d_L_placeOn_66 cd_D_before lk_L_87 im_D_before se_D_before (go rfl rfl rfl) rfl rfl (by decide) (st := [.inl (Bd M day)]) rfl rfl (Nat.le_of_ble_eq_true rfl) ⟨by decide, by decide, by decide⟩ (fun _ _ hq => ?_)
      obtain ⟨rfl, rfl⟩ := hq
      show sx_V _ _ _ _ (0, 0) _ _ [.inl (Bd M (M b w)), .inl (Bd M day)] (gm M) _
      have bq := Bd_r M (M b w)
      refine sx_isub d_L_placeOn_69 ?_
      refine sx_aload d_L_placeOn_70 rfl ?_
      refine sx_getI (z := (M (14 + w) 4)) d_L_placeOn_72 fl_L_112 (go_w _ hw) (by decide) (by decide) (by decide) rfl ?_
      refine sx_imul d_L_placeOn_75 ?_
      refine sx_istore (l' := [some (sx_p 2), some (.inl (w : Int)), some (sx_p a), some (.inl day), some (sx_p (14 + w)), some (.inl (M b w)), some (.inl (((Bd M day) - (Bd M (M b w))) * (M (14 + w) 4)))]) d_L_placeOn_76 (by decide) rfl rfl ?_
      refine sx_aload_n d_L_placeOn_78 rfl ?_
      refine sx_getR (r := some (c)) d_L_placeOn_79 fl_L_97 (ho _) (by decide) (by decide) (by decide) (hac _) ?_
      refine sx_iload_n d_L_placeOn_82 rfl ?_
      refine sx_iald (z := (M c w)) d_L_placeOn_83 (hc _) (by omega) (by omega) (by decide) rfl ?_
      refine sx_if_ne (tgt := 98) d_L_placeOn_84 (by decide) (hR _ _) (fun c84_77 => ?_) (fun c84_77 => ?_)
      · refine sx_aload d_L_placeOn_98 rfl ?_
        refine sx_getI (z := (M (14 + w) 3)) d_L_placeOn_100 fl_L_64 (go_w _ hw) (by decide) (by decide) (by decide) rfl ?_
        refine sx_iload d_L_placeOn_103 rfl ?_
        refine sx_isub d_L_placeOn_105 ?_
        refine sx_retI d_L_placeOn_106 (Or.inl rfl) ⟨by decide, by decide⟩ ?_
        refine ⟨?_, rfl⟩
        congr 2
        unfold aP
        (repeat' first | rw [if_pos (by omega)] | rw [if_neg (by omega)])
        all_goals first | rfl | omega
      · refine sx_aload d_L_placeOn_87 rfl ?_
        refine sx_getI (z := (M (14 + w) 2)) d_L_placeOn_89 fl_L_61 (go_w _ hw) (by decide) (by decide) (by decide) rfl ?_
        refine sx_iload d_L_placeOn_92 rfl ?_
        refine sx_iadd d_L_placeOn_94 ?_
        refine sx_goto (tgt := 106) d_L_placeOn_95 (by decide) ?_
        refine sx_retI d_L_placeOn_106 (Or.inl rfl) ⟨by decide, by decide⟩ ?_
        refine ⟨?_, rfl⟩
        congr 2
        unfold aP
        (repeat' first | rw [if_pos (by omega)] | rw [if_neg (by omega)])
        all_goals first | rfl | omega
  · refine sx_aload d_L_placeOn_30 rfl ?_
    refine sx_getI (z := (M (14 + w) 3)) d_L_placeOn_32 fl_L_64 (go_w _ hw) (by decide) (by decide) (by decide) rfl ?_
    refine sx_aload d_L_placeOn_35 rfl ?_
    refine sx_getI (z := (M (14 + w) 2)) d_L_placeOn_37 fl_L_61 (go_w _ hw) (by decide) (by decide) (by decide) rfl ?_
    refine sx_isub d_L_placeOn_40 ?_
    refine sx_istore (l' := [some (sx_p 2), some (.inl (w : Int)), some (sx_p a), some (.inl day), some (sx_p (14 + w)), some (.inl (M b w)), some (.inl ((M (14 + w) 3) - (M (14 + w) 2)))]) d_L_placeOn_41 (by decide) rfl rfl ?_
    refine sx_goto (tgt := 78) d_L_placeOn_43 (by decide) ?_
    refine sx_aload_n d_L_placeOn_78 rfl ?_
    refine sx_getR (r := some (c)) d_L_placeOn_79 fl_L_97 (ho _) (by decide) (by decide) (by decide) (hac _) ?_
    refine sx_iload_n d_L_placeOn_82 rfl ?_
    refine sx_iald (z := (M c w)) d_L_placeOn_83 (hc _) (by omega) (by omega) (by decide) rfl ?_
    refine sx_if_ne (tgt := 98) d_L_placeOn_84 (by decide) (hR _ _) (fun c84_110 => ?_) (fun c84_110 => ?_)
    · refine sx_aload d_L_placeOn_98 rfl ?_
      refine sx_getI (z := (M (14 + w) 3)) d_L_placeOn_100 fl_L_64 (go_w _ hw) (by decide) (by decide) (by decide) rfl ?_
      refine sx_iload d_L_placeOn_103 rfl ?_
      refine sx_isub d_L_placeOn_105 ?_
      refine sx_retI d_L_placeOn_106 (Or.inl rfl) ⟨by decide, by decide⟩ ?_
      refine ⟨?_, rfl⟩
      congr 2
      unfold aP
      (repeat' first | rw [if_pos (by omega)] | rw [if_neg (by omega)])
      all_goals first | rfl | omega
    · refine sx_aload d_L_placeOn_87 rfl ?_
      refine sx_getI (z := (M (14 + w) 2)) d_L_placeOn_89 fl_L_61 (go_w _ hw) (by decide) (by decide) (by decide) rfl ?_
      refine sx_iload d_L_placeOn_92 rfl ?_
      refine sx_iadd d_L_placeOn_94 ?_
      refine sx_goto (tgt := 106) d_L_placeOn_95 (by decide) ?_
      refine sx_retI d_L_placeOn_106 (Or.inl rfl) ⟨by decide, by decide⟩ ?_
      refine ⟨?_, rfl⟩
      congr 2
      unfold aP
      (repeat' first | rw [if_pos (by omega)] | rw [if_neg (by omega)])
      all_goals first | rfl | omega
set_option maxRecDepth 100000 in
set_option maxHeartbeats 4000000 in
theorem l_L_doc {L : Nat} {xs : Nat → Int32} (M : Nat → Nat → Int) (hR : IR M) (nw : Nat) (hnw : M 2 9 = (nw : Int)) (h6 : nw ≤ 6) (cr : Int) (hcr : sx_r cr) : ∀ (n i : Nat), nw - i < n → i ≤ nw → sx_V y_L_daysOfCrew (0, 0, 0) L xs (0, 0) 4 [some (sx_p 2), some (.inl cr), some (.inl (sm (fun j => if M (14 + j) 0 = cr then M (14 + j) 5 else 0) i)), some (.inl (i : Int))] [] (gm M) (fun v h2 => v = some (.inl (sm (fun j => if M (14 + j) 0 = cr then M (14 + j) 5 else 0) nw)) ∧ h2 = gm M) := by
  intro n
  induction n with
  | zero => intro i h1 h2; omega
  | succ n ih =>
    intro i hn hi
    refine sx_iload_n d_L_daysOfCrew_4 rfl ?_
    refine sx_aload_n d_L_daysOfCrew_5 rfl ?_
    refine sx_getI (z := (nw : Int)) d_L_daysOfCrew_6 fl_L_48 (go rfl rfl rfl) (by decide) (by decide) (by decide) hnw ?_
    refine sx_icmp_ge (tgt := 43) d_L_daysOfCrew_9 (by decide) ⟨by omega, by omega⟩ ⟨by omega, by omega⟩ (fun c9_11 => ?_) (fun c9_11 => ?_)
    · refine sx_iload_n d_L_daysOfCrew_43 rfl ?_
      refine sx_retI d_L_daysOfCrew_44 (Or.inl rfl) ⟨by decide, by decide⟩ ?_
      have e0 : i = nw := by omega
      subst e0
      exact ⟨rfl, rfl⟩
    · refine sx_aload_n d_L_daysOfCrew_12 rfl ?_
      refine sx_getR (r := some (8)) d_L_daysOfCrew_13 fl_L_24 (go rfl rfl rfl) (by decide) (by decide) (by decide) rfl ?_
      refine sx_iload_n d_L_daysOfCrew_16 rfl ?_
      refine sx_aald (r := some ((14 + i))) d_L_daysOfCrew_17 (go rfl rfl rfl) (t := 0) rfl (by omega) (by omega) (by decide) (gr_w _ (by omega)) ?_
      refine sx_getI (z := (M (14 + i) 0)) d_L_daysOfCrew_18 fl_L_55 (go_w _ (by omega)) (by decide) (by decide) (by decide) rfl ?_
      refine sx_iload_n d_L_daysOfCrew_21 rfl ?_
      refine sx_icmp_ne (tgt := 37) d_L_daysOfCrew_22 (by decide) (hR _ _) hcr (fun c22_23 => ?_) (fun c22_23 => ?_)
      · refine sx_iinc (l' := [some (sx_p 2), some (.inl cr), some (.inl (sm (fun j => if M (14 + j) 0 = cr then M (14 + j) 5 else 0) i)), some (.inl ((i : Int) + 1))]) d_L_daysOfCrew_37 rfl (by decide) rfl rfl ?_
        refine sx_goto (tgt := 4) d_L_daysOfCrew_40 (by decide) ?_
        have e1 : ((i : Int) + 1) = ((i + 1 : Nat) : Int) := by omega
        rw [e1]
        have e2 : (sm (fun j => if M (14 + j) 0 = cr then M (14 + j) 5 else 0) i) = sm (fun j => if M (14 + j) 0 = cr then M (14 + j) 5 else 0) (i + 1) := by (simp only [sm]; first | (rw [if_pos (by omega)]) | (rw [if_neg (by omega)]; omega))
        rw [e2]
        exact ih (i + 1) (by omega) (by omega)
      · refine sx_iload_n d_L_daysOfCrew_25 rfl ?_
        refine sx_aload_n d_L_daysOfCrew_26 rfl ?_
        refine sx_getR (r := some (8)) d_L_daysOfCrew_27 fl_L_24 (go rfl rfl rfl) (by decide) (by decide) (by decide) rfl ?_
        refine sx_iload_n d_L_daysOfCrew_30 rfl ?_
        refine sx_aald (r := some ((14 + i))) d_L_daysOfCrew_31 (go rfl rfl rfl) (t := 0) rfl (by omega) (by omega) (by decide) (gr_w _ (by omega)) ?_
        refine sx_getI (z := (M (14 + i) 5)) d_L_daysOfCrew_32 fl_L_91 (go_w _ (by omega)) (by decide) (by decide) (by decide) rfl ?_
        refine sx_iadd d_L_daysOfCrew_35 ?_
        refine sx_istore_n (l' := [some (sx_p 2), some (.inl cr), some (.inl ((sm (fun j => if M (14 + j) 0 = cr then M (14 + j) 5 else 0) i) + (M (14 + i) 5))), some (.inl (i : Int))]) d_L_daysOfCrew_36 (by decide) rfl rfl ?_
        refine sx_iinc (l' := [some (sx_p 2), some (.inl cr), some (.inl ((sm (fun j => if M (14 + j) 0 = cr then M (14 + j) 5 else 0) i) + (M (14 + i) 5))), some (.inl ((i : Int) + 1))]) d_L_daysOfCrew_37 rfl (by decide) rfl rfl ?_
        refine sx_goto (tgt := 4) d_L_daysOfCrew_40 (by decide) ?_
        have e1 : ((i : Int) + 1) = ((i + 1 : Nat) : Int) := by omega
        rw [e1]
        have e2 : ((sm (fun j => if M (14 + j) 0 = cr then M (14 + j) 5 else 0) i) + (M (14 + i) 5)) = sm (fun j => if M (14 + j) 0 = cr then M (14 + j) 5 else 0) (i + 1) := by (simp only [sm]; first | (rw [if_pos (by omega)]) | (rw [if_neg (by omega)]; omega))
        rw [e2]
        exact ih (i + 1) (by omega) (by omega)
set_option maxRecDepth 100000 in
set_option maxHeartbeats 4000000 in
theorem c_L_doc {L : Nat} {xs : Nat → Int32} (M : Nat → Nat → Int) (hR : IR M) (nw : Nat) (hnw : M 2 9 = (nw : Int)) (h6 : nw ≤ 6) (cr : Int) (hcr : sx_r cr) : sx_R y_L_daysOfCrew (0, 0, 0) L xs [sx_p 2, .inl cr] (gm M) (fun v h2 => v = some (.inl (sm (fun j => if M (14 + j) 0 = cr then M (14 + j) 5 else 0) nw)) ∧ h2 = gm M) := by
  refine sx_enter rfl (Nat.le_of_ble_eq_true rfl) rfl ?_
  show sx_V y_L_daysOfCrew (0, 0, 0) L xs (0, 0) 0 [some (sx_p 2), some (.inl cr), none, none] [] (gm M) _
  refine sx_iconst d_L_daysOfCrew_0 ?_
  refine sx_istore_n (l' := [some (sx_p 2), some (.inl cr), some (.inl 0), none]) d_L_daysOfCrew_1 (by decide) rfl rfl ?_
  refine sx_iconst d_L_daysOfCrew_2 ?_
  refine sx_istore_n (l' := [some (sx_p 2), some (.inl cr), some (.inl 0), some (.inl 0)]) d_L_daysOfCrew_3 (by decide) rfl rfl ?_
  exact l_L_doc M hR nw hnw h6 cr hcr (nw + 1) 0 (by omega) (by omega)
set_option maxRecDepth 100000 in
set_option maxHeartbeats 4000000 in
theorem l_L_frz {L : Nat} {xs : Nat → Int32} (M : Nat → Nat → Int) (hR : IR M) (nw : Nat) (hnw : M 2 9 = (nw : Int)) (h6 : nw ≤ 6) : ∀ (n i : Nat), nw - i < n → i ≤ nw → sx_V y_L_frozenWorks (0, 0, 0) L xs (0, 0) 4 [some (sx_p 2), some (.inl (sm (fun j => if M (14 + j) 10 = 0 then 0 else 1) i)), some (.inl (i : Int))] [] (gm M) (fun v h2 => v = some (.inl (sm (fun j => if M (14 + j) 10 = 0 then 0 else 1) nw)) ∧ h2 = gm M) := by
  intro n
  induction n with
  | zero => intro i h1 h2; omega
  | succ n ih =>
    intro i hn hi
    refine sx_iload_n d_L_frozenWorks_4 rfl ?_
    refine sx_aload_n d_L_frozenWorks_5 rfl ?_
    refine sx_getI (z := (nw : Int)) d_L_frozenWorks_6 fl_L_48 (go rfl rfl rfl) (by decide) (by decide) (by decide) hnw ?_
    refine sx_icmp_ge (tgt := 33) d_L_frozenWorks_9 (by decide) ⟨by omega, by omega⟩ ⟨by omega, by omega⟩ (fun c9_11 => ?_) (fun c9_11 => ?_)
    · refine sx_iload_n d_L_frozenWorks_33 rfl ?_
      refine sx_retI d_L_frozenWorks_34 (Or.inl rfl) ⟨by decide, by decide⟩ ?_
      have e0 : i = nw := by omega
      subst e0
      exact ⟨rfl, rfl⟩
    · refine sx_aload_n d_L_frozenWorks_12 rfl ?_
      refine sx_getR (r := some (8)) d_L_frozenWorks_13 fl_L_24 (go rfl rfl rfl) (by decide) (by decide) (by decide) rfl ?_
      refine sx_iload_n d_L_frozenWorks_16 rfl ?_
      refine sx_aald (r := some ((14 + i))) d_L_frozenWorks_17 (go rfl rfl rfl) (t := 0) rfl (by omega) (by omega) (by decide) (gr_w _ (by omega)) ?_
      refine sx_getI (z := (M (14 + i) 10)) d_L_frozenWorks_18 fl_L_118 (go_w _ (by omega)) (by decide) (by decide) (by decide) rfl ?_
      refine sx_if_eq (tgt := 27) d_L_frozenWorks_21 (by decide) (hR _ _) (fun c21_22 => ?_) (fun c21_22 => ?_)
      · refine sx_iinc (l' := [some (sx_p 2), some (.inl (sm (fun j => if M (14 + j) 10 = 0 then 0 else 1) i)), some (.inl ((i : Int) + 1))]) d_L_frozenWorks_27 rfl (by decide) rfl rfl ?_
        refine sx_goto (tgt := 4) d_L_frozenWorks_30 (by decide) ?_
        have e1 : ((i : Int) + 1) = ((i + 1 : Nat) : Int) := by omega
        rw [e1]
        have e2 : (sm (fun j => if M (14 + j) 10 = 0 then 0 else 1) i) = sm (fun j => if M (14 + j) 10 = 0 then 0 else 1) (i + 1) := by (simp only [sm]; first | (rw [if_pos (by omega)]; omega) | (rw [if_neg (by omega)]))
        rw [e2]
        exact ih (i + 1) (by omega) (by omega)
      · refine sx_iinc (l' := [some (sx_p 2), some (.inl ((sm (fun j => if M (14 + j) 10 = 0 then 0 else 1) i) + 1)), some (.inl (i : Int))]) d_L_frozenWorks_24 rfl (by decide) rfl rfl ?_
        refine sx_iinc (l' := [some (sx_p 2), some (.inl ((sm (fun j => if M (14 + j) 10 = 0 then 0 else 1) i) + 1)), some (.inl ((i : Int) + 1))]) d_L_frozenWorks_27 rfl (by decide) rfl rfl ?_
        refine sx_goto (tgt := 4) d_L_frozenWorks_30 (by decide) ?_
        have e1 : ((i : Int) + 1) = ((i + 1 : Nat) : Int) := by omega
        rw [e1]
        have e2 : ((sm (fun j => if M (14 + j) 10 = 0 then 0 else 1) i) + 1) = sm (fun j => if M (14 + j) 10 = 0 then 0 else 1) (i + 1) := by (simp only [sm]; first | (rw [if_pos (by omega)]; omega) | (rw [if_neg (by omega)]))
        rw [e2]
        exact ih (i + 1) (by omega) (by omega)
set_option maxRecDepth 100000 in
set_option maxHeartbeats 4000000 in
theorem c_L_frz {L : Nat} {xs : Nat → Int32} (M : Nat → Nat → Int) (hR : IR M) (nw : Nat) (hnw : M 2 9 = (nw : Int)) (h6 : nw ≤ 6) : sx_R y_L_frozenWorks (0, 0, 0) L xs [sx_p 2] (gm M) (fun v h2 => v = some (.inl (sm (fun j => if M (14 + j) 10 = 0 then 0 else 1) nw)) ∧ h2 = gm M) := by
  refine sx_enter rfl (Nat.le_of_ble_eq_true rfl) rfl ?_
  show sx_V y_L_frozenWorks (0, 0, 0) L xs (0, 0) 0 [some (sx_p 2), none, none] [] (gm M) _
  refine sx_iconst d_L_frozenWorks_0 ?_
  refine sx_istore_n (l' := [some (sx_p 2), some (.inl 0), none]) d_L_frozenWorks_1 (by decide) rfl rfl ?_
  refine sx_iconst d_L_frozenWorks_2 ?_
  refine sx_istore_n (l' := [some (sx_p 2), some (.inl 0), some (.inl 0)]) d_L_frozenWorks_3 (by decide) rfl rfl ?_
  exact l_L_frz M hR nw hnw h6 (nw + 1) 0 (by omega) (by omega)
