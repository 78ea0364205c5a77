set_option maxRecDepth 100000 in
set_option maxHeartbeats 4000000 in
theorem c_floorDiv {L : Nat} {xs : Nat → Int32} (M : Nat → Nat → Int) (x z : Int) (hx : sx_r x) (hz : sx_r z) (h0 : 0 < z) (hx2 : -2147483647 ≤ x) : sx_R y_J_floorDiv (0, 0, 0) L xs [.inl x, .inl z] (gm M) (fun v h2 => v = some (.inl (x / z)) ∧ h2 = gm M) := by
  refine sx_enter (by decide +kernel) (Nat.le_of_ble_eq_true rfl) rfl ?_
  show sx_V y_J_floorDiv (0, 0, 0) L xs (0, 0) 0 [some (.inl x), some (.inl z), none] [] (gm M) _
  refine sx_iload_n d_J_floorDiv_0 rfl ?_
  refine sx_iload_n d_J_floorDiv_1 rfl ?_
  refine sx_idiv d_J_floorDiv_2 hx hz (by omega) ?_
  refine sx_istore_n (l' := [some (.inl x), some (.inl z), some (.inl (Int.tdiv x z))]) d_J_floorDiv_3 (by decide) rfl rfl ?_
  refine sx_iload_n d_J_floorDiv_4 rfl ?_
  refine sx_iload_n d_J_floorDiv_5 rfl ?_
  refine sx_ixor d_J_floorDiv_6 ?_
  refine sx_if_ge (tgt := 21) d_J_floorDiv_7 (by decide) (sx_i32 _) (fun c7_12 => ?_) (fun c7_12 => ?_)
  · refine sx_iload_n d_J_floorDiv_21 rfl ?_
    refine sx_retI d_J_floorDiv_22 (Or.inl rfl) ⟨by decide, by decide⟩ ?_
    refine ⟨?_, rfl⟩
    congr 2
    rw [sx_fdiv h0]
    have xg := sx_xor_ge hx hz h0
    first | (rw [if_pos (by omega)]) | (rw [if_neg (by omega), if_pos (by omega)]) | (rw [if_neg (by omega), if_neg (by omega)])
  · refine sx_iload_n d_J_floorDiv_10 rfl ?_
    refine sx_iload_n d_J_floorDiv_11 rfl ?_
    refine sx_imul d_J_floorDiv_12 ?_
    refine sx_iload_n d_J_floorDiv_13 rfl ?_
    refine sx_icmp_eq (tgt := 21) d_J_floorDiv_14 (by decide) (sx_tdr hx h0) hx (fun c14_24 => ?_) (fun c14_24 => ?_)
    · refine sx_iload_n d_J_floorDiv_21 rfl ?_
      refine sx_retI d_J_floorDiv_22 (Or.inl rfl) ⟨by decide, by decide⟩ ?_
      refine ⟨?_, rfl⟩
      congr 2
      rw [sx_fdiv h0]
      have xg := sx_xor_ge hx hz h0
      first | (rw [if_pos (by omega)]) | (rw [if_neg (by omega), if_pos (by omega)]) | (rw [if_neg (by omega), if_neg (by omega)])
    · refine sx_iload_n d_J_floorDiv_17 rfl ?_
      refine sx_iconst d_J_floorDiv_18 ?_
      refine sx_isub d_J_floorDiv_19 ?_
      refine sx_retI d_J_floorDiv_20 (Or.inl rfl) ⟨by decide, by decide⟩ ?_
      refine ⟨?_, rfl⟩
      congr 2
      rw [sx_fdiv h0]
      have xg := sx_xor_ge hx hz h0
      first | (rw [if_pos (by omega)]) | (rw [if_neg (by omega), if_pos (by omega)]) | (rw [if_neg (by omega), if_neg (by omega)])
set_option maxRecDepth 100000 in
set_option maxHeartbeats 4000000 in
theorem c_R_fS {L : Nat} {xs : Nat → Int32} (M : Nat → Nat → Int) (hI : IDy M) (hR : IR M) (w : Nat) (hw : w < 6) (hW : IW M w) (x up lo : Int) (hx : 0 ≤ x ∧ x ≤ 200) (hl : 1 ≤ lo ∧ lo ≤ 50) (hu : -100000 ≤ up ∧ up ≤ 100000) : sx_R y_R_firstStart (1, 0, 0) L xs [sx_p 20, sx_p (14 + w), .inl x, .inl up, .inl lo] (gm M) (fun v h2 => v = some (.inl (fS M w x up lo)) ∧ h2 = gm M) := by
  refine sx_enter rfl (Nat.le_of_ble_eq_true rfl) rfl ?_
  show sx_V y_R_firstStart (1, 0, 0) L xs (0, 0) 0 [some (sx_p 20), some (sx_p (14 + w)), some (.inl x), some (.inl up), some (.inl lo), none, none, none, none] [] (gm M) _
  refine sx_aload_n d_R_firstStart_0 rfl ?_
  refine sx_iload_n d_R_firstStart_1 rfl ?_
  refine sx_iconst d_R_firstStart_2 ?_
  refine sx_callV (c_K_whole M hR w hw x 0 hx ⟨by decide, by decide⟩ ⟨hW.2.2.2.1, hW.2.2.2.2.1⟩ (by obtain ⟨q1, q2, q3, q4, q5, q6⟩ := hW; constructor <;> omega)) d_R_firstStart_3 cd_K_wholeDays lk_R_126 im_K_wholeDays se_K_wholeDays (go_w _ hw) rfl rfl (by decide) (st := []) rfl rfl (Nat.le_of_ble_eq_true rfl) ⟨by decide, by decide, by decide⟩ (fun _ _ hq => ?_)
  obtain ⟨rfl, rfl⟩ := hq
  show sx_V _ _ _ _ (0, 0) _ _ [.inl (wh (M (14 + w) 4) (M (14 + w) 3 - M (14 + w) 2) x 0)] (gm M) _
  have wq := wh_r (len := (M (14 + w) 3 - M (14 + w) 2)) (lv := 0) hx.1 hx.2 hW.2.2.2.1
  have nq := num_r (len := (M (14 + w) 3 - M (14 + w) 2)) (lv := 0) hx.1 ⟨hW.2.2.2.1, hW.2.2.2.2.1⟩ hl hu
  refine sx_istore (l' := [some (sx_p 20), some (sx_p (14 + w)), some (.inl x), some (.inl up), some (.inl lo), some (.inl (wh (M (14 + w) 4) (M (14 + w) 3 - M (14 + w) 2) x 0)), none, none, none]) d_R_firstStart_6 (by decide) rfl rfl ?_
  refine sx_iload_n d_R_firstStart_8 rfl ?_
  refine sx_iload d_R_firstStart_9 rfl ?_
  refine sx_aload_n d_R_firstStart_11 rfl ?_
  refine sx_getI (z := (M (14 + w) 4)) d_R_firstStart_12 fl_R_107 (go_w _ hw) (by decide) (by decide) (by decide) rfl ?_
  refine sx_imul d_R_firstStart_15 ?_
  refine sx_isub d_R_firstStart_16 ?_
  refine sx_istore (l' := [some (sx_p 20), some (sx_p (14 + w)), some (.inl x), some (.inl up), some (.inl lo), some (.inl (wh (M (14 + w) 4) (M (14 + w) 3 - M (14 + w) 2) x 0)), some (.inl (x - ((wh (M (14 + w) 4) (M (14 + w) 3 - M (14 + w) 2) x 0) * (M (14 + w) 4)))), none, none]) d_R_firstStart_17 (by decide) rfl rfl ?_
  refine sx_iload d_R_firstStart_19 rfl ?_
  refine sx_aload_n d_R_firstStart_21 rfl ?_
  refine sx_getI (z := (M (14 + w) 4)) d_R_firstStart_22 fl_R_107 (go_w _ hw) (by decide) (by decide) (by decide) rfl ?_
  refine sx_imul d_R_firstStart_25 ?_
  refine sx_istore (l' := [some (sx_p 20), some (sx_p (14 + w)), some (.inl x), some (.inl up), some (.inl lo), some (.inl (wh (M (14 + w) 4) (M (14 + w) 3 - M (14 + w) 2) x 0)), some (.inl (x - ((wh (M (14 + w) 4) (M (14 + w) 3 - M (14 + w) 2) x 0) * (M (14 + w) 4)))), some (.inl (lo * (M (14 + w) 4))), none]) d_R_firstStart_26 (by decide) rfl rfl ?_
  refine sx_iload d_R_firstStart_28 rfl ?_
  refine sx_iconst d_R_firstStart_30 ?_
  refine sx_icmp_ge (tgt := 38) d_R_firstStart_31 (by decide) (by omega) ⟨by decide, by decide⟩ (fun c31_28 => ?_) (fun c31_28 => ?_)
  · refine sx_iload d_R_firstStart_38 rfl ?_
    refine sx_iload d_R_firstStart_40 rfl ?_
    refine sx_imul d_R_firstStart_42 ?_
    refine sx_iload_n d_R_firstStart_43 rfl ?_
    refine sx_aload_n d_R_firstStart_44 rfl ?_
    refine sx_getI (z := (M (14 + w) 4)) d_R_firstStart_45 fl_R_107 (go_w _ hw) (by decide) (by decide) (by decide) rfl ?_
    refine sx_imul d_R_firstStart_48 ?_
    refine sx_isub d_R_firstStart_49 ?_
    refine sx_iload d_R_firstStart_50 rfl ?_
    refine sx_callS (c_floorDiv M (((x - ((wh (M (14 + w) 4) (M (14 + w) 3 - M (14 + w) 2) x 0) * (M (14 + w) 4))) * lo) - (up * (M (14 + w) 4))) (lo * (M (14 + w) 4)) (by omega) (by omega) (by omega) (by omega)) d_R_firstStart_52 cd_J_floorDiv lk_R_130 st_J_floorDiv (st := []) rfl rfl (Nat.le_of_ble_eq_true rfl) ⟨by decide, by decide, by decide⟩ (fun _ _ hq => ?_)
    obtain ⟨rfl, rfl⟩ := hq
    show sx_V _ _ _ _ (0, 0) _ _ [.inl ((((x - ((wh (M (14 + w) 4) (M (14 + w) 3 - M (14 + w) 2) x 0) * (M (14 + w) 4))) * lo) - (up * (M (14 + w) 4))) / (lo * (M (14 + w) 4)))] (gm M) _
    refine sx_ineg d_R_firstStart_55 ?_
    refine sx_istore (l' := [some (sx_p 20), some (sx_p (14 + w)), some (.inl x), some (.inl up), some (.inl lo), some (.inl (wh (M (14 + w) 4) (M (14 + w) 3 - M (14 + w) 2) x 0)), some (.inl (x - ((wh (M (14 + w) 4) (M (14 + w) 3 - M (14 + w) 2) x 0) * (M (14 + w) 4)))), some (.inl (lo * (M (14 + w) 4))), some (.inl (-((((x - ((wh (M (14 + w) 4) (M (14 + w) 3 - M (14 + w) 2) x 0) * (M (14 + w) 4))) * lo) - (up * (M (14 + w) 4))) / (lo * (M (14 + w) 4)))))]) d_R_firstStart_56 (by decide) rfl rfl ?_
    refine sx_aload_n d_R_firstStart_58 rfl ?_
    refine sx_getR (r := some (3)) d_R_firstStart_59 fl_R_28 (go rfl rfl rfl) (by decide) (by decide) (by decide) rfl ?_
    refine sx_iload d_R_firstStart_62 rfl ?_
    refine sx_callV (c_D_before M hI (-((((x - ((wh (M (14 + w) 4) (M (14 + w) 3 - M (14 + w) 2) x 0) * (M (14 + w) 4))) * lo) - (up * (M (14 + w) 4))) / (lo * (M (14 + w) 4)))) (by omega)) d_R_firstStart_64 cd_D_before lk_R_51 im_D_before se_D_before (go rfl rfl rfl) rfl rfl (by decide) (st := []) rfl rfl (Nat.le_of_ble_eq_true rfl) ⟨by decide, by decide, by decide⟩ (fun _ _ hq => ?_)
    obtain ⟨rfl, rfl⟩ := hq
    show sx_V _ _ _ _ (0, 0) _ _ [.inl (Bd M (-((((x - ((wh (M (14 + w) 4) (M (14 + w) 3 - M (14 + w) 2) x 0) * (M (14 + w) 4))) * lo) - (up * (M (14 + w) 4))) / (lo * (M (14 + w) 4)))))] (gm M) _
    have bq := Bd_r M (-((((x - ((wh (M (14 + w) 4) (M (14 + w) 3 - M (14 + w) 2) x 0) * (M (14 + w) 4))) * lo) - (up * (M (14 + w) 4))) / (lo * (M (14 + w) 4))))
    refine sx_iload d_R_firstStart_67 rfl ?_
    refine sx_isub d_R_firstStart_69 ?_
    refine sx_retI d_R_firstStart_70 (Or.inl rfl) ⟨by decide, by decide⟩ ?_
    exact ⟨rfl, rfl⟩
  · omega
theorem x_R_fS {L : Nat} {xs : Nat → Int32} {u : Nat} {M M1 : Nat → Nat → Int} (hf : fr u M M1) (hu0 : 20 < u) (hI : IDy M) (hR : IR M1) (w : Nat) (hw : w < 6) (hW : IW M w) (x up lo : Int) (hx : 0 ≤ x ∧ x ≤ 200) (hl : 1 ≤ lo ∧ lo ≤ 50) (hu : -100000 ≤ up ∧ up ≤ 100000) : sx_R y_R_firstStart (1, 0, 0) L xs [sx_p 20, sx_p (14 + w), .inl x, .inl up, .inl lo] (gm M1) (fun v h2 => v = some (.inl (fS M w x up lo)) ∧ h2 = gm M1) := by
  have h := c_R_fS (L := L) (xs := xs) M1 (fr_IDy hf hu0 hI) hR w hw (fr_IW hf hu0 hw hW) x up lo hx hl hu
  rw [fr_fS hf hu0 hw] at h
  exact h
set_option maxRecDepth 100000 in
set_option maxHeartbeats 4000000 in
theorem c_R_lS {L : Nat} {xs : Nat → Int32} (M : Nat → Nat → Int) (hI : IDy M) (hR : IR M) (w : Nat) (hw : w < 6) (hW : IW M w) (x up lo : Int) (hx : 0 ≤ x ∧ x ≤ 200) (hl : 1 ≤ lo ∧ lo ≤ 50) (hu : -100000 ≤ up ∧ up ≤ 100000) : sx_R y_R_lastStart (1, 0, 0) L xs [sx_p 20, sx_p (14 + w), .inl x, .inl up, .inl lo] (gm M) (fun v h2 => v = some (.inl (lS M w x up lo)) ∧ h2 = gm M) := by
  refine sx_enter rfl (Nat.le_of_ble_eq_true rfl) rfl ?_
  show sx_V y_R_lastStart (1, 0, 0) L xs (0, 0) 0 [some (sx_p 20), some (sx_p (14 + w)), some (.inl x), some (.inl up), some (.inl lo), none, none, none, none] [] (gm M) _
  refine sx_aload_n d_R_lastStart_0 rfl ?_
  refine sx_iload_n d_R_lastStart_1 rfl ?_
  refine sx_iconst d_R_lastStart_2 ?_
  refine sx_callV (c_K_whole M hR w hw x 1 hx ⟨by decide, by decide⟩ ⟨hW.2.2.2.1, hW.2.2.2.2.1⟩ (by obtain ⟨q1, q2, q3, q4, q5, q6⟩ := hW; constructor <;> omega)) d_R_lastStart_3 cd_K_wholeDays lk_R_126 im_K_wholeDays se_K_wholeDays (go_w _ hw) rfl rfl (by decide) (st := []) rfl rfl (Nat.le_of_ble_eq_true rfl) ⟨by decide, by decide, by decide⟩ (fun _ _ hq => ?_)
  obtain ⟨rfl, rfl⟩ := hq
  show sx_V _ _ _ _ (0, 0) _ _ [.inl (wh (M (14 + w) 4) (M (14 + w) 3 - M (14 + w) 2) x 1)] (gm M) _
  have wq := wh_r (len := (M (14 + w) 3 - M (14 + w) 2)) (lv := 1) hx.1 hx.2 hW.2.2.2.1
  have nq := num_r (len := (M (14 + w) 3 - M (14 + w) 2)) (lv := 1) hx.1 ⟨hW.2.2.2.1, hW.2.2.2.2.1⟩ hl hu
  refine sx_istore (l' := [some (sx_p 20), some (sx_p (14 + w)), some (.inl x), some (.inl up), some (.inl lo), some (.inl (wh (M (14 + w) 4) (M (14 + w) 3 - M (14 + w) 2) x 1)), none, none, none]) d_R_lastStart_6 (by decide) rfl rfl ?_
  refine sx_iload_n d_R_lastStart_8 rfl ?_
  refine sx_iload d_R_lastStart_9 rfl ?_
  refine sx_aload_n d_R_lastStart_11 rfl ?_
  refine sx_getI (z := (M (14 + w) 4)) d_R_lastStart_12 fl_R_107 (go_w _ hw) (by decide) (by decide) (by decide) rfl ?_
  refine sx_imul d_R_lastStart_15 ?_
  refine sx_isub d_R_lastStart_16 ?_
  refine sx_istore (l' := [some (sx_p 20), some (sx_p (14 + w)), some (.inl x), some (.inl up), some (.inl lo), some (.inl (wh (M (14 + w) 4) (M (14 + w) 3 - M (14 + w) 2) x 1)), some (.inl (x - ((wh (M (14 + w) 4) (M (14 + w) 3 - M (14 + w) 2) x 1) * (M (14 + w) 4)))), none, none]) d_R_lastStart_17 (by decide) rfl rfl ?_
  refine sx_iload d_R_lastStart_19 rfl ?_
  refine sx_aload_n d_R_lastStart_21 rfl ?_
  refine sx_getI (z := (M (14 + w) 4)) d_R_lastStart_22 fl_R_107 (go_w _ hw) (by decide) (by decide) (by decide) rfl ?_
  refine sx_imul d_R_lastStart_25 ?_
  refine sx_istore (l' := [some (sx_p 20), some (sx_p (14 + w)), some (.inl x), some (.inl up), some (.inl lo), some (.inl (wh (M (14 + w) 4) (M (14 + w) 3 - M (14 + w) 2) x 1)), some (.inl (x - ((wh (M (14 + w) 4) (M (14 + w) 3 - M (14 + w) 2) x 1) * (M (14 + w) 4)))), some (.inl (lo * (M (14 + w) 4))), none]) d_R_lastStart_26 (by decide) rfl rfl ?_
  refine sx_iload d_R_lastStart_28 rfl ?_
  refine sx_iconst d_R_lastStart_30 ?_
  refine sx_icmp_ge (tgt := 38) d_R_lastStart_31 (by decide) (by omega) ⟨by decide, by decide⟩ (fun c31_28 => ?_) (fun c31_28 => ?_)
  · refine sx_iload_n d_R_lastStart_38 rfl ?_
    refine sx_aload_n d_R_lastStart_39 rfl ?_
    refine sx_getI (z := (M (14 + w) 4)) d_R_lastStart_40 fl_R_107 (go_w _ hw) (by decide) (by decide) (by decide) rfl ?_
    refine sx_imul d_R_lastStart_43 ?_
    refine sx_iload d_R_lastStart_44 rfl ?_
    refine sx_iload d_R_lastStart_46 rfl ?_
    refine sx_imul d_R_lastStart_48 ?_
    refine sx_isub d_R_lastStart_49 ?_
    refine sx_iload d_R_lastStart_50 rfl ?_
    refine sx_callS (c_floorDiv M ((up * (M (14 + w) 4)) - ((x - ((wh (M (14 + w) 4) (M (14 + w) 3 - M (14 + w) 2) x 1) * (M (14 + w) 4))) * lo)) (lo * (M (14 + w) 4)) (by omega) (by omega) (by omega) (by omega)) d_R_lastStart_52 cd_J_floorDiv lk_R_130 st_J_floorDiv (st := []) rfl rfl (Nat.le_of_ble_eq_true rfl) ⟨by decide, by decide, by decide⟩ (fun _ _ hq => ?_)
    obtain ⟨rfl, rfl⟩ := hq
    show sx_V _ _ _ _ (0, 0) _ _ [.inl (((up * (M (14 + w) 4)) - ((x - ((wh (M (14 + w) 4) (M (14 + w) 3 - M (14 + w) 2) x 1) * (M (14 + w) 4))) * lo)) / (lo * (M (14 + w) 4)))] (gm M) _
    refine sx_istore (l' := [some (sx_p 20), some (sx_p (14 + w)), some (.inl x), some (.inl up), some (.inl lo), some (.inl (wh (M (14 + w) 4) (M (14 + w) 3 - M (14 + w) 2) x 1)), some (.inl (x - ((wh (M (14 + w) 4) (M (14 + w) 3 - M (14 + w) 2) x 1) * (M (14 + w) 4)))), some (.inl (lo * (M (14 + w) 4))), some (.inl (((up * (M (14 + w) 4)) - ((x - ((wh (M (14 + w) 4) (M (14 + w) 3 - M (14 + w) 2) x 1) * (M (14 + w) 4))) * lo)) / (lo * (M (14 + w) 4))))]) d_R_lastStart_55 (by decide) rfl rfl ?_
    refine sx_aload_n d_R_lastStart_57 rfl ?_
    refine sx_getR (r := some (3)) d_R_lastStart_58 fl_R_28 (go rfl rfl rfl) (by decide) (by decide) (by decide) rfl ?_
    refine sx_iload d_R_lastStart_61 rfl ?_
    refine sx_iconst d_R_lastStart_63 ?_
    refine sx_iadd d_R_lastStart_64 ?_
    refine sx_callV (c_D_before M hI ((((up * (M (14 + w) 4)) - ((x - ((wh (M (14 + w) 4) (M (14 + w) 3 - M (14 + w) 2) x 1) * (M (14 + w) 4))) * lo)) / (lo * (M (14 + w) 4))) + 1) (by omega)) d_R_lastStart_65 cd_D_before lk_R_51 im_D_before se_D_before (go rfl rfl rfl) rfl rfl (by decide) (st := []) rfl rfl (Nat.le_of_ble_eq_true rfl) ⟨by decide, by decide, by decide⟩ (fun _ _ hq => ?_)
    obtain ⟨rfl, rfl⟩ := hq
    show sx_V _ _ _ _ (0, 0) _ _ [.inl (Bd M ((((up * (M (14 + w) 4)) - ((x - ((wh (M (14 + w) 4) (M (14 + w) 3 - M (14 + w) 2) x 1) * (M (14 + w) 4))) * lo)) / (lo * (M (14 + w) 4))) + 1))] (gm M) _
    have bq := Bd_r M ((((up * (M (14 + w) 4)) - ((x - ((wh (M (14 + w) 4) (M (14 + w) 3 - M (14 + w) 2) x 1) * (M (14 + w) 4))) * lo)) / (lo * (M (14 + w) 4))) + 1)
    refine sx_iconst d_R_lastStart_68 ?_
    refine sx_isub d_R_lastStart_69 ?_
    refine sx_iload d_R_lastStart_70 rfl ?_
    refine sx_isub d_R_lastStart_72 ?_
    refine sx_retI d_R_lastStart_73 (Or.inl rfl) ⟨by decide, by decide⟩ ?_
    exact ⟨rfl, rfl⟩
  · omega
theorem x_R_lS {L : Nat} {xs : Nat → Int32} {u : Nat} {M M1 : Nat → Nat → Int} (hf : fr u M M1) (hu0 : 20 < u) (hI : IDy M) (hR : IR M1) (w : Nat) (hw : w < 6) (hW : IW M w) (x up lo : Int) (hx : 0 ≤ x ∧ x ≤ 200) (hl : 1 ≤ lo ∧ lo ≤ 50) (hu : -100000 ≤ up ∧ up ≤ 100000) : sx_R y_R_lastStart (1, 0, 0) L xs [sx_p 20, sx_p (14 + w), .inl x, .inl up, .inl lo] (gm M1) (fun v h2 => v = some (.inl (lS M w x up lo)) ∧ h2 = gm M1) := by
  have h := c_R_lS (L := L) (xs := xs) M1 (fr_IDy hf hu0 hI) hR w hw (fr_IW hf hu0 hw hW) x up lo hx hl hu
  rw [fr_lS hf hu0 hw] at h
  exact h
theorem x_L_passTime {L : Nat} {xs : Nat → Int32} {u : Nat} {M M1 : Nat → Nat → Int} (hf : fr u M M1) (hu0 : 20 < u) (hI : IDy M) (hR : IR M1) (a b c : Nat) (ho : ∀ M, sx_o (gm M) a 2 2) (hb : ∀ M, sx_o (gm M) b 100 6) (hc : ∀ M, sx_o (gm M) c 100 6) (hab : ∀ M, (gm M).2.2.2 a 0 = some b) (hac : ∀ M, (gm M).2.2.2 a 1 = some c) (hub : b ≠ u) (huc : c ≠ u) (w : Nat) (hw : w < 6) (hW : IW M w) (p lv : Int) (hlv : sx_r lv) (hs : 0 ≤ M b w ∧ M b w ≤ 1000) (hx : 0 ≤ wx M w p (M c w) ∧ wx M w p (M c w) ≤ 200) : sx_R y_L_passTime (1, 0, 0) L xs [sx_p 2, .inl (w : Int), sx_p a, .inl p, .inl lv] (gm M1) (fun v h2 => v = some (.inl (pT M w (M b w) (M c w) p lv)) ∧ h2 = gm M1) := by
  have e1 : M1 b w = M b w := hf b w hub
  have e2 : M1 c w = M c w := hf c w huc
  have h := c_L_passTime (L := L) (xs := xs) M1 (fr_IDy hf hu0 hI) hR a b c ho hb hc hab hac w hw (fr_IW hf hu0 hw hW) p lv hlv (by rw [e1]; exact hs) (by rw [fr_wx hf hu0 hw, e2]; exact hx)
  rw [fr_pT hf hu0 hw, e1, e2] at h
  exact h
