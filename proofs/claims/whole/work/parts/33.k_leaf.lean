/-- every number of the memory is an int -/
def IR (M : Nat → Nat → Int) : Prop := ∀ a k, sx_r (M a k)
theorem IR.u {M : Nat → Nat → Int} (h : IR M) (a k : Nat) {z : Int} (hz : sx_r z) : IR (sx_u M a k z) := by
  intro a2 k2
  unfold sx_u
  split
  · exact hz
  · exact h a2 k2
set_option maxRecDepth 100000 in
set_option maxHeartbeats 4000000 in
theorem c_isWithin {L : Nat} {xs : Nat → Int32} (M : Nat → Nat → Int) (x lo hi : Int) (hx : sx_r x) (hl : sx_r lo) (hh : sx_r hi) : sx_R y_T_isWithin (0, 0, 0) L xs [.inl x, .inl lo, .inl hi] (gm M) (fun v h2 => v = some (.inl (if lo ≤ x ∧ x ≤ hi then 1 else 0)) ∧ h2 = gm M) := by
  refine sx_enter rfl (Nat.le_of_ble_eq_true rfl) rfl ?_
  show sx_V y_T_isWithin (0, 0, 0) L xs (0, 0) 0 [some (.inl x), some (.inl lo), some (.inl hi)] [] (gm M) _
  refine sx_iload_n d_T_isWithin_0 rfl ?_
  refine sx_iload_n d_T_isWithin_1 rfl ?_
  refine sx_icmp_gt (tgt := 14) d_T_isWithin_2 (by decide) hl hx (fun c2_7 => ?_) (fun c2_7 => ?_)
  · refine sx_iconst d_T_isWithin_14 ?_
    refine sx_retI d_T_isWithin_15 (Or.inr ⟨rfl, by first | exact Or.inl rfl | exact Or.inr rfl | omega⟩) ⟨by decide, by decide⟩ ?_
    refine ⟨?_, rfl⟩
    congr 2
    first | rw [if_pos (by omega)] | rw [if_neg (by omega)]
  · refine sx_iload_n d_T_isWithin_5 rfl ?_
    refine sx_iload_n d_T_isWithin_6 rfl ?_
    refine sx_icmp_gt (tgt := 14) d_T_isWithin_7 (by decide) hx hh (fun c7_15 => ?_) (fun c7_15 => ?_)
    · refine sx_iconst d_T_isWithin_14 ?_
      refine sx_retI d_T_isWithin_15 (Or.inr ⟨rfl, by first | exact Or.inl rfl | exact Or.inr rfl | omega⟩) ⟨by decide, by decide⟩ ?_
      refine ⟨?_, rfl⟩
      congr 2
      first | rw [if_pos (by omega)] | rw [if_neg (by omega)]
    · refine sx_iconst d_T_isWithin_10 ?_
      refine sx_goto (tgt := 15) d_T_isWithin_11 (by decide) ?_
      refine sx_retI d_T_isWithin_15 (Or.inr ⟨rfl, by first | exact Or.inl rfl | exact Or.inr rfl | omega⟩) ⟨by decide, by decide⟩ ?_
      refine ⟨?_, rfl⟩
      congr 2
      first | rw [if_pos (by omega)] | rw [if_neg (by omega)]
set_option maxRecDepth 100000 in
set_option maxHeartbeats 4000000 in
theorem c_W_set {L : Nat} {xs : Nat → Int32} (M : Nat → Nat → Int) (a : Nat) (ho : ∀ M, sx_o (gm M) a 6 2) (x z : Int) : sx_R y_W_set (0, 0, 0) L xs [sx_p a, .inl x, .inl z] (gm M) (fun v h2 => v = none ∧ h2 = gm (sx_u (sx_u M a 0 x) a 1 z)) := by
  refine sx_enter rfl (Nat.le_of_ble_eq_true rfl) rfl ?_
  show sx_V y_W_set (0, 0, 0) L xs (0, 0) 0 [some (sx_p a), some (.inl x), some (.inl z)] [] (gm M) _
  refine sx_aload_n d_W_set_0 rfl ?_
  refine sx_iload_n d_W_set_1 rfl ?_
  refine sx_putI (h2 := gm (sx_u M a 0 x)) d_W_set_2 fl_W_7 (ho _) (by decide) (by decide) (by decide) (fun q hq => Or.inl (nf_W_0 q hq)) (Or.inl rfl) rfl ?_
  refine sx_aload_n d_W_set_5 rfl ?_
  refine sx_iload_n d_W_set_6 rfl ?_
  refine sx_putI (h2 := gm (sx_u (sx_u M a 0 x) a 1 z)) d_W_set_7 fl_W_13 (ho _) (by decide) (by decide) (by decide) (fun q hq => Or.inl (nf_W_1 q hq)) (Or.inl rfl) rfl ?_
  refine sx_retV d_W_set_10 rfl ⟨by decide, by decide⟩ ?_
  exact ⟨rfl, rfl⟩
set_option maxRecDepth 100000 in
set_option maxHeartbeats 4000000 in
theorem c_W_raise {L : Nat} {xs : Nat → Int32} (M : Nat → Nat → Int) (hR : IR M) (a : Nat) (ho : ∀ M, sx_o (gm M) a 6 2) (x : Int) (hx : sx_r x) : sx_R y_W_raiseLeast (1, 0, 0) L xs [sx_p a, .inl x] (gm M) (fun v h2 => v = none ∧ h2 = gm (sx_u M a 0 (if M a 0 < x then x else M a 0))) := by
  refine sx_enter rfl (Nat.le_of_ble_eq_true rfl) rfl ?_
  show sx_V y_W_raiseLeast (1, 0, 0) L xs (0, 0) 0 [some (sx_p a), some (.inl x)] [] (gm M) _
  refine sx_aload_n d_W_raiseLeast_0 rfl ?_
  refine sx_aload_n d_W_raiseLeast_1 rfl ?_
  refine sx_getI (z := (M a 0)) d_W_raiseLeast_2 fl_W_7 (ho _) (by decide) (by decide) (by decide) rfl ?_
  refine sx_iload_n d_W_raiseLeast_5 rfl ?_
  refine sx_mmax d_W_raiseLeast_6 tw_453 tw_368 tw_11 tw_369 (by decide) (Nat.le_of_ble_eq_true rfl) (hR _ _) hx ⟨by decide, by decide⟩ ?_
  refine sx_putI (h2 := gm (sx_u M a 0 (if (M a 0) < x then x else (M a 0)))) d_W_raiseLeast_9 fl_W_7 (ho _) (by decide) (by decide) (by decide) (fun q hq => Or.inl (nf_W_0 q hq)) (Or.inl rfl) rfl ?_
  refine sx_retV d_W_raiseLeast_12 rfl ⟨by decide, by decide⟩ ?_
  exact ⟨rfl, rfl⟩
set_option maxRecDepth 100000 in
set_option maxHeartbeats 4000000 in
theorem c_W_lower {L : Nat} {xs : Nat → Int32} (M : Nat → Nat → Int) (hR : IR M) (a : Nat) (ho : ∀ M, sx_o (gm M) a 6 2) (x : Int) (hx : sx_r x) : sx_R y_W_lowerGreatest (1, 0, 0) L xs [sx_p a, .inl x] (gm M) (fun v h2 => v = none ∧ h2 = gm (sx_u M a 1 (if x < M a 1 then x else M a 1))) := by
  refine sx_enter rfl (Nat.le_of_ble_eq_true rfl) rfl ?_
  show sx_V y_W_lowerGreatest (1, 0, 0) L xs (0, 0) 0 [some (sx_p a), some (.inl x)] [] (gm M) _
  refine sx_aload_n d_W_lowerGreatest_0 rfl ?_
  refine sx_aload_n d_W_lowerGreatest_1 rfl ?_
  refine sx_getI (z := (M a 1)) d_W_lowerGreatest_2 fl_W_13 (ho _) (by decide) (by decide) (by decide) rfl ?_
  refine sx_iload_n d_W_lowerGreatest_5 rfl ?_
  refine sx_mmin d_W_lowerGreatest_6 tw_506 tw_365 tw_11 tw_366 (by decide) (Nat.le_of_ble_eq_true rfl) (hR _ _) hx ⟨by decide, by decide⟩ ?_
  refine sx_putI (h2 := gm (sx_u M a 1 (if x < (M a 1) then x else (M a 1)))) d_W_lowerGreatest_9 fl_W_13 (ho _) (by decide) (by decide) (by decide) (fun q hq => Or.inl (nf_W_1 q hq)) (Or.inl rfl) rfl ?_
  refine sx_retV d_W_lowerGreatest_12 rfl ⟨by decide, by decide⟩ ?_
  exact ⟨rfl, rfl⟩
set_option maxRecDepth 100000 in
set_option maxHeartbeats 4000000 in
theorem c_W_holds {L : Nat} {xs : Nat → Int32} (M : Nat → Nat → Int) (hR : IR M) (a : Nat) (ho : ∀ M, sx_o (gm M) a 6 2) (x : Int) (hx : sx_r x) : sx_R y_W_holds (0, 0, 0) L xs [sx_p a, .inl x] (gm M) (fun v h2 => v = some (.inl (if M a 0 ≤ x ∧ x ≤ M a 1 then 1 else 0)) ∧ h2 = gm M) := by
  refine sx_enter rfl (Nat.le_of_ble_eq_true rfl) rfl ?_
  show sx_V y_W_holds (0, 0, 0) L xs (0, 0) 0 [some (sx_p a), some (.inl x)] [] (gm M) _
  refine sx_aload_n d_W_holds_0 rfl ?_
  refine sx_getI (z := (M a 0)) d_W_holds_1 fl_W_7 (ho _) (by decide) (by decide) (by decide) rfl ?_
  refine sx_iload_n d_W_holds_4 rfl ?_
  refine sx_icmp_gt (tgt := 20) d_W_holds_5 (by decide) (hR _ _) hx (fun c5_8 => ?_) (fun c5_8 => ?_)
  · refine sx_iconst d_W_holds_20 ?_
    refine sx_retI d_W_holds_21 (Or.inr ⟨rfl, by first | exact Or.inl rfl | exact Or.inr rfl | omega⟩) ⟨by decide, by decide⟩ ?_
    refine ⟨?_, rfl⟩
    congr 2
    first | rw [if_pos (by omega)] | rw [if_neg (by omega)]
  · refine sx_iload_n d_W_holds_8 rfl ?_
    refine sx_aload_n d_W_holds_9 rfl ?_
    refine sx_getI (z := (M a 1)) d_W_holds_10 fl_W_13 (ho _) (by decide) (by decide) (by decide) rfl ?_
    refine sx_icmp_gt (tgt := 20) d_W_holds_13 (by decide) hx (hR _ _) (fun c13_17 => ?_) (fun c13_17 => ?_)
    · refine sx_iconst d_W_holds_20 ?_
      refine sx_retI d_W_holds_21 (Or.inr ⟨rfl, by first | exact Or.inl rfl | exact Or.inr rfl | omega⟩) ⟨by decide, by decide⟩ ?_
      refine ⟨?_, rfl⟩
      congr 2
      first | rw [if_pos (by omega)] | rw [if_neg (by omega)]
    · refine sx_iconst d_W_holds_16 ?_
      refine sx_goto (tgt := 21) d_W_holds_17 (by decide) ?_
      refine sx_retI d_W_holds_21 (Or.inr ⟨rfl, by first | exact Or.inl rfl | exact Or.inr rfl | omega⟩) ⟨by decide, by decide⟩ ?_
      refine ⟨?_, rfl⟩
      congr 2
      first | rw [if_pos (by omega)] | rw [if_neg (by omega)]
set_option maxRecDepth 100000 in
set_option maxHeartbeats 4000000 in
theorem c_W_isEmpty {L : Nat} {xs : Nat → Int32} (M : Nat → Nat → Int) (hR : IR M) (a : Nat) (ho : ∀ M, sx_o (gm M) a 6 2) : sx_R y_W_isEmpty (0, 0, 0) L xs [sx_p a] (gm M) (fun v h2 => v = some (.inl (if M a 1 < M a 0 then 1 else 0)) ∧ h2 = gm M) := by
  refine sx_enter rfl (Nat.le_of_ble_eq_true rfl) rfl ?_
  show sx_V y_W_isEmpty (0, 0, 0) L xs (0, 0) 0 [some (sx_p a)] [] (gm M) _
  refine sx_aload_n d_W_isEmpty_0 rfl ?_
  refine sx_getI (z := (M a 0)) d_W_isEmpty_1 fl_W_7 (ho _) (by decide) (by decide) (by decide) rfl ?_
  refine sx_aload_n d_W_isEmpty_4 rfl ?_
  refine sx_getI (z := (M a 1)) d_W_isEmpty_5 fl_W_13 (ho _) (by decide) (by decide) (by decide) rfl ?_
  refine sx_icmp_le (tgt := 15) d_W_isEmpty_8 (by decide) (hR _ _) (hR _ _) (fun c8_9 => ?_) (fun c8_9 => ?_)
  · refine sx_iconst d_W_isEmpty_15 ?_
    refine sx_retI d_W_isEmpty_16 (Or.inr ⟨rfl, by first | exact Or.inl rfl | exact Or.inr rfl | omega⟩) ⟨by decide, by decide⟩ ?_
    refine ⟨?_, rfl⟩
    congr 2
    first | rw [if_pos (by omega)] | rw [if_neg (by omega)]
  · refine sx_iconst d_W_isEmpty_11 ?_
    refine sx_goto (tgt := 16) d_W_isEmpty_12 (by decide) ?_
    refine sx_retI d_W_isEmpty_16 (Or.inr ⟨rfl, by first | exact Or.inl rfl | exact Or.inr rfl | omega⟩) ⟨by decide, by decide⟩ ?_
    refine ⟨?_, rfl⟩
    congr 2
    first | rw [if_pos (by omega)] | rw [if_neg (by omega)]
set_option maxRecDepth 100000 in
set_option maxHeartbeats 4000000 in
theorem c_K_comesTo {L : Nat} {xs : Nat → Int32} (M : Nat → Nat → Int) (hR : IR M) (w : Nat) (hw : w < 6) (p : Int) (hp : sx_r p) : sx_R y_K_comesTo (0, 0, 0) L xs [sx_p (14 + w), .inl p] (gm M) (fun v h2 => v = some (.inl (if M (14 + w) 2 ≤ p ∧ p ≤ M (14 + w) 3 then 1 else 0)) ∧ h2 = gm M) := by
  refine sx_enter rfl (Nat.le_of_ble_eq_true rfl) rfl ?_
  show sx_V y_K_comesTo (0, 0, 0) L xs (0, 0) 0 [some (sx_p (14 + w)), some (.inl p)] [] (gm M) _
  refine sx_aload_n d_K_comesTo_0 rfl ?_
  refine sx_getI (z := (M (14 + w) 2)) d_K_comesTo_1 fl_K_30 (go_w _ hw) (by decide) (by decide) (by decide) rfl ?_
  refine sx_iload_n d_K_comesTo_4 rfl ?_
  refine sx_icmp_gt (tgt := 20) d_K_comesTo_5 (by decide) (hR _ _) hp (fun c5_8 => ?_) (fun c5_8 => ?_)
  · refine sx_iconst d_K_comesTo_20 ?_
    refine sx_retI d_K_comesTo_21 (Or.inr ⟨rfl, by first | exact Or.inl rfl | exact Or.inr rfl | omega⟩) ⟨by decide, by decide⟩ ?_
    refine ⟨?_, rfl⟩
    congr 2
    first | rw [if_pos (by omega)] | rw [if_neg (by omega)]
  · refine sx_iload_n d_K_comesTo_8 rfl ?_
    refine sx_aload_n d_K_comesTo_9 rfl ?_
    refine sx_getI (z := (M (14 + w) 3)) d_K_comesTo_10 fl_K_27 (go_w _ hw) (by decide) (by decide) (by decide) rfl ?_
    refine sx_icmp_gt (tgt := 20) d_K_comesTo_13 (by decide) hp (hR _ _) (fun c13_17 => ?_) (fun c13_17 => ?_)
    · refine sx_iconst d_K_comesTo_20 ?_
      refine sx_retI d_K_comesTo_21 (Or.inr ⟨rfl, by first | exact Or.inl rfl | exact Or.inr rfl | omega⟩) ⟨by decide, by decide⟩ ?_
      refine ⟨?_, rfl⟩
      congr 2
      first | rw [if_pos (by omega)] | rw [if_neg (by omega)]
    · refine sx_iconst d_K_comesTo_16 ?_
      refine sx_goto (tgt := 21) d_K_comesTo_17 (by decide) ?_
      refine sx_retI d_K_comesTo_21 (Or.inr ⟨rfl, by first | exact Or.inl rfl | exact Or.inr rfl | omega⟩) ⟨by decide, by decide⟩ ?_
      refine ⟨?_, rfl⟩
      congr 2
      first | rw [if_pos (by omega)] | rw [if_neg (by omega)]
set_option maxRecDepth 100000 in
set_option maxHeartbeats 4000000 in
theorem c_K_wayTo {L : Nat} {xs : Nat → Int32} (M : Nat → Nat → Int) (w : Nat) (hw : w < 6) (p d : Int) (hd : sx_r d) : sx_R y_K_wayTo (0, 0, 0) L xs [sx_p (14 + w), .inl p, .inl d] (gm M) (fun v h2 => v = some (.inl (if d = 0 then p - M (14 + w) 2 else M (14 + w) 3 - p)) ∧ h2 = gm M) := by
  refine sx_enter rfl (Nat.le_of_ble_eq_true rfl) rfl ?_
  show sx_V y_K_wayTo (0, 0, 0) L xs (0, 0) 0 [some (sx_p (14 + w)), some (.inl p), some (.inl d)] [] (gm M) _
  refine sx_iload_n d_K_wayTo_0 rfl ?_
  refine sx_if_ne (tgt := 13) d_K_wayTo_1 (by decide) hd (fun c1_6 => ?_) (fun c1_6 => ?_)
  · refine sx_aload_n d_K_wayTo_13 rfl ?_
    refine sx_getI (z := (M (14 + w) 3)) d_K_wayTo_14 fl_K_27 (go_w _ hw) (by decide) (by decide) (by decide) rfl ?_
    refine sx_iload_n d_K_wayTo_17 rfl ?_
    refine sx_isub d_K_wayTo_18 ?_
    refine sx_retI d_K_wayTo_19 (Or.inl rfl) ⟨by decide, by decide⟩ ?_
    refine ⟨?_, rfl⟩
    congr 2
    first | rw [if_pos (by omega)] | rw [if_neg (by omega)]
  · refine sx_iload_n d_K_wayTo_4 rfl ?_
    refine sx_aload_n d_K_wayTo_5 rfl ?_
    refine sx_getI (z := (M (14 + w) 2)) d_K_wayTo_6 fl_K_30 (go_w _ hw) (by decide) (by decide) (by decide) rfl ?_
    refine sx_isub d_K_wayTo_9 ?_
    refine sx_goto (tgt := 19) d_K_wayTo_10 (by decide) ?_
    refine sx_retI d_K_wayTo_19 (Or.inl rfl) ⟨by decide, by decide⟩ ?_
    refine ⟨?_, rfl⟩
    congr 2
    first | rw [if_pos (by omega)] | rw [if_neg (by omega)]
/-- whole days of going before the day of arriving at (leaving) a distance -/
def wh (v len x lv : Int) : Int := (if x = 0 ∨ (lv ≠ 0 ∧ x < len) then x else x - 1) / v
set_option maxRecDepth 100000 in
set_option maxHeartbeats 4000000 in
theorem c_K_whole {L : Nat} {xs : Nat → Int32} (M : Nat → Nat → Int) (hR : IR M) (w : Nat) (hw : w < 6) (x lv : Int) (hx : 0 ≤ x ∧ x ≤ 200) (hlv : sx_r lv) (hv : 1 ≤ M (14 + w) 4 ∧ M (14 + w) 4 ≤ 50) (hft : sx_r (M (14 + w) 3 - M (14 + w) 2)) : sx_R y_K_wholeDays (0, 0, 0) L xs [sx_p (14 + w), .inl x, .inl lv] (gm M) (fun v h2 => v = some (.inl (wh (M (14 + w) 4) (M (14 + w) 3 - M (14 + w) 2) x lv)) ∧ h2 = gm M) := by
  refine sx_enter rfl (Nat.le_of_ble_eq_true rfl) rfl ?_
  show sx_V y_K_wholeDays (0, 0, 0) L xs (0, 0) 0 [some (sx_p (14 + w)), some (.inl x), some (.inl lv), none] [] (gm M) _
  refine sx_iload_n d_K_wholeDays_0 rfl ?_
  refine sx_if_eq (tgt := 21) d_K_wholeDays_1 (by decide) ⟨by omega, by omega⟩ (fun c1_6 => ?_) (fun c1_6 => ?_)
  · refine sx_iconst d_K_wholeDays_21 ?_
    refine sx_goto (tgt := 26) d_K_wholeDays_22 (by decide) ?_
    refine sx_istore_n (l' := [some (sx_p (14 + w)), some (.inl x), some (.inl lv), some (.inl 1)]) d_K_wholeDays_26 (by decide) rfl rfl ?_
    refine sx_aload_n d_K_wholeDays_27 rfl ?_
    refine sx_getI (z := (M (14 + w) 4)) d_K_wholeDays_28 fl_K_9 (go_w _ hw) (by decide) (by decide) (by decide) rfl ?_
    refine sx_iconst d_K_wholeDays_31 ?_
    refine sx_icmp_ge (tgt := 39) d_K_wholeDays_32 (by decide) (hR _ _) ⟨by decide, by decide⟩ (fun c32_13 => ?_) (fun c32_13 => ?_)
    · refine sx_iload_n d_K_wholeDays_39 rfl ?_
      refine sx_if_eq (tgt := 47) d_K_wholeDays_40 (by decide) ⟨by decide, by decide⟩ (fun c40_15 => ?_) (fun c40_15 => ?_)
      · refine sx_iload_n d_K_wholeDays_47 rfl ?_
        refine sx_iconst d_K_wholeDays_48 ?_
        refine sx_isub d_K_wholeDays_49 ?_
        refine sx_aload_n d_K_wholeDays_50 rfl ?_
        refine sx_getI (z := (M (14 + w) 4)) d_K_wholeDays_51 fl_K_9 (go_w _ hw) (by decide) (by decide) (by decide) rfl ?_
        refine sx_idiv d_K_wholeDays_54 ⟨by omega, by omega⟩ (hR _ _) (by omega) ?_
        refine sx_retI d_K_wholeDays_55 (Or.inl rfl) ⟨by decide, by decide⟩ ?_
        refine ⟨?_, rfl⟩
        congr 2
        first | omega | (unfold wh; first | (rw [if_pos (by omega), Int.tdiv_eq_ediv_of_nonneg (by omega)]) | (rw [if_neg (by omega), Int.tdiv_eq_ediv_of_nonneg (by omega)]))
      · refine sx_iload_n d_K_wholeDays_43 rfl ?_
        refine sx_goto (tgt := 50) d_K_wholeDays_44 (by decide) ?_
        refine sx_aload_n d_K_wholeDays_50 rfl ?_
        refine sx_getI (z := (M (14 + w) 4)) d_K_wholeDays_51 fl_K_9 (go_w _ hw) (by decide) (by decide) (by decide) rfl ?_
        refine sx_idiv d_K_wholeDays_54 ⟨by omega, by omega⟩ (hR _ _) (by omega) ?_
        refine sx_retI d_K_wholeDays_55 (Or.inl rfl) ⟨by decide, by decide⟩ ?_
        refine ⟨?_, rfl⟩
        congr 2
        first | omega | (unfold wh; first | (rw [if_pos (by omega), Int.tdiv_eq_ediv_of_nonneg (by omega)]) | (rw [if_neg (by omega), Int.tdiv_eq_ediv_of_nonneg (by omega)]))
    · refine sx_iconst d_K_wholeDays_35 ?_
      refine sx_goto (tgt := 55) d_K_wholeDays_36 (by decide) ?_
      refine sx_retI d_K_wholeDays_55 (Or.inl rfl) ⟨by decide, by decide⟩ ?_
      refine ⟨?_, rfl⟩
      congr 2
      first | omega | (unfold wh; first | (rw [if_pos (by omega), Int.tdiv_eq_ediv_of_nonneg (by omega)]) | (rw [if_neg (by omega), Int.tdiv_eq_ediv_of_nonneg (by omega)]))
  · refine sx_iload_n d_K_wholeDays_4 rfl ?_
    refine sx_if_eq (tgt := 25) d_K_wholeDays_5 (by decide) hlv (fun c5_42 => ?_) (fun c5_42 => ?_)
    · refine sx_iconst d_K_wholeDays_25 ?_
      refine sx_istore_n (l' := [some (sx_p (14 + w)), some (.inl x), some (.inl lv), some (.inl 0)]) d_K_wholeDays_26 (by decide) rfl rfl ?_
      refine sx_aload_n d_K_wholeDays_27 rfl ?_
      refine sx_getI (z := (M (14 + w) 4)) d_K_wholeDays_28 fl_K_9 (go_w _ hw) (by decide) (by decide) (by decide) rfl ?_
      refine sx_iconst d_K_wholeDays_31 ?_
      refine sx_icmp_ge (tgt := 39) d_K_wholeDays_32 (by decide) (hR _ _) ⟨by decide, by decide⟩ (fun c32_48 => ?_) (fun c32_48 => ?_)
      · refine sx_iload_n d_K_wholeDays_39 rfl ?_
        refine sx_if_eq (tgt := 47) d_K_wholeDays_40 (by decide) ⟨by decide, by decide⟩ (fun c40_50 => ?_) (fun c40_50 => ?_)
        · refine sx_iload_n d_K_wholeDays_47 rfl ?_
          refine sx_iconst d_K_wholeDays_48 ?_
          refine sx_isub d_K_wholeDays_49 ?_
          refine sx_aload_n d_K_wholeDays_50 rfl ?_
          refine sx_getI (z := (M (14 + w) 4)) d_K_wholeDays_51 fl_K_9 (go_w _ hw) (by decide) (by decide) (by decide) rfl ?_
          refine sx_idiv d_K_wholeDays_54 ⟨by omega, by omega⟩ (hR _ _) (by omega) ?_
          refine sx_retI d_K_wholeDays_55 (Or.inl rfl) ⟨by decide, by decide⟩ ?_
          refine ⟨?_, rfl⟩
          congr 2
          first | omega | (unfold wh; first | (rw [if_pos (by omega), Int.tdiv_eq_ediv_of_nonneg (by omega)]) | (rw [if_neg (by omega), Int.tdiv_eq_ediv_of_nonneg (by omega)]))
        · refine sx_iload_n d_K_wholeDays_43 rfl ?_
          refine sx_goto (tgt := 50) d_K_wholeDays_44 (by decide) ?_
          refine sx_aload_n d_K_wholeDays_50 rfl ?_
          refine sx_getI (z := (M (14 + w) 4)) d_K_wholeDays_51 fl_K_9 (go_w _ hw) (by decide) (by decide) (by decide) rfl ?_
          refine sx_idiv d_K_wholeDays_54 ⟨by omega, by omega⟩ (hR _ _) (by omega) ?_
          refine sx_retI d_K_wholeDays_55 (Or.inl rfl) ⟨by decide, by decide⟩ ?_
          refine ⟨?_, rfl⟩
          congr 2
          first | omega | (unfold wh; first | (rw [if_pos (by omega), Int.tdiv_eq_ediv_of_nonneg (by omega)]) | (rw [if_neg (by omega), Int.tdiv_eq_ediv_of_nonneg (by omega)]))
      · refine sx_iconst d_K_wholeDays_35 ?_
        refine sx_goto (tgt := 55) d_K_wholeDays_36 (by decide) ?_
        refine sx_retI d_K_wholeDays_55 (Or.inl rfl) ⟨by decide, by decide⟩ ?_
        refine ⟨?_, rfl⟩
        congr 2
        first | omega | (unfold wh; first | (rw [if_pos (by omega), Int.tdiv_eq_ediv_of_nonneg (by omega)]) | (rw [if_neg (by omega), Int.tdiv_eq_ediv_of_nonneg (by omega)]))
    · refine sx_iload_n d_K_wholeDays_8 rfl ?_
      refine sx_aload_n d_K_wholeDays_9 rfl ?_
      refine sx_getI (z := (M (14 + w) 3)) d_K_wholeDays_10 fl_K_27 (go_w _ hw) (by decide) (by decide) (by decide) rfl ?_
      refine sx_aload_n d_K_wholeDays_13 rfl ?_
      refine sx_getI (z := (M (14 + w) 2)) d_K_wholeDays_14 fl_K_30 (go_w _ hw) (by decide) (by decide) (by decide) rfl ?_
      refine sx_isub d_K_wholeDays_17 ?_
      refine sx_icmp_ge (tgt := 25) d_K_wholeDays_18 (by decide) ⟨by omega, by omega⟩ hft (fun c18_82 => ?_) (fun c18_82 => ?_)
      · refine sx_iconst d_K_wholeDays_25 ?_
        refine sx_istore_n (l' := [some (sx_p (14 + w)), some (.inl x), some (.inl lv), some (.inl 0)]) d_K_wholeDays_26 (by decide) rfl rfl ?_
        refine sx_aload_n d_K_wholeDays_27 rfl ?_
        refine sx_getI (z := (M (14 + w) 4)) d_K_wholeDays_28 fl_K_9 (go_w _ hw) (by decide) (by decide) (by decide) rfl ?_
        refine sx_iconst d_K_wholeDays_31 ?_
        refine sx_icmp_ge (tgt := 39) d_K_wholeDays_32 (by decide) (hR _ _) ⟨by decide, by decide⟩ (fun c32_88 => ?_) (fun c32_88 => ?_)
        · refine sx_iload_n d_K_wholeDays_39 rfl ?_
          refine sx_if_eq (tgt := 47) d_K_wholeDays_40 (by decide) ⟨by decide, by decide⟩ (fun c40_90 => ?_) (fun c40_90 => ?_)
          · refine sx_iload_n d_K_wholeDays_47 rfl ?_
            refine sx_iconst d_K_wholeDays_48 ?_
            refine sx_isub d_K_wholeDays_49 ?_
            refine sx_aload_n d_K_wholeDays_50 rfl ?_
            refine sx_getI (z := (M (14 + w) 4)) d_K_wholeDays_51 fl_K_9 (go_w _ hw) (by decide) (by decide) (by decide) rfl ?_
            refine sx_idiv d_K_wholeDays_54 ⟨by omega, by omega⟩ (hR _ _) (by omega) ?_
            refine sx_retI d_K_wholeDays_55 (Or.inl rfl) ⟨by decide, by decide⟩ ?_
            refine ⟨?_, rfl⟩
            congr 2
            first | omega | (unfold wh; first | (rw [if_pos (by omega), Int.tdiv_eq_ediv_of_nonneg (by omega)]) | (rw [if_neg (by omega), Int.tdiv_eq_ediv_of_nonneg (by omega)]))
          · refine sx_iload_n d_K_wholeDays_43 rfl ?_
            refine sx_goto (tgt := 50) d_K_wholeDays_44 (by decide) ?_
            refine sx_aload_n d_K_wholeDays_50 rfl ?_
            refine sx_getI (z := (M (14 + w) 4)) d_K_wholeDays_51 fl_K_9 (go_w _ hw) (by decide) (by decide) (by decide) rfl ?_
            refine sx_idiv d_K_wholeDays_54 ⟨by omega, by omega⟩ (hR _ _) (by omega) ?_
            refine sx_retI d_K_wholeDays_55 (Or.inl rfl) ⟨by decide, by decide⟩ ?_
            refine ⟨?_, rfl⟩
            congr 2
            first | omega | (unfold wh; first | (rw [if_pos (by omega), Int.tdiv_eq_ediv_of_nonneg (by omega)]) | (rw [if_neg (by omega), Int.tdiv_eq_ediv_of_nonneg (by omega)]))
        · refine sx_iconst d_K_wholeDays_35 ?_
          refine sx_goto (tgt := 55) d_K_wholeDays_36 (by decide) ?_
          refine sx_retI d_K_wholeDays_55 (Or.inl rfl) ⟨by decide, by decide⟩ ?_
          refine ⟨?_, rfl⟩
          congr 2
          first | omega | (unfold wh; first | (rw [if_pos (by omega), Int.tdiv_eq_ediv_of_nonneg (by omega)]) | (rw [if_neg (by omega), Int.tdiv_eq_ediv_of_nonneg (by omega)]))
      · refine sx_iconst d_K_wholeDays_21 ?_
        refine sx_goto (tgt := 26) d_K_wholeDays_22 (by decide) ?_
        refine sx_istore_n (l' := [some (sx_p (14 + w)), some (.inl x), some (.inl lv), some (.inl 1)]) d_K_wholeDays_26 (by decide) rfl rfl ?_
        refine sx_aload_n d_K_wholeDays_27 rfl ?_
        refine sx_getI (z := (M (14 + w) 4)) d_K_wholeDays_28 fl_K_9 (go_w _ hw) (by decide) (by decide) (by decide) rfl ?_
        refine sx_iconst d_K_wholeDays_31 ?_
        refine sx_icmp_ge (tgt := 39) d_K_wholeDays_32 (by decide) (hR _ _) ⟨by decide, by decide⟩ (fun c32_122 => ?_) (fun c32_122 => ?_)
        · refine sx_iload_n d_K_wholeDays_39 rfl ?_
          refine sx_if_eq (tgt := 47) d_K_wholeDays_40 (by decide) ⟨by decide, by decide⟩ (fun c40_124 => ?_) (fun c40_124 => ?_)
          · refine sx_iload_n d_K_wholeDays_47 rfl ?_
            refine sx_iconst d_K_wholeDays_48 ?_
            refine sx_isub d_K_wholeDays_49 ?_
            refine sx_aload_n d_K_wholeDays_50 rfl ?_
            refine sx_getI (z := (M (14 + w) 4)) d_K_wholeDays_51 fl_K_9 (go_w _ hw) (by decide) (by decide) (by decide) rfl ?_
            refine sx_idiv d_K_wholeDays_54 ⟨by omega, by omega⟩ (hR _ _) (by omega) ?_
            refine sx_retI d_K_wholeDays_55 (Or.inl rfl) ⟨by decide, by decide⟩ ?_
            refine ⟨?_, rfl⟩
            congr 2
            first | omega | (unfold wh; first | (rw [if_pos (by omega), Int.tdiv_eq_ediv_of_nonneg (by omega)]) | (rw [if_neg (by omega), Int.tdiv_eq_ediv_of_nonneg (by omega)]))
          · refine sx_iload_n d_K_wholeDays_43 rfl ?_
            refine sx_goto (tgt := 50) d_K_wholeDays_44 (by decide) ?_
            refine sx_aload_n d_K_wholeDays_50 rfl ?_
            refine sx_getI (z := (M (14 + w) 4)) d_K_wholeDays_51 fl_K_9 (go_w _ hw) (by decide) (by decide) (by decide) rfl ?_
            refine sx_idiv d_K_wholeDays_54 ⟨by omega, by omega⟩ (hR _ _) (by omega) ?_
            refine sx_retI d_K_wholeDays_55 (Or.inl rfl) ⟨by decide, by decide⟩ ?_
            refine ⟨?_, rfl⟩
            congr 2
            first | omega | (unfold wh; first | (rw [if_pos (by omega), Int.tdiv_eq_ediv_of_nonneg (by omega)]) | (rw [if_neg (by omega), Int.tdiv_eq_ediv_of_nonneg (by omega)]))
        · refine sx_iconst d_K_wholeDays_35 ?_
          refine sx_goto (tgt := 55) d_K_wholeDays_36 (by decide) ?_
          refine sx_retI d_K_wholeDays_55 (Or.inl rfl) ⟨by decide, by decide⟩ ?_
          refine ⟨?_, rfl⟩
          congr 2
          first | omega | (unfold wh; first | (rw [if_pos (by omega), Int.tdiv_eq_ediv_of_nonneg (by omega)]) | (rw [if_neg (by omega), Int.tdiv_eq_ediv_of_nonneg (by omega)]))
set_option maxRecDepth 100000 in
set_option maxHeartbeats 4000000 in
theorem c_K_setSpeed {L : Nat} {xs : Nat → Int32} (M : Nat → Nat → Int) (hR : IR M) (w : Nat) (hw : w < 6) (p : Int) (hp : sx_r p) (hft : 0 ≤ M (14 + w) 3 - M (14 + w) 2 ∧ M (14 + w) 3 - M (14 + w) 2 ≤ 200) : sx_R y_K_setSpeed (1, 0, 0) L xs [sx_p (14 + w), .inl p] (gm M) (fun v h2 => v = none ∧ h2 = gm (sx_u (sx_u M (14 + w) 4 (if 1 < (if p < 50 then p else 50) then (if p < 50 then p else 50) else 1)) (14 + w) 5 ((M (14 + w) 3 - M (14 + w) 2 + (if 1 < (if p < 50 then p else 50) then (if p < 50 then p else 50) else 1) - 1) / (if 1 < (if p < 50 then p else 50) then (if p < 50 then p else 50) else 1)))) := by
  refine sx_enter rfl (Nat.le_of_ble_eq_true rfl) rfl ?_
  show sx_V y_K_setSpeed (1, 0, 0) L xs (0, 0) 0 [some (sx_p (14 + w)), some (.inl p)] [] (gm M) _
  refine sx_aload_n d_K_setSpeed_0 rfl ?_
  refine sx_iconst d_K_setSpeed_1 ?_
  refine sx_bipush d_K_setSpeed_2 (by decide) ?_
  refine sx_iload_n d_K_setSpeed_4 rfl ?_
  refine sx_mmin d_K_setSpeed_5 tw_364 tw_365 tw_11 tw_366 (by decide) (Nat.le_of_ble_eq_true rfl) ⟨by decide, by decide⟩ hp ⟨by decide, by decide⟩ ?_
  refine sx_mmax d_K_setSpeed_8 tw_367 tw_368 tw_11 tw_369 (by decide) (Nat.le_of_ble_eq_true rfl) ⟨by decide, by decide⟩ ⟨by split <;> (try split) <;> omega, by split <;> (try split) <;> omega⟩ ⟨by decide, by decide⟩ ?_
  refine sx_putI (h2 := gm (sx_u M (14 + w) 4 (if 1 < (if p < 50 then p else 50) then (if p < 50 then p else 50) else 1))) d_K_setSpeed_11 fl_K_9 (go_w _ hw) (by decide) (by decide) (by decide) (fun q hq => Or.inl (nf_K_4 q hq)) (Or.inl rfl) rfl ?_
  refine sx_aload_n d_K_setSpeed_14 rfl ?_
  refine sx_aload_n d_K_setSpeed_15 rfl ?_
  refine sx_getI (z := (if 1 < (if p < 50 then p else 50) then (if p < 50 then p else 50) else 1)) d_K_setSpeed_16 fl_K_9 (go_w _ hw) (by decide) (by decide) (by decide) sx_us ?_
  refine sx_iconst d_K_setSpeed_19 ?_
  refine sx_icmp_ge (tgt := 27) d_K_setSpeed_20 (by decide) ⟨by split <;> (try split) <;> omega, by split <;> (try split) <;> omega⟩ ⟨by decide, by decide⟩ (fun c20_16 => ?_) (fun c20_16 => ?_)
  · refine sx_aload_n d_K_setSpeed_27 rfl ?_
    refine sx_getI (z := (M (14 + w) 3)) d_K_setSpeed_28 fl_K_27 (go_w _ hw) (by decide) (by decide) (by decide) (by simp [gm, sx_u]) ?_
    refine sx_aload_n d_K_setSpeed_31 rfl ?_
    refine sx_getI (z := (M (14 + w) 2)) d_K_setSpeed_32 fl_K_30 (go_w _ hw) (by decide) (by decide) (by decide) (by simp [gm, sx_u]) ?_
    refine sx_isub d_K_setSpeed_35 ?_
    refine sx_aload_n d_K_setSpeed_36 rfl ?_
    refine sx_getI (z := (if 1 < (if p < 50 then p else 50) then (if p < 50 then p else 50) else 1)) d_K_setSpeed_37 fl_K_9 (go_w _ hw) (by decide) (by decide) (by decide) sx_us ?_
    refine sx_iadd d_K_setSpeed_40 ?_
    refine sx_iconst d_K_setSpeed_41 ?_
    refine sx_isub d_K_setSpeed_42 ?_
    refine sx_aload_n d_K_setSpeed_43 rfl ?_
    refine sx_getI (z := (if 1 < (if p < 50 then p else 50) then (if p < 50 then p else 50) else 1)) d_K_setSpeed_44 fl_K_9 (go_w _ hw) (by decide) (by decide) (by decide) sx_us ?_
    refine sx_idiv d_K_setSpeed_47 ⟨by split <;> (try split) <;> omega, by split <;> (try split) <;> omega⟩ ⟨by split <;> (try split) <;> omega, by split <;> (try split) <;> omega⟩ (by split <;> (try split) <;> omega) ?_
    refine sx_putI (h2 := gm (sx_u (sx_u M (14 + w) 4 (if 1 < (if p < 50 then p else 50) then (if p < 50 then p else 50) else 1)) (14 + w) 5 (Int.tdiv ((((M (14 + w) 3) - (M (14 + w) 2)) + (if 1 < (if p < 50 then p else 50) then (if p < 50 then p else 50) else 1)) - 1) (if 1 < (if p < 50 then p else 50) then (if p < 50 then p else 50) else 1)))) d_K_setSpeed_48 fl_K_33 (go_w _ hw) (by decide) (by decide) (by decide) (fun q hq => Or.inl (nf_K_5 q hq)) (Or.inl rfl) rfl ?_
    refine sx_retV d_K_setSpeed_51 rfl ⟨by decide, by decide⟩ ?_
    refine ⟨rfl, ?_⟩
    first | (exfalso; split at * <;> omega) | (rw [Int.tdiv_eq_ediv_of_nonneg (by split <;> (try split) <;> omega)])
  · refine sx_iconst d_K_setSpeed_23 ?_
    refine sx_goto (tgt := 48) d_K_setSpeed_24 (by decide) ?_
    refine sx_putI (h2 := gm (sx_u (sx_u M (14 + w) 4 (if 1 < (if p < 50 then p else 50) then (if p < 50 then p else 50) else 1)) (14 + w) 5 0)) d_K_setSpeed_48 fl_K_33 (go_w _ hw) (by decide) (by decide) (by decide) (fun q hq => Or.inl (nf_K_5 q hq)) (Or.inl rfl) rfl ?_
    refine sx_retV d_K_setSpeed_51 rfl ⟨by decide, by decide⟩ ?_
    refine ⟨rfl, ?_⟩
    first | (exfalso; split at * <;> omega) | (rw [Int.tdiv_eq_ediv_of_nonneg (by split <;> (try split) <;> omega)])
set_option maxRecDepth 100000 in
set_option maxHeartbeats 4000000 in
theorem c_P_put {L : Nat} {xs : Nat → Int32} (M : Nat → Nat → Int) (a b c : Nat) (ho : ∀ M, sx_o (gm M) a 2 2) (hb : ∀ M, sx_o (gm M) b 100 6) (hc : ∀ M, sx_o (gm M) c 100 6) (hab : ∀ M, (gm M).2.2.2 a 0 = some b) (hac : ∀ M, (gm M).2.2.2 a 1 = some c) (w : Nat) (hw : w < 6) (s d : Int) : sx_R y_P_put (1, 0, 0) L xs [sx_p a, .inl (w : Int), .inl s, .inl d] (gm M) (fun v h2 => v = none ∧ h2 = gm (sx_u (sx_u M b w s) c w d)) := by
  refine sx_enter rfl (Nat.le_of_ble_eq_true rfl) rfl ?_
  show sx_V y_P_put (1, 0, 0) L xs (0, 0) 0 [some (sx_p a), some (.inl (w : Int)), some (.inl s), some (.inl d)] [] (gm M) _
  refine sx_iload_n d_P_put_0 rfl ?_
  refine sx_iconst d_P_put_1 ?_
  refine sx_iconst d_P_put_2 ?_
  refine sx_callS (c_isWithin M (w : Int) 0 5 ⟨by omega, by omega⟩ ⟨by decide, by decide⟩ ⟨by decide, by decide⟩) d_P_put_3 cd_T_isWithin lk_P_18 st_T_isWithin (st := []) rfl rfl (Nat.le_of_ble_eq_true rfl) ⟨by decide, by decide, by decide⟩ (fun _ _ hq => ?_)
  obtain ⟨rfl, rfl⟩ := hq
  show sx_V _ _ _ _ (0, 0) _ _ [.inl (if 0 ≤ (w : Int) ∧ (w : Int) ≤ 5 then 1 else 0)] (gm M) _
  refine sx_if_eq (tgt := 23) d_P_put_6 (by decide) ⟨by split <;> omega, by split <;> omega⟩ (fun c6_11 => ?_) (fun c6_11 => ?_)
  · exact absurd c6_11 (by rw [if_pos (by omega)]; decide)
  · refine sx_aload_n d_P_put_9 rfl ?_
    refine sx_getR (r := some (b)) d_P_put_10 fl_P_9 (ho _) (by decide) (by decide) (by decide) (hab _) ?_
    refine sx_iload_n d_P_put_13 rfl ?_
    refine sx_iload_n d_P_put_14 rfl ?_
    refine sx_iast (h2 := gm (sx_u M b w s)) d_P_put_15 (hb _) (by omega) (by omega) (by decide) rfl ?_
    refine sx_aload_n d_P_put_16 rfl ?_
    refine sx_getR (r := some (c)) d_P_put_17 fl_P_15 (ho _) (by decide) (by decide) (by decide) (hac _) ?_
    refine sx_iload_n d_P_put_20 rfl ?_
    refine sx_iload_n d_P_put_21 rfl ?_
    refine sx_iast (h2 := gm (sx_u (sx_u M b w s) c w d)) d_P_put_22 (hc _) (by omega) (by omega) (by decide) rfl ?_
    refine sx_retV d_P_put_23 rfl ⟨by decide, by decide⟩ ?_
    exact ⟨rfl, rfl⟩
set_option maxRecDepth 100000 in
set_option maxHeartbeats 4000000 in
theorem c_P_isElse {L : Nat} {xs : Nat → Int32} (M : Nat → Nat → Int) (hR : IR M) (a b c : Nat) (ho : ∀ M, sx_o (gm M) a 2 2) (hb : ∀ M, sx_o (gm M) b 100 6) (hc : ∀ M, sx_o (gm M) c 100 6) (hab : ∀ M, (gm M).2.2.2 a 0 = some b) (hac : ∀ M, (gm M).2.2.2 a 1 = some c) (w : Nat) (hw : w < 6) (s d : Int) (hs : sx_r s) (hd : sx_r d) : sx_R y_P_isElsewhere (1, 0, 0) L xs [sx_p a, .inl (w : Int), .inl s, .inl d] (gm M) (fun v h2 => v = some (.inl (if M b w = s ∧ M c w = d then 0 else 1)) ∧ h2 = gm M) := by
  refine sx_enter rfl (Nat.le_of_ble_eq_true rfl) rfl ?_
  show sx_V y_P_isElsewhere (1, 0, 0) L xs (0, 0) 0 [some (sx_p a), some (.inl (w : Int)), some (.inl s), some (.inl d)] [] (gm M) _
  refine sx_iload_n d_P_isElsewhere_0 rfl ?_
  refine sx_iconst d_P_isElsewhere_1 ?_
  refine sx_iconst d_P_isElsewhere_2 ?_
  refine sx_callS (c_isWithin M (w : Int) 0 5 ⟨by omega, by omega⟩ ⟨by decide, by decide⟩ ⟨by decide, by decide⟩) d_P_isElsewhere_3 cd_T_isWithin lk_P_18 st_T_isWithin (st := []) rfl rfl (Nat.le_of_ble_eq_true rfl) ⟨by decide, by decide, by decide⟩ (fun _ _ hq => ?_)
  obtain ⟨rfl, rfl⟩ := hq
  show sx_V _ _ _ _ (0, 0) _ _ [.inl (if 0 ≤ (w : Int) ∧ (w : Int) ≤ 5 then 1 else 0)] (gm M) _
  refine sx_if_eq (tgt := 33) d_P_isElsewhere_6 (by decide) ⟨by split <;> omega, by split <;> omega⟩ (fun c6_11 => ?_) (fun c6_11 => ?_)
  · exact absurd c6_11 (by rw [if_pos (by omega)]; decide)
  · refine sx_aload_n d_P_isElsewhere_9 rfl ?_
    refine sx_getR (r := some (b)) d_P_isElsewhere_10 fl_P_9 (ho _) (by decide) (by decide) (by decide) (hab _) ?_
    refine sx_iload_n d_P_isElsewhere_13 rfl ?_
    refine sx_iald (z := (M b w)) d_P_isElsewhere_14 (hb _) (by omega) (by omega) (by decide) rfl ?_
    refine sx_iload_n d_P_isElsewhere_15 rfl ?_
    refine sx_icmp_ne (tgt := 29) d_P_isElsewhere_16 (by decide) (hR _ _) hs (fun c16_18 => ?_) (fun c16_18 => ?_)
    · refine sx_iconst d_P_isElsewhere_29 ?_
      refine sx_goto (tgt := 34) d_P_isElsewhere_30 (by decide) ?_
      refine sx_retI d_P_isElsewhere_34 (Or.inr ⟨rfl, by first | exact Or.inl rfl | exact Or.inr rfl | omega⟩) ⟨by decide, by decide⟩ ?_
      refine ⟨?_, rfl⟩
      congr 2
      first | rw [if_pos (by omega)] | rw [if_neg (by omega)]
    · refine sx_aload_n d_P_isElsewhere_19 rfl ?_
      refine sx_getR (r := some (c)) d_P_isElsewhere_20 fl_P_15 (ho _) (by decide) (by decide) (by decide) (hac _) ?_
      refine sx_iload_n d_P_isElsewhere_23 rfl ?_
      refine sx_iald (z := (M c w)) d_P_isElsewhere_24 (hc _) (by omega) (by omega) (by decide) rfl ?_
      refine sx_iload_n d_P_isElsewhere_25 rfl ?_
      refine sx_icmp_eq (tgt := 33) d_P_isElsewhere_26 (by decide) (hR _ _) hd (fun c26_30 => ?_) (fun c26_30 => ?_)
      · refine sx_iconst d_P_isElsewhere_33 ?_
        refine sx_retI d_P_isElsewhere_34 (Or.inr ⟨rfl, by first | exact Or.inl rfl | exact Or.inr rfl | omega⟩) ⟨by decide, by decide⟩ ?_
        refine ⟨?_, rfl⟩
        congr 2
        first | rw [if_pos (by omega)] | rw [if_neg (by omega)]
      · refine sx_iconst d_P_isElsewhere_29 ?_
        refine sx_goto (tgt := 34) d_P_isElsewhere_30 (by decide) ?_
        refine sx_retI d_P_isElsewhere_34 (Or.inr ⟨rfl, by first | exact Or.inl rfl | exact Or.inr rfl | omega⟩) ⟨by decide, by decide⟩ ?_
        refine ⟨?_, rfl⟩
        congr 2
        first | rw [if_pos (by omega)] | rw [if_neg (by omega)]
