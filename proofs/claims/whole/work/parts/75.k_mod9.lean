def mq (M1 M2 : Nat → Nat → Int) : Prop := ∀ a k, ¬ (72 ≤ a ∧ a ≤ 76) → a ≠ 65 → M2 a k = M1 a k
theorem MR.VS {M : Nat → Nat → Int} {nc nw nb : Nat} (h : MR M nc nw nb) (h7 : M 1 7 ≠ 0) : VS M nw (M 23) (M 24) := fun j hj => ⟨(h.pl h7 j hj).1, (h.pl h7 j hj).2, h.plw h7 j hj⟩
theorem lyf.mq {sl : Nat} {M1 M2 M3 : Nat → Nat → Int} (h : mq M1 M2) (hf : lyf sl M2 M3) : mq M1 M3 := fun a k h1 h2 => (hf.1 a k h1).trans (h a k h1 h2)
set_option maxRecDepth 100000 in
set_option maxHeartbeats 4000000 in
theorem l_M_lp {L : Nat} {xs : Nat → Int32} (M : Nat → Nat → Int) (nc nw nb : Nat) (hM : MR M nc nw nb) (M1 : Nat → Nat → Int) (M1s : sf M M1) (M1R : IR M1) (h7 : M 1 7 ≠ 0) : ∀ (n i : Nat) (M2 : Nat → Nat → Int), nw - i < n → i ≤ nw → mq M1 M2 → sf M M2 → IR M2 → SLt M i (M 23) (M 24) M2 → sx_V y_M_layPlan (3, 0, 0) L xs (0, 0) 2 [some (sx_p 51), some (.inl (i : Int))] [] (gm M2) (fun v h2 => v = none ∧ ∃ M3, h2 = gm M3 ∧ mq M1 M3 ∧ sf M M3 ∧ IR M3 ∧ SLt M nw (M 23) (M 24) M3) := by
  have w6 := hM.w6
  have c4 := hM.c4
  have b8 := hM.b8
  have r33 : 0 ≤ M 3 3 ∧ M 3 3 ≤ 200 := by (have := hM.dy.2.2.2; have := dy_le (dr M) 200; omega)
  intro n
  induction n with
  | zero => intro i M2 h1 h2; omega
  | succ n ih =>
    intro i M2 hn hi M2q M2s M2R hS
    refine sx_iload_n d_M_layPlan_2 rfl ?_
    refine sx_aload_n d_M_layPlan_3 rfl ?_
    refine sx_getI (z := (nw : Int)) d_M_layPlan_4 fl_M_95 (go rfl rfl rfl) (by decide) (by decide) (by decide) ((M2s 51 2 (by decide) (by decide) (by omega)).trans hM.mwn) ?_
    refine sx_icmp_ge (tgt := 34) d_M_layPlan_7 (by decide) (by first | omega | exact hM.ir _ _) (by first | omega | exact hM.ir _ _) (fun c7_15 => ?_) (fun c7_15 => ?_)
    · refine sx_retV d_M_layPlan_34 rfl ⟨Nat.zero_le _, Nat.zero_le _⟩ ?_
      have e0 : i = nw := by omega
      subst e0
      exact ⟨rfl, M2, rfl, M2q, M2s, M2R, hS⟩
    · refine sx_aload_n d_M_layPlan_10 rfl ?_
      refine sx_iload_n d_M_layPlan_11 rfl ?_
      refine sx_iload_n d_M_layPlan_12 rfl ?_
      refine sx_aload_n d_M_layPlan_13 rfl ?_
      refine sx_getR (r := some (67)) d_M_layPlan_14 fl_M_56 (go rfl rfl rfl) (by decide) (by decide) (by decide) rfl ?_
      refine sx_iload_n d_M_layPlan_17 rfl ?_
      refine sx_iald (z := (M 23 i)) d_M_layPlan_18 (go rfl rfl rfl) (by omega) (by omega) (by decide) ((M2s 67 i (by decide) (by decide) (by omega)).trans (hM.mst (by omega) i (by omega)).1) ?_
      refine sx_aload_n d_M_layPlan_19 rfl ?_
      refine sx_getR (r := some (68)) d_M_layPlan_20 fl_M_59 (go rfl rfl rfl) (by decide) (by decide) (by decide) rfl ?_
      refine sx_iload_n d_M_layPlan_23 rfl ?_
      refine sx_iald (z := (M 24 i)) d_M_layPlan_24 (go rfl rfl rfl) (by omega) (by omega) (by decide) ((M2s 68 i (by decide) (by decide) (by omega)).trans (hM.mst (by omega) i (by omega)).2) ?_
      refine sx_callV (c_M_lay M nc nw nb hM M2 M2s M2R i (by omega) i (by omega) (M 23 i) (M 24 i) (by have := (hM.pl h7 i (by omega)).1; omega) (hM.plw h7 i (by omega)) (hM.pl h7 i (by omega)).2) d_M_layPlan_25 cd_M_lay lk_M_159 im_M_lay se_M_lay (go rfl rfl rfl) rfl rfl (by decide) (st := []) rfl rfl (Nat.le_of_ble_eq_true rfl) ⟨by decide, Nat.le_refl _, Nat.le_refl _⟩ (fun _ _ hq => ?_)
      obtain ⟨rfl, M3, rfl, M3f, M3R, M3s, hL⟩ := hq
      show sx_V _ _ _ _ (0, 0) _ _ [] (gm M3) _
      refine sx_iinc (l' := [some (sx_p 51), some (.inl ((i : Int) + 1))]) d_M_layPlan_28 rfl (by decide) rfl rfl ?_
      refine sx_goto (tgt := 2) d_M_layPlan_31 (by decide) ?_
      have e1 : ((i : Int) + 1) = ((i + 1 : Nat) : Int) := by omega
      rw [e1]
      refine ih (i + 1) _ (by omega) (by omega) (lyf.mq M2q M3f) M3s M3R (fun j hj => ?_)
      by_cases q : j = i
      · subst q; exact hL
      · exact laid_c (hM.ws j (by omega)).1 (hS j (by omega)) M3f q
set_option maxRecDepth 100000 in
set_option maxHeartbeats 4000000 in
theorem c_M_lp {L : Nat} {xs : Nat → Int32} (M : Nat → Nat → Int) (nc nw nb : Nat) (hM : MR M nc nw nb) (M1 : Nat → Nat → Int) (M1s : sf M M1) (M1R : IR M1) (h7 : M 1 7 ≠ 0) : sx_R y_M_layPlan (3, 0, 0) L xs [sx_p 51] (gm M1) (fun v h2 => v = none ∧ ∃ M3, h2 = gm M3 ∧ mq M1 M3 ∧ sf M M3 ∧ IR M3 ∧ SLt M nw (M 23) (M 24) M3) := by
  refine sx_enter rfl (Nat.le_of_ble_eq_true rfl) rfl ?_
  show sx_V y_M_layPlan (3, 0, 0) L xs (0, 0) 0 [some (sx_p 51), none] [] (gm M1) _
  refine sx_iconst d_M_layPlan_0 ?_
  refine sx_istore_n (l' := [some (sx_p 51), some (.inl 0)]) d_M_layPlan_1 (by decide) rfl rfl ?_
  exact l_M_lp M nc nw nb hM M1 M1s M1R h7 (nw + 1) 0 M1 (by omega) (by omega) (fun _ _ _ _ => rfl) M1s M1R (fun _ h => absurd h (Nat.not_lt_zero _))
set_option maxRecDepth 100000 in
set_option maxHeartbeats 4000000 in
theorem m_told_bad {L : Nat} {xs : Nat → Int32} (M : Nat → Nat → Int) (nc nw nb : Nat) (hM : MR M nc nw nb) (M1 : Nat → Nat → Int) (M1s : sf M M1) (M1R : IR M1) (w x : Int) (hw : sx_r w) (hx : sx_r x) (hbd : ¬ (M 1 7 ≠ 0 ∧ 0 ≤ w ∧ w < nw ∧ 0 ≤ x ∧ x ≤ 2)) : sx_R y_M_told (1, 0, 0) L xs [sx_p 51, .inl w, .inl x] (gm M1) (fun v h2 => v = some (.inl (-1)) ∧ h2 = gm M1) := by
  have w6 := hM.w6
  have c4 := hM.c4
  have b8 := hM.b8
  have r33 : 0 ≤ M 3 3 ∧ M 3 3 ≤ 200 := by (have := hM.dy.2.2.2; have := dy_le (dr M) 200; omega)
  refine sx_enter rfl (Nat.le_of_ble_eq_true rfl) rfl ?_
  show sx_V y_M_told (1, 0, 0) L xs (0, 0) 0 [some (sx_p 51), some (.inl w), some (.inl x)] [] (gm M1) _
  refine sx_aload_n d_M_told_0 rfl ?_
  refine sx_getI (z := (M 1 7)) d_M_told_1 fl_M_99 (go rfl rfl rfl) (by decide) (by decide) (by decide) ((M1s 51 19 (by decide) (by decide) (by omega)).trans hM.mha) ?_
  refine sx_if_eq (tgt := 24) d_M_told_4 (by decide) (by first | omega | exact hM.ir _ _) (fun c4_11 => ?_) (fun c4_11 => ?_)
  · refine sx_iconst d_M_told_24 ?_
    refine sx_retI d_M_told_25 (Or.inl rfl) ⟨Nat.zero_le _, Nat.zero_le _⟩ ?_
    exact ⟨rfl, rfl⟩
  · refine sx_aload_n d_M_told_7 rfl ?_
    refine sx_iload_n d_M_told_8 rfl ?_
    refine sx_callV (c_M_isWork M nc nw nb hM M1 M1s w (by omega)) d_M_told_9 cd_M_isWork lk_M_113 im_M_isWork se_M_isWork (go rfl rfl rfl) rfl rfl (by decide) (st := []) rfl rfl (Nat.le_of_ble_eq_true rfl) ⟨by decide, Nat.le_refl _, Nat.le_refl _⟩ (fun _ _ hq => ?_)
    obtain ⟨z136, rfl, z136b, z136i, rfl⟩ := hq
    show sx_V _ _ _ _ (0, 0) _ _ [.inl z136] (gm M1) _
    refine sx_if_eq (tgt := 24) d_M_told_12 (by decide) (by first | omega | exact hM.ir _ _) (fun c12_20 => ?_) (fun c12_20 => ?_)
    · refine sx_iconst d_M_told_24 ?_
      refine sx_retI d_M_told_25 (Or.inl rfl) ⟨Nat.zero_le _, Nat.zero_le _⟩ ?_
      exact ⟨rfl, rfl⟩
    · refine sx_iload_n d_M_told_15 rfl ?_
      refine sx_iconst d_M_told_16 ?_
      refine sx_iconst d_M_told_17 ?_
      refine sx_callS (c_M_within M1 x 0 2 (by omega) (by omega) (by omega)) d_M_told_18 cd_M_within lk_M_103 st_M_within (st := []) rfl rfl (Nat.le_of_ble_eq_true rfl) ⟨by decide, Nat.le_refl _, Nat.le_refl _⟩ (fun _ _ hq => ?_)
      obtain ⟨z137, rfl, z137b, z137i, rfl⟩ := hq
      show sx_V _ _ _ _ (0, 0) _ _ [.inl z137] (gm M1) _
      refine sx_if_ne (tgt := 26) d_M_told_21 (by decide) (by first | omega | exact hM.ir _ _) (fun c21_30 => ?_) (fun c21_30 => ?_)
      · omega
      · refine sx_iconst d_M_told_24 ?_
        refine sx_retI d_M_told_25 (Or.inl rfl) ⟨Nat.zero_le _, Nat.zero_le _⟩ ?_
        exact ⟨rfl, rfl⟩
set_option maxRecDepth 100000 in
set_option maxHeartbeats 4000000 in
theorem m_told_ok {L : Nat} {xs : Nat → Int32} (M : Nat → Nat → Int) (nc nw nb : Nat) (hM : MR M nc nw nb) (M1 : Nat → Nat → Int) (M1s : sf M M1) (M1R : IR M1) (h7 : M 1 7 ≠ 0) (w : Nat) (hw : w < nw) (x : Int) (hx : 0 ≤ x ∧ x ≤ 2) : sx_R y_M_told (4, 0, 0) L xs [sx_p 51, .inl (w : Int), .inl x] (gm M1) (fun v h2 => v = some (.inl (if x = 0 then M 23 w else if x = 1 then eT M w (M 23 w) else if x = 2 then M 24 w else -1)) ∧ ∃ M2, h2 = gm M2 ∧ mq M1 M2 ∧ IR M2) := by
  have w6 := hM.w6
  have c4 := hM.c4
  have b8 := hM.b8
  have r33 : 0 ≤ M 3 3 ∧ M 3 3 ≤ 200 := by (have := hM.dy.2.2.2; have := dy_le (dr M) 200; omega)
  refine sx_enter rfl (Nat.le_of_ble_eq_true rfl) rfl ?_
  show sx_V y_M_told (4, 0, 0) L xs (0, 0) 0 [some (sx_p 51), some (.inl (w : Int)), some (.inl x)] [] (gm M1) _
  refine sx_aload_n d_M_told_0 rfl ?_
  refine sx_getI (z := (M 1 7)) d_M_told_1 fl_M_99 (go rfl rfl rfl) (by decide) (by decide) (by decide) ((M1s 51 19 (by decide) (by decide) (by omega)).trans hM.mha) ?_
  refine sx_if_eq (tgt := 24) d_M_told_4 (by decide) (by first | omega | exact hM.ir _ _) (fun c4_11 => ?_) (fun c4_11 => ?_)
  · omega
  · refine sx_aload_n d_M_told_7 rfl ?_
    refine sx_iload_n d_M_told_8 rfl ?_
    refine sx_callV (c_M_isWork M nc nw nb hM M1 M1s (w : Int) (by omega)) d_M_told_9 cd_M_isWork lk_M_113 im_M_isWork se_M_isWork (go rfl rfl rfl) rfl rfl (by decide) (st := []) rfl rfl (Nat.le_of_ble_eq_true rfl) ⟨by decide, Nat.le_refl _, Nat.le_refl _⟩ (fun _ _ hq => ?_)
    obtain ⟨z138, rfl, z138b, z138i, rfl⟩ := hq
    show sx_V _ _ _ _ (0, 0) _ _ [.inl z138] (gm M1) _
    refine sx_if_eq (tgt := 24) d_M_told_12 (by decide) (by first | omega | exact hM.ir _ _) (fun c12_18 => ?_) (fun c12_18 => ?_)
    · omega
    · refine sx_iload_n d_M_told_15 rfl ?_
      refine sx_iconst d_M_told_16 ?_
      refine sx_iconst d_M_told_17 ?_
      refine sx_callS (c_M_within M1 x 0 2 (by omega) (by omega) (by omega)) d_M_told_18 cd_M_within lk_M_103 st_M_within (st := []) rfl rfl (Nat.le_of_ble_eq_true rfl) ⟨by decide, Nat.le_refl _, Nat.le_refl _⟩ (fun _ _ hq => ?_)
      obtain ⟨z139, rfl, z139b, z139i, rfl⟩ := hq
      show sx_V _ _ _ _ (0, 0) _ _ [.inl z139] (gm M1) _
      refine sx_if_ne (tgt := 26) d_M_told_21 (by decide) (by first | omega | exact hM.ir _ _) (fun c21_26 => ?_) (fun c21_26 => ?_)
      · refine sx_aload_n d_M_told_26 rfl ?_
        refine sx_callV (c_M_lp M nc nw nb hM M1 M1s M1R h7) d_M_told_27 cd_M_layPlan lk_M_191 im_M_layPlan se_M_layPlan (go rfl rfl rfl) rfl rfl (by decide) (st := []) rfl rfl (Nat.le_of_ble_eq_true rfl) ⟨by decide, Nat.le_refl _, Nat.le_refl _⟩ (fun _ _ hq => ?_)
        obtain ⟨rfl, M3, rfl, M3q, M3s, M3R, hS⟩ := hq
        have hV := hM.VS h7
        show sx_V _ _ _ _ (0, 0) _ _ [] (gm M3) _
        refine sx_iload_n d_M_told_30 rfl ?_
        refine sx_if_ne (tgt := 43) d_M_told_31 (by decide) (by first | omega | exact hM.ir _ _) (fun c31_33 => ?_) (fun c31_33 => ?_)
        · refine sx_iload_n d_M_told_43 rfl ?_
          refine sx_iconst d_M_told_44 ?_
          refine sx_icmp_ne (tgt := 57) d_M_told_45 (by decide) (by first | omega | exact hM.ir _ _) ⟨by decide, by decide⟩ (fun c45_36 => ?_) (fun c45_36 => ?_)
          · refine sx_aload_n d_M_told_57 rfl ?_
            refine sx_getR (r := some (68)) d_M_told_58 fl_M_59 (go rfl rfl rfl) (by decide) (by decide) (by decide) rfl ?_
            refine sx_iload_n d_M_told_61 rfl ?_
            refine sx_iald (z := (M 24 w)) d_M_told_62 (go rfl rfl rfl) (by omega) (by omega) (by decide) ((M3s 68 w (by decide) (by decide) (by omega)).trans (hM.mst (by omega) w (by omega)).2) ?_
            refine sx_retI d_M_told_63 (Or.inl rfl) ⟨Nat.zero_le _, Nat.zero_le _⟩ ?_
            refine ⟨?_, ⟨M3, rfl, M3q, M3R⟩⟩
            (repeat' first | rw [if_pos (by omega)] | rw [if_neg (by omega)])
            all_goals rfl
          · refine sx_aload_n d_M_told_48 rfl ?_
            refine sx_getR (r := some (74)) d_M_told_49 fl_M_77 (go rfl rfl rfl) (by decide) (by decide) (by decide) rfl ?_
            refine sx_iload_n d_M_told_52 rfl ?_
            refine sx_iald (z := (eT M w (M 23 w))) d_M_told_53 (go rfl rfl rfl) (by omega) (by omega) (by decide) (hS w (by omega)).2.2.1 ?_
            refine sx_goto (tgt := 63) d_M_told_54 (by decide) ?_
            refine sx_retI d_M_told_63 (Or.inl rfl) ⟨Nat.zero_le _, Nat.zero_le _⟩ ?_
            refine ⟨?_, ⟨M3, rfl, M3q, M3R⟩⟩
            (repeat' first | rw [if_pos (by omega)] | rw [if_neg (by omega)])
            all_goals rfl
        · refine sx_aload_n d_M_told_34 rfl ?_
          refine sx_getR (r := some (67)) d_M_told_35 fl_M_56 (go rfl rfl rfl) (by decide) (by decide) (by decide) rfl ?_
          refine sx_iload_n d_M_told_38 rfl ?_
          refine sx_iald (z := (M 23 w)) d_M_told_39 (go rfl rfl rfl) (by omega) (by omega) (by decide) ((M3s 67 w (by decide) (by decide) (by omega)).trans (hM.mst (by omega) w (by omega)).1) ?_
          refine sx_goto (tgt := 63) d_M_told_40 (by decide) ?_
          refine sx_retI d_M_told_63 (Or.inl rfl) ⟨Nat.zero_le _, Nat.zero_le _⟩ ?_
          refine ⟨?_, ⟨M3, rfl, M3q, M3R⟩⟩
          (repeat' first | rw [if_pos (by omega)] | rw [if_neg (by omega)])
          all_goals rfl
      · omega
set_option maxRecDepth 100000 in
set_option maxHeartbeats 4000000 in
theorem l_M_gcd {L : Nat} {xs : Nat → Int32} (M : Nat → Nat → Int) (a b : Int) (G : Nat) : ∀ (n : Nat) (x y : Nat) (x4 : Option sx_v), y < n → x ≤ 1000000 → y ≤ 1000000 → Nat.gcd x y = G → sx_V y_M_common (0, 0, 0) L xs (0, 0) 4 [some (.inl a), some (.inl b), some (.inl (x : Int)), some (.inl (y : Int)), x4] [] (gm M) (fun v h2 => v = some (.inl (G : Int)) ∧ h2 = gm M) := by
  intro n
  induction n generalizing G with
  | zero => intro x y x4 h1; omega
  | succ n ih =>
    intro x y x4 hn hx hy hG
    refine sx_iload_n d_M_common_4 rfl ?_
    refine sx_if_le (tgt := 21) d_M_common_5 (by decide) (by omega) (fun c5_9 => ?_) (fun c5_9 => ?_)
    · refine sx_iload_n d_M_common_21 rfl ?_
      refine sx_retI d_M_common_22 (Or.inl rfl) ⟨Nat.zero_le _, Nat.zero_le _⟩ ?_
      have e0 : y = 0 := by omega
      subst e0
      rw [Nat.gcd_zero_right] at hG
      rw [← hG]
      exact ⟨rfl, rfl⟩
    · refine sx_iload_n d_M_common_8 rfl ?_
      refine sx_iload_n d_M_common_9 rfl ?_
      refine sx_irem d_M_common_10 (by omega) (by omega) (by omega) ?_
      refine sx_istore (l' := [some (.inl a), some (.inl b), some (.inl (x : Int)), some (.inl (y : Int)), some (.inl (Int.tmod (x : Int) (y : Int)))]) d_M_common_11 (by decide) rfl rfl ?_
      refine sx_iload_n d_M_common_13 rfl ?_
      refine sx_istore_n (l' := [some (.inl a), some (.inl b), some (.inl (y : Int)), some (.inl (y : Int)), some (.inl (Int.tmod (x : Int) (y : Int)))]) d_M_common_14 (by decide) rfl rfl ?_
      refine sx_iload d_M_common_15 rfl ?_
      refine sx_istore_n (l' := [some (.inl a), some (.inl b), some (.inl (y : Int)), some (.inl (Int.tmod (x : Int) (y : Int))), some (.inl (Int.tmod (x : Int) (y : Int)))]) d_M_common_17 (by decide) rfl rfl ?_
      refine sx_goto (tgt := 4) d_M_common_18 (by decide) ?_
      have e1 : Int.tmod (x : Int) (y : Int) = ((x % y : Nat) : Int) := rfl
      rw [e1, ← hG, show Nat.gcd x y = Nat.gcd y (x % y) by rw [Nat.gcd_comm x y, Nat.gcd_rec y x, Nat.gcd_comm]]
      have hlt := Nat.mod_lt x (show y > 0 by omega)
      exact ih _ y (x % y) _ (by omega) (by omega) (by omega) rfl
set_option maxRecDepth 100000 in
set_option maxHeartbeats 4000000 in
theorem c_M_gcd {L : Nat} {xs : Nat → Int32} (M : Nat → Nat → Int) (t s : Int) (ht : 0 ≤ t ∧ t ≤ 1000000) (hs : 0 ≤ s ∧ s ≤ 1000000) : sx_R y_M_common (0, 0, 0) L xs [.inl t, .inl s] (gm M) (fun v h2 => v = some (.inl (Int.gcd t s : Int)) ∧ h2 = gm M) := by
  refine sx_enter rfl (Nat.le_of_ble_eq_true rfl) rfl ?_
  show sx_V y_M_common (0, 0, 0) L xs (0, 0) 0 [some (.inl t), some (.inl s), none, none, none] [] (gm M) _
  refine sx_iload_n d_M_common_0 rfl ?_
  refine sx_istore_n (l' := [some (.inl t), some (.inl s), some (.inl t), none, none]) d_M_common_1 (by decide) rfl rfl ?_
  refine sx_iload_n d_M_common_2 rfl ?_
  refine sx_istore_n (l' := [some (.inl t), some (.inl s), some (.inl t), some (.inl s), none]) d_M_common_3 (by decide) rfl rfl ?_
  obtain ⟨x, rfl⟩ : ∃ x : Nat, t = (x : Int) := ⟨t.toNat, by omega⟩
  obtain ⟨y, rfl⟩ : ∃ y : Nat, s = (y : Int) := ⟨s.toNat, by omega⟩
  exact l_M_gcd M _ _ _ (y + 1) x y none (by omega) (by omega) (by omega) rfl
set_option maxRecDepth 100000 in
set_option maxHeartbeats 4000000 in
theorem m_passes_bad {L : Nat} {xs : Nat → Int32} (M : Nat → Nat → Int) (nc nw nb : Nat) (hM : MR M nc nw nb) (M1 : Nat → Nat → Int) (M1s : sf M M1) (M1R : IR M1) (w p lv x : Int) (hw : sx_r w) (hp : sx_r p) (hlv : sx_r lv) (hx : sx_r x) (hbd : ¬ (M 1 7 ≠ 0 ∧ 0 ≤ w ∧ w < nw ∧ M (14 + Int.toNat w) 2 ≤ p ∧ p ≤ M (14 + Int.toNat w) 3 ∧ 0 ≤ x ∧ x ≤ 1)) : sx_R y_M_passes (1, 0, 0) L xs [sx_p 51, .inl w, .inl p, .inl lv, .inl x] (gm M1) (fun v h2 => v = some (.inl (-1)) ∧ h2 = gm M1) := by
  have w6 := hM.w6
  have c4 := hM.c4
  have b8 := hM.b8
  have r33 : 0 ≤ M 3 3 ∧ M 3 3 ≤ 200 := by (have := hM.dy.2.2.2; have := dy_le (dr M) 200; omega)
  refine sx_enter rfl (Nat.le_of_ble_eq_true rfl) rfl ?_
  show sx_V y_M_passes (1, 0, 0) L xs (0, 0) 0 [some (sx_p 51), some (.inl w), some (.inl p), some (.inl lv), some (.inl x), none, none] [] (gm M1) _
  refine sx_aload_n d_M_passes_0 rfl ?_
  refine sx_getI (z := (M 1 7)) d_M_passes_1 fl_M_99 (go rfl rfl rfl) (by decide) (by decide) (by decide) ((M1s 51 19 (by decide) (by decide) (by omega)).trans hM.mha) ?_
  refine sx_if_eq (tgt := 44) d_M_passes_4 (by decide) (by first | omega | exact hM.ir _ _) (fun c4_11 => ?_) (fun c4_11 => ?_)
  · refine sx_iconst d_M_passes_44 ?_
    refine sx_retI d_M_passes_45 (Or.inl rfl) ⟨Nat.zero_le _, Nat.zero_le _⟩ ?_
    exact ⟨rfl, rfl⟩
  · refine sx_aload_n d_M_passes_7 rfl ?_
    refine sx_iload_n d_M_passes_8 rfl ?_
    refine sx_callV (c_M_isWork M nc nw nb hM M1 M1s w (by omega)) d_M_passes_9 cd_M_isWork lk_M_113 im_M_isWork se_M_isWork (go rfl rfl rfl) rfl rfl (by decide) (st := []) rfl rfl (Nat.le_of_ble_eq_true rfl) ⟨by decide, Nat.le_refl _, Nat.le_refl _⟩ (fun _ _ hq => ?_)
    obtain ⟨z140, rfl, z140b, z140i, rfl⟩ := hq
    show sx_V _ _ _ _ (0, 0) _ _ [.inl z140] (gm M1) _
    refine sx_if_eq (tgt := 44) d_M_passes_12 (by decide) (by first | omega | exact hM.ir _ _) (fun c12_20 => ?_) (fun c12_20 => ?_)
    · refine sx_iconst d_M_passes_44 ?_
      refine sx_retI d_M_passes_45 (Or.inl rfl) ⟨Nat.zero_le _, Nat.zero_le _⟩ ?_
      exact ⟨rfl, rfl⟩
    · obtain ⟨a1, a2, a3, a4, a5, a6⟩ := (hM.ws (Int.toNat w) (by omega)).1
      refine sx_iload_n d_M_passes_15 rfl ?_
      refine sx_aload_n d_M_passes_16 rfl ?_
      refine sx_getR (r := some (54)) d_M_passes_17 fl_M_16 (go rfl rfl rfl) (by decide) (by decide) (by decide) rfl ?_
      refine sx_iload_n d_M_passes_20 rfl ?_
      refine sx_iald (z := (M (14 + (Int.toNat w)) 2)) d_M_passes_21 (go rfl rfl rfl) (by omega) (by omega) (by decide) ((M1s 54 (Int.toNat w) (by decide) (by decide) (by omega)).trans (hM.mfr (Int.toNat w) (by omega))) ?_
      refine sx_aload_n d_M_passes_22 rfl ?_
      refine sx_getR (r := some (55)) d_M_passes_23 fl_M_19 (go rfl rfl rfl) (by decide) (by decide) (by decide) rfl ?_
      refine sx_iload_n d_M_passes_26 rfl ?_
      refine sx_iald (z := (M (14 + (Int.toNat w)) 3)) d_M_passes_27 (go rfl rfl rfl) (by omega) (by omega) (by decide) ((M1s 55 (Int.toNat w) (by decide) (by decide) (by omega)).trans (hM.mto (Int.toNat w) (by omega))) ?_
      refine sx_callS (c_M_within M1 p (M (14 + (Int.toNat w)) 2) (M (14 + (Int.toNat w)) 3) (by omega) (by omega) (by omega)) d_M_passes_28 cd_M_within lk_M_103 st_M_within (st := []) rfl rfl (Nat.le_of_ble_eq_true rfl) ⟨by decide, Nat.le_refl _, Nat.le_refl _⟩ (fun _ _ hq => ?_)
      obtain ⟨z141, rfl, z141b, z141i, rfl⟩ := hq
      show sx_V _ _ _ _ (0, 0) _ _ [.inl z141] (gm M1) _
      refine sx_if_eq (tgt := 44) d_M_passes_31 (by decide) (by first | omega | exact hM.ir _ _) (fun c31_37 => ?_) (fun c31_37 => ?_)
      · refine sx_iconst d_M_passes_44 ?_
        refine sx_retI d_M_passes_45 (Or.inl rfl) ⟨Nat.zero_le _, Nat.zero_le _⟩ ?_
        exact ⟨rfl, rfl⟩
      · refine sx_iload d_M_passes_34 rfl ?_
        refine sx_iconst d_M_passes_36 ?_
        refine sx_iconst d_M_passes_37 ?_
        refine sx_callS (c_M_within M1 x 0 1 (by omega) (by omega) (by omega)) d_M_passes_38 cd_M_within lk_M_103 st_M_within (st := []) rfl rfl (Nat.le_of_ble_eq_true rfl) ⟨by decide, Nat.le_refl _, Nat.le_refl _⟩ (fun _ _ hq => ?_)
        obtain ⟨z142, rfl, z142b, z142i, rfl⟩ := hq
        show sx_V _ _ _ _ (0, 0) _ _ [.inl z142] (gm M1) _
        refine sx_if_ne (tgt := 46) d_M_passes_41 (by decide) (by first | omega | exact hM.ir _ _) (fun c41_47 => ?_) (fun c41_47 => ?_)
        · omega
        · refine sx_iconst d_M_passes_44 ?_
          refine sx_retI d_M_passes_45 (Or.inl rfl) ⟨Nat.zero_le _, Nat.zero_le _⟩ ?_
          exact ⟨rfl, rfl⟩
set_option maxRecDepth 100000 in
set_option maxHeartbeats 4000000 in
theorem m_passes_ok {L : Nat} {xs : Nat → Int32} (M : Nat → Nat → Int) (nc nw nb : Nat) (hM : MR M nc nw nb) (M1 : Nat → Nat → Int) (M1s : sf M M1) (M1R : IR M1) (h7 : M 1 7 ≠ 0) (w : Nat) (hw : w < nw) (p lv x : Int) (hp1 : M (14 + w) 2 ≤ p) (hp2 : p ≤ M (14 + w) 3) (hlv : lv = 0 ∨ lv = 1) (hx01 : 0 ≤ x ∧ x ≤ 1) : sx_R y_M_passes (4, 0, 0) L xs [sx_p 51, .inl (w : Int), .inl p, .inl lv, .inl x] (gm M1) (fun v h2 => v = some (.inl ((if x = 0 then (pT M w (M 23 w) (M 24 w) p lv) else (M (14 + w) 4)) / (Int.gcd (pT M w (M 23 w) (M 24 w) p lv) (M (14 + w) 4) : Int))) ∧ ∃ M2, h2 = gm M2 ∧ mq M1 M2 ∧ IR M2) := by
  have w6 := hM.w6
  have c4 := hM.c4
  have b8 := hM.b8
  have r33 : 0 ≤ M 3 3 ∧ M 3 3 ≤ 200 := by (have := hM.dy.2.2.2; have := dy_le (dr M) 200; omega)
  have hW := (hM.ws w hw).1
  obtain ⟨a1, a2, a3, a4, a5, a6⟩ := id hW
  have pq0 := pT_r hW (s := M 23 w) (d := M 24 w) (p := p) (lv := 0) (by have := (hM.pl h7 w hw).1; omega) (wx_in hW hp1 hp2)
  have pq1 := pT_r hW (s := M 23 w) (d := M 24 w) (p := p) (lv := 1) (by have := (hM.pl h7 w hw).1; omega) (wx_in hW hp1 hp2)
  refine sx_enter rfl (Nat.le_of_ble_eq_true rfl) rfl ?_
  show sx_V y_M_passes (4, 0, 0) L xs (0, 0) 0 [some (sx_p 51), some (.inl (w : Int)), some (.inl p), some (.inl lv), some (.inl x), none, none] [] (gm M1) _
  refine sx_aload_n d_M_passes_0 rfl ?_
  refine sx_getI (z := (M 1 7)) d_M_passes_1 fl_M_99 (go rfl rfl rfl) (by decide) (by decide) (by decide) ((M1s 51 19 (by decide) (by decide) (by omega)).trans hM.mha) ?_
  refine sx_if_eq (tgt := 44) d_M_passes_4 (by decide) (by first | omega | exact hM.ir _ _) (fun c4_15 => ?_) (fun c4_15 => ?_)
  · omega
  · refine sx_aload_n d_M_passes_7 rfl ?_
    refine sx_iload_n d_M_passes_8 rfl ?_
    refine sx_callV (c_M_isWork M nc nw nb hM M1 M1s (w : Int) (by omega)) d_M_passes_9 cd_M_isWork lk_M_113 im_M_isWork se_M_isWork (go rfl rfl rfl) rfl rfl (by decide) (st := []) rfl rfl (Nat.le_of_ble_eq_true rfl) ⟨by decide, Nat.le_refl _, Nat.le_refl _⟩ (fun _ _ hq => ?_)
    obtain ⟨z143, rfl, z143b, z143i, rfl⟩ := hq
    show sx_V _ _ _ _ (0, 0) _ _ [.inl z143] (gm M1) _
    refine sx_if_eq (tgt := 44) d_M_passes_12 (by decide) (by first | omega | exact hM.ir _ _) (fun c12_22 => ?_) (fun c12_22 => ?_)
    · omega
    · refine sx_iload_n d_M_passes_15 rfl ?_
      refine sx_aload_n d_M_passes_16 rfl ?_
      refine sx_getR (r := some (54)) d_M_passes_17 fl_M_16 (go rfl rfl rfl) (by decide) (by decide) (by decide) rfl ?_
      refine sx_iload_n d_M_passes_20 rfl ?_
      refine sx_iald (z := (M (14 + w) 2)) d_M_passes_21 (go rfl rfl rfl) (by omega) (by omega) (by decide) ((M1s 54 w (by decide) (by decide) (by omega)).trans (hM.mfr w (by omega))) ?_
      refine sx_aload_n d_M_passes_22 rfl ?_
      refine sx_getR (r := some (55)) d_M_passes_23 fl_M_19 (go rfl rfl rfl) (by decide) (by decide) (by decide) rfl ?_
      refine sx_iload_n d_M_passes_26 rfl ?_
      refine sx_iald (z := (M (14 + w) 3)) d_M_passes_27 (go rfl rfl rfl) (by omega) (by omega) (by decide) ((M1s 55 w (by decide) (by decide) (by omega)).trans (hM.mto w (by omega))) ?_
      refine sx_callS (c_M_within M1 p (M (14 + w) 2) (M (14 + w) 3) (by omega) (by omega) (by omega)) d_M_passes_28 cd_M_within lk_M_103 st_M_within (st := []) rfl rfl (Nat.le_of_ble_eq_true rfl) ⟨by decide, Nat.le_refl _, Nat.le_refl _⟩ (fun _ _ hq => ?_)
      obtain ⟨z144, rfl, z144b, z144i, rfl⟩ := hq
      show sx_V _ _ _ _ (0, 0) _ _ [.inl z144] (gm M1) _
      refine sx_if_eq (tgt := 44) d_M_passes_31 (by decide) (by first | omega | exact hM.ir _ _) (fun c31_36 => ?_) (fun c31_36 => ?_)
      · omega
      · refine sx_iload d_M_passes_34 rfl ?_
        refine sx_iconst d_M_passes_36 ?_
        refine sx_iconst d_M_passes_37 ?_
        refine sx_callS (c_M_within M1 x 0 1 (by omega) (by omega) (by omega)) d_M_passes_38 cd_M_within lk_M_103 st_M_within (st := []) rfl rfl (Nat.le_of_ble_eq_true rfl) ⟨by decide, Nat.le_refl _, Nat.le_refl _⟩ (fun _ _ hq => ?_)
        obtain ⟨z145, rfl, z145b, z145i, rfl⟩ := hq
        show sx_V _ _ _ _ (0, 0) _ _ [.inl z145] (gm M1) _
        refine sx_if_ne (tgt := 46) d_M_passes_41 (by decide) (by first | omega | exact hM.ir _ _) (fun c41_44 => ?_) (fun c41_44 => ?_)
        · refine sx_aload_n d_M_passes_46 rfl ?_
          refine sx_callV (c_M_lp M nc nw nb hM M1 M1s M1R h7) d_M_passes_47 cd_M_layPlan lk_M_191 im_M_layPlan se_M_layPlan (go rfl rfl rfl) rfl rfl (by decide) (st := []) rfl rfl (Nat.le_of_ble_eq_true rfl) ⟨by decide, Nat.le_refl _, Nat.le_refl _⟩ (fun _ _ hq => ?_)
          obtain ⟨rfl, M3, rfl, M3q, M3s, M3R, hS⟩ := hq
          have hV := hM.VS h7
          show sx_V _ _ _ _ (0, 0) _ _ [] (gm M3) _
          refine sx_iload_n d_M_passes_50 rfl ?_
          refine sx_if_eq (tgt := 69) d_M_passes_51 (by decide) (by first | omega | exact hM.ir _ _) (fun c51_51 => ?_) (fun c51_51 => ?_)
          · have elv : lv = 0 := by omega
            refine sx_aload_n d_M_passes_69 rfl ?_
            refine sx_getR (r := some (75)) d_M_passes_70 fl_M_80 (go rfl rfl rfl) (by decide) (by decide) (by decide) rfl ?_
            refine sx_sipush d_M_passes_73 (by decide) ?_
            refine sx_iload_n d_M_passes_76 rfl ?_
            refine sx_imul d_M_passes_77 ?_
            refine sx_iload_n d_M_passes_78 rfl ?_
            refine sx_iadd d_M_passes_79 ?_
            refine sx_iald (z := (pT M w (M 23 w) (M 24 w) p 0)) d_M_passes_80 (go rfl rfl rfl) (by omega) (by omega) (by decide) (by show M3 75 (Int.toNat ((201 * (w : Int)) + p)) = _; rw [show (Int.toNat ((201 * (w : Int)) + p)) = 201 * w + (p).toNat by omega]; exact ((hS w (by omega)).2.2.2 p (by omega) (by omega)).1) ?_
            refine sx_istore (l' := [some (sx_p 51), some (.inl (w : Int)), some (.inl p), some (.inl lv), some (.inl x), some (.inl (pT M w (M 23 w) (M 24 w) p 0)), none]) d_M_passes_81 (by decide) rfl rfl ?_
            refine sx_iload d_M_passes_83 rfl ?_
            refine sx_aload_n d_M_passes_85 rfl ?_
            refine sx_getR (r := some (56)) d_M_passes_86 fl_M_22 (go rfl rfl rfl) (by decide) (by decide) (by decide) rfl ?_
            refine sx_iload_n d_M_passes_89 rfl ?_
            refine sx_iald (z := (M (14 + w) 4)) d_M_passes_90 (go rfl rfl rfl) (by omega) (by omega) (by decide) ((M3s 56 w (by decide) (by decide) (by omega)).trans (hM.msp w (by omega))) ?_
            refine sx_callS (c_M_gcd M3 (pT M w (M 23 w) (M 24 w) p 0) (M (14 + w) 4) (by omega) (by omega)) d_M_passes_91 cd_M_common lk_M_194 st_M_common (st := []) rfl rfl (Nat.le_of_ble_eq_true rfl) ⟨by decide, Nat.le_refl _, Nat.le_refl _⟩ (fun _ _ hq => ?_)
            obtain ⟨rfl, rfl⟩ := hq
            show sx_V _ _ _ _ (0, 0) _ _ [.inl (Int.gcd (pT M w (M 23 w) (M 24 w) p 0) (M (14 + w) 4) : Int)] (gm M3) _
            have g0 : 0 < Int.gcd (pT M w (M 23 w) (M 24 w) p 0) (M (14 + w) 4) := Nat.pos_of_ne_zero (fun q => by have := (Int.gcd_eq_zero_iff.mp q).2; omega)
            have g1 := Int.le_of_dvd (show 0 < (M (14 + w) 4) by omega) (Int.gcd_dvd_right (pT M w (M 23 w) (M 24 w) p 0) (M (14 + w) 4))
            refine sx_istore (l' := [some (sx_p 51), some (.inl (w : Int)), some (.inl p), some (.inl lv), some (.inl x), some (.inl (pT M w (M 23 w) (M 24 w) p 0)), some (.inl (Int.gcd (pT M w (M 23 w) (M 24 w) p 0) (M (14 + w) 4) : Int))]) d_M_passes_94 (by decide) rfl rfl ?_
            refine sx_iload d_M_passes_96 rfl ?_
            refine sx_if_ne (tgt := 109) d_M_passes_98 (by decide) (by first | omega | exact hM.ir _ _) (fun c98_74 => ?_) (fun c98_74 => ?_)
            · refine sx_aload_n d_M_passes_109 rfl ?_
              refine sx_getR (r := some (56)) d_M_passes_110 fl_M_22 (go rfl rfl rfl) (by decide) (by decide) (by decide) rfl ?_
              refine sx_iload_n d_M_passes_113 rfl ?_
              refine sx_iald (z := (M (14 + w) 4)) d_M_passes_114 (go rfl rfl rfl) (by omega) (by omega) (by decide) ((M3s 56 w (by decide) (by decide) (by omega)).trans (hM.msp w (by omega))) ?_
              refine sx_iload d_M_passes_115 rfl ?_
              refine sx_idiv d_M_passes_117 (by first | omega | exact hM.ir _ _) (by first | omega | exact hM.ir _ _) (by omega) ?_
              refine sx_retI d_M_passes_118 (Or.inl rfl) ⟨Nat.zero_le _, Nat.zero_le _⟩ ?_
              refine ⟨?_, ⟨M3, rfl, M3q, M3R⟩⟩
              rw [elv]
              (repeat first | rw [if_pos (by omega)] | rw [if_neg (by omega)])
              rw [Int.tdiv_eq_ediv_of_nonneg (by omega)]
            · refine sx_iload d_M_passes_101 rfl ?_
              refine sx_iload d_M_passes_103 rfl ?_
              refine sx_idiv d_M_passes_105 (by first | omega | exact hM.ir _ _) (by first | omega | exact hM.ir _ _) (by omega) ?_
              refine sx_goto (tgt := 118) d_M_passes_106 (by decide) ?_
              refine sx_retI d_M_passes_118 (Or.inl rfl) ⟨Nat.zero_le _, Nat.zero_le _⟩ ?_
              refine ⟨?_, ⟨M3, rfl, M3q, M3R⟩⟩
              rw [elv]
              (repeat first | rw [if_pos (by omega)] | rw [if_neg (by omega)])
              rw [Int.tdiv_eq_ediv_of_nonneg (by omega)]
          · have elv : lv = 1 := by omega
            refine sx_aload_n d_M_passes_54 rfl ?_
            refine sx_getR (r := some (76)) d_M_passes_55 fl_M_83 (go rfl rfl rfl) (by decide) (by decide) (by decide) rfl ?_
            refine sx_sipush d_M_passes_58 (by decide) ?_
            refine sx_iload_n d_M_passes_61 rfl ?_
            refine sx_imul d_M_passes_62 ?_
            refine sx_iload_n d_M_passes_63 rfl ?_
            refine sx_iadd d_M_passes_64 ?_
            refine sx_iald (z := (pT M w (M 23 w) (M 24 w) p 1)) d_M_passes_65 (go rfl rfl rfl) (by omega) (by omega) (by decide) (by show M3 76 (Int.toNat ((201 * (w : Int)) + p)) = _; rw [show (Int.toNat ((201 * (w : Int)) + p)) = 201 * w + (p).toNat by omega]; exact ((hS w (by omega)).2.2.2 p (by omega) (by omega)).2) ?_
            refine sx_goto (tgt := 81) d_M_passes_66 (by decide) ?_
            refine sx_istore (l' := [some (sx_p 51), some (.inl (w : Int)), some (.inl p), some (.inl lv), some (.inl x), some (.inl (pT M w (M 23 w) (M 24 w) p 1)), none]) d_M_passes_81 (by decide) rfl rfl ?_
            refine sx_iload d_M_passes_83 rfl ?_
            refine sx_aload_n d_M_passes_85 rfl ?_
            refine sx_getR (r := some (56)) d_M_passes_86 fl_M_22 (go rfl rfl rfl) (by decide) (by decide) (by decide) rfl ?_
            refine sx_iload_n d_M_passes_89 rfl ?_
            refine sx_iald (z := (M (14 + w) 4)) d_M_passes_90 (go rfl rfl rfl) (by omega) (by omega) (by decide) ((M3s 56 w (by decide) (by decide) (by omega)).trans (hM.msp w (by omega))) ?_
            refine sx_callS (c_M_gcd M3 (pT M w (M 23 w) (M 24 w) p 1) (M (14 + w) 4) (by omega) (by omega)) d_M_passes_91 cd_M_common lk_M_194 st_M_common (st := []) rfl rfl (Nat.le_of_ble_eq_true rfl) ⟨by decide, Nat.le_refl _, Nat.le_refl _⟩ (fun _ _ hq => ?_)
            obtain ⟨rfl, rfl⟩ := hq
            show sx_V _ _ _ _ (0, 0) _ _ [.inl (Int.gcd (pT M w (M 23 w) (M 24 w) p 1) (M (14 + w) 4) : Int)] (gm M3) _
            have g0 : 0 < Int.gcd (pT M w (M 23 w) (M 24 w) p 1) (M (14 + w) 4) := Nat.pos_of_ne_zero (fun q => by have := (Int.gcd_eq_zero_iff.mp q).2; omega)
            have g1 := Int.le_of_dvd (show 0 < (M (14 + w) 4) by omega) (Int.gcd_dvd_right (pT M w (M 23 w) (M 24 w) p 1) (M (14 + w) 4))
            refine sx_istore (l' := [some (sx_p 51), some (.inl (w : Int)), some (.inl p), some (.inl lv), some (.inl x), some (.inl (pT M w (M 23 w) (M 24 w) p 1)), some (.inl (Int.gcd (pT M w (M 23 w) (M 24 w) p 1) (M (14 + w) 4) : Int))]) d_M_passes_94 (by decide) rfl rfl ?_
            refine sx_iload d_M_passes_96 rfl ?_
            refine sx_if_ne (tgt := 109) d_M_passes_98 (by decide) (by first | omega | exact hM.ir _ _) (fun c98_118 => ?_) (fun c98_118 => ?_)
            · refine sx_aload_n d_M_passes_109 rfl ?_
              refine sx_getR (r := some (56)) d_M_passes_110 fl_M_22 (go rfl rfl rfl) (by decide) (by decide) (by decide) rfl ?_
              refine sx_iload_n d_M_passes_113 rfl ?_
              refine sx_iald (z := (M (14 + w) 4)) d_M_passes_114 (go rfl rfl rfl) (by omega) (by omega) (by decide) ((M3s 56 w (by decide) (by decide) (by omega)).trans (hM.msp w (by omega))) ?_
              refine sx_iload d_M_passes_115 rfl ?_
              refine sx_idiv d_M_passes_117 (by first | omega | exact hM.ir _ _) (by first | omega | exact hM.ir _ _) (by omega) ?_
              refine sx_retI d_M_passes_118 (Or.inl rfl) ⟨Nat.zero_le _, Nat.zero_le _⟩ ?_
              refine ⟨?_, ⟨M3, rfl, M3q, M3R⟩⟩
              rw [elv]
              (repeat first | rw [if_pos (by omega)] | rw [if_neg (by omega)])
              rw [Int.tdiv_eq_ediv_of_nonneg (by omega)]
            · refine sx_iload d_M_passes_101 rfl ?_
              refine sx_iload d_M_passes_103 rfl ?_
              refine sx_idiv d_M_passes_105 (by first | omega | exact hM.ir _ _) (by first | omega | exact hM.ir _ _) (by omega) ?_
              refine sx_goto (tgt := 118) d_M_passes_106 (by decide) ?_
              refine sx_retI d_M_passes_118 (Or.inl rfl) ⟨Nat.zero_le _, Nat.zero_le _⟩ ?_
              refine ⟨?_, ⟨M3, rfl, M3q, M3R⟩⟩
              rw [elv]
              (repeat first | rw [if_pos (by omega)] | rw [if_neg (by omega)])
              rw [Int.tdiv_eq_ediv_of_nonneg (by omega)]
        · omega
set_option maxRecDepth 100000 in
set_option maxHeartbeats 4000000 in
theorem m_under_bad {L : Nat} {xs : Nat → Int32} (M : Nat → Nat → Int) (nc nw nb : Nat) (hM : MR M nc nw nb) (M1 : Nat → Nat → Int) (M1s : sf M M1) (M1R : IR M1) (kd day : Int) (hkd : sx_r kd) (hday : sx_r day) (hbd : ¬ (M 1 7 ≠ 0 ∧ 0 ≤ kd ∧ kd ≤ 3 ∧ 0 ≤ day)) : sx_R y_M_under (1, 0, 0) L xs [sx_p 51, .inl kd, .inl day] (gm M1) (fun v h2 => v = some (.inl (-1)) ∧ h2 = gm M1) := by
  have w6 := hM.w6
  have c4 := hM.c4
  have b8 := hM.b8
  have r33 : 0 ≤ M 3 3 ∧ M 3 3 ≤ 200 := by (have := hM.dy.2.2.2; have := dy_le (dr M) 200; omega)
  refine sx_enter rfl (Nat.le_of_ble_eq_true rfl) rfl ?_
  show sx_V y_M_under (1, 0, 0) L xs (0, 0) 0 [some (sx_p 51), some (.inl kd), some (.inl day), none, none] [] (gm M1) _
  refine sx_aload_n d_M_under_0 rfl ?_
  refine sx_getI (z := (M 1 7)) d_M_under_1 fl_M_99 (go rfl rfl rfl) (by decide) (by decide) (by decide) ((M1s 51 19 (by decide) (by decide) (by omega)).trans hM.mha) ?_
  refine sx_if_eq (tgt := 20) d_M_under_4 (by decide) (by first | omega | exact hM.ir _ _) (fun c4_11 => ?_) (fun c4_11 => ?_)
  · refine sx_iconst d_M_under_20 ?_
    refine sx_retI d_M_under_21 (Or.inl rfl) ⟨Nat.zero_le _, Nat.zero_le _⟩ ?_
    exact ⟨rfl, rfl⟩
  · refine sx_iload_n d_M_under_7 rfl ?_
    refine sx_iconst d_M_under_8 ?_
    refine sx_iconst d_M_under_9 ?_
    refine sx_callS (c_M_within M1 kd 0 3 (by omega) (by omega) (by omega)) d_M_under_10 cd_M_within lk_M_103 st_M_within (st := []) rfl rfl (Nat.le_of_ble_eq_true rfl) ⟨by decide, Nat.le_refl _, Nat.le_refl _⟩ (fun _ _ hq => ?_)
    obtain ⟨z146, rfl, z146b, z146i, rfl⟩ := hq
    show sx_V _ _ _ _ (0, 0) _ _ [.inl z146] (gm M1) _
    refine sx_if_eq (tgt := 20) d_M_under_13 (by decide) (by first | omega | exact hM.ir _ _) (fun c13_21 => ?_) (fun c13_21 => ?_)
    · refine sx_iconst d_M_under_20 ?_
      refine sx_retI d_M_under_21 (Or.inl rfl) ⟨Nat.zero_le _, Nat.zero_le _⟩ ?_
      exact ⟨rfl, rfl⟩
    · refine sx_iload_n d_M_under_16 rfl ?_
      refine sx_if_ge (tgt := 22) d_M_under_17 (by decide) (by first | omega | exact hM.ir _ _) (fun c17_26 => ?_) (fun c17_26 => ?_)
      · omega
      · refine sx_iconst d_M_under_20 ?_
        refine sx_retI d_M_under_21 (Or.inl rfl) ⟨Nat.zero_le _, Nat.zero_le _⟩ ?_
        exact ⟨rfl, rfl⟩
theorem und_1 {M : Nat → Nat → Int} {kd day : Int} {j : Nat} (h : und M kd day j = 1) : M (14 + j) 1 = kd ∧ M 23 j ≤ day ∧ day < eT M j (M 23 j) := by
  unfold und at h
  split at h
  · assumption
  · exact absurd h (by decide)
theorem uu_s {M : Nat → Nat → Int} {kd day : Int} {i : Nat} : (if dr M day.toNat = false then sm (und M kd day) (i + 1) else 0) = (if dr M day.toNat = false then sm (und M kd day) i else 0) + (if dr M day.toNat = false ∧ und M kd day i = 1 then 1 else 0) := by
  have h := und_r M kd day i
  by_cases q : dr M day.toNat = false
  · rw [if_pos q, if_pos q]
    show sm (und M kd day) i + und M kd day i = _
    by_cases q2 : und M kd day i = 1
    · rw [if_pos ⟨q, q2⟩, q2]
    · rw [if_neg (fun k => q2 k.2)]; omega
  · rw [if_neg q, if_neg q, if_neg (fun k => q k.1)]; rfl
theorem uu_1 {M : Nat → Nat → Int} {kd day : Int} {i : Nat} (h1 : dr M day.toNat = false) (h2 : M (14 + i) 1 = kd) (h3 : M 23 i ≤ day) (h4 : day < eT M i (M 23 i)) : (if dr M day.toNat = false then sm (und M kd day) (i + 1) else 0) = (if dr M day.toNat = false then sm (und M kd day) i else 0) + 1 := by
  rw [uu_s, show (if dr M day.toNat = false ∧ und M kd day i = 1 then (1 : Int) else 0) = 1 from if_pos ⟨h1, by unfold und; rw [if_pos ⟨h2, h3, h4⟩]⟩]
theorem uu_0 {M : Nat → Nat → Int} {kd day : Int} {i : Nat} (h : dr M day.toNat = false → und M kd day i = 1 → False) : (if dr M day.toNat = false then sm (und M kd day) (i + 1) else 0) = (if dr M day.toNat = false then sm (und M kd day) i else 0) + 0 := by
  rw [uu_s, show (if dr M day.toNat = false ∧ und M kd day i = 1 then (1 : Int) else 0) = 0 from if_neg (fun k => h k.1 k.2)]
theorem uu_r {M : Nat → Nat → Int} {kd day : Int} (i : Nat) : 0 ≤ (if dr M day.toNat = false then sm (und M kd day) i else 0) ∧ (if dr M day.toNat = false then sm (und M kd day) i else 0) ≤ i := by
  have := sm_r2 (f := und M kd day) (c := 1) i (fun j _ => und_r M kd day j)
  split <;> omega
set_option maxRecDepth 100000 in
set_option maxHeartbeats 4000000 in
theorem l_M_under {L : Nat} {xs : Nat → Int32} (M : Nat → Nat → Int) (nc nw nb : Nat) (hM : MR M nc nw nb) (M1 : Nat → Nat → Int) (M1s : sf M M1) (M1R : IR M1) (M3 : Nat → Nat → Int) (M3q : mq M1 M3) (M3s : sf M M3) (M3R : IR M3) (hS : SLt M nw (M 23) (M 24) M3) (hV : VS M nw (M 23) (M 24)) (kd day : Int) (hkd : sx_r kd) (hday : sx_r day) : ∀ (n i : Nat), nw - i < n → i ≤ nw → sx_V y_M_under (4, 0, 0) L xs (0, 0) 31 [some (sx_p 51), some (.inl kd), some (.inl day), some (.inl (if dr M day.toNat = false then sm (und M kd day) i else 0)), some (.inl (i : Int))] [] (gm M3) (fun v h2 => v = some (.inl (if dr M day.toNat = false then sm (und M kd day) nw else 0)) ∧ ∃ M2, h2 = gm M2 ∧ mq M1 M2 ∧ IR M2) := by
  have w6 := hM.w6
  have c4 := hM.c4
  have b8 := hM.b8
  have r33 : 0 ≤ M 3 3 ∧ M 3 3 ≤ 200 := by (have := hM.dy.2.2.2; have := dy_le (dr M) 200; omega)
  intro n
  induction n with
  | zero => intro i h1 h2; omega
  | succ n ih =>
    intro i hn hi
    have uur := uu_r (M := M) (kd := kd) (day := day) i
    refine sx_iload d_M_under_31 rfl ?_
    refine sx_aload_n d_M_under_33 rfl ?_
    refine sx_getI (z := (nw : Int)) d_M_under_34 fl_M_95 (go rfl rfl rfl) (by decide) (by decide) (by decide) ((M3s 51 2 (by decide) (by decide) (by omega)).trans hM.mwn) ?_
    refine sx_icmp_ge (tgt := 80) d_M_under_37 (by decide) (by first | omega | exact hM.ir _ _) (by first | omega | exact hM.ir _ _) (fun c37_16 => ?_) (fun c37_16 => ?_)
    · refine sx_iload_n d_M_under_80 rfl ?_
      refine sx_retI d_M_under_81 (Or.inl rfl) ⟨Nat.zero_le _, Nat.zero_le _⟩ ?_
      have e0 : i = nw := by omega
      subst e0
      exact ⟨rfl, ⟨M3, rfl, M3q, M3R⟩⟩
    · have cqb := hM.mcr i (by omega)
      have kqb := (hM.ws i (by omega)).2.2.2.1
      refine sx_iload_n d_M_under_40 rfl ?_
      refine sx_aload_n d_M_under_41 rfl ?_
      refine sx_getR (r := some (52)) d_M_under_42 fl_M_7 (go rfl rfl rfl) (by decide) (by decide) (by decide) rfl ?_
      refine sx_aload_n d_M_under_45 rfl ?_
      refine sx_getR (r := some (53)) d_M_under_46 fl_M_13 (go rfl rfl rfl) (by decide) (by decide) (by decide) rfl ?_
      refine sx_iload d_M_under_49 rfl ?_
      refine sx_iald (z := (M (14 + i) 0)) d_M_under_51 (go rfl rfl rfl) (by omega) (by omega) (by decide) ((M3s 53 i (by decide) (by decide) (by omega)).trans (hM.mcr i (by omega)).1) ?_
      refine sx_iald (z := (M (14 + i) 1)) d_M_under_52 (go rfl rfl rfl) (by omega) (by omega) (by decide) ((M3s 52 _ (by decide) (by decide) (by omega)).trans ((hM.mkd _ (by have := hM.mcr i (by omega); omega)).1.trans (hM.mcr i (by omega)).2.2.2.symm)) ?_
      refine sx_iload_n d_M_under_53 rfl ?_
      refine sx_icmp_ne (tgt := 71) d_M_under_54 (by decide) (by first | omega | exact hM.ir _ _) (by first | omega | exact hM.ir _ _) (fun c54_33 => ?_) (fun c54_33 => ?_)
      · refine sx_iconst d_M_under_71 ?_
        refine sx_iadd d_M_under_72 ?_
        refine sx_istore_n (l' := [some (sx_p 51), some (.inl kd), some (.inl day), some (.inl ((if dr M day.toNat = false then sm (und M kd day) i else 0) + 0)), some (.inl (i : Int))]) d_M_under_73 (by decide) rfl rfl ?_
        refine sx_iinc (l' := [some (sx_p 51), some (.inl kd), some (.inl day), some (.inl ((if dr M day.toNat = false then sm (und M kd day) i else 0) + 0)), some (.inl ((i : Int) + 1))]) d_M_under_74 rfl (by decide) rfl rfl ?_
        refine sx_goto (tgt := 31) d_M_under_77 (by decide) ?_
        have e1 : ((i : Int) + 1) = ((i + 1 : Nat) : Int) := by omega
        rw [e1]
        have e2 : ((if dr M day.toNat = false then sm (und M kd day) i else 0) + 0) = (if dr M day.toNat = false then sm (und M kd day) (i + 1) else 0) := by (first | exact (uu_1 (zui.mp (by omega)).2.2 (by omega) (zui.mp (by omega)).1 (zui.mp (by omega)).2.1).symm | exact (uu_0 (fun k1 k2 => by have k3 := und_1 k2; first | omega | (have := zui.mpr ⟨k3.2.1, k3.2.2, k1⟩; omega))).symm)
        rw [e2]
        exact ih (i + 1) (by omega) (by omega)
      · refine sx_aload_n d_M_under_57 rfl ?_
        refine sx_iload d_M_under_58 rfl ?_
        refine sx_iload_n d_M_under_60 rfl ?_
        refine sx_callV (c_M_un M nc nw nb hM M3 M3s M3R i (by omega) i (by omega) (M 23 i) (M 24 i) (by have := (hV i (by omega)).1; omega) (hS i (by omega)) day (by omega)) d_M_under_61 cd_M_isUnder lk_M_141 im_M_isUnder se_M_isUnder (go rfl rfl rfl) rfl rfl (by decide) (st := [.inl (if dr M day.toNat = false then sm (und M kd day) i else 0)]) rfl rfl (Nat.le_of_ble_eq_true rfl) ⟨by decide, Nat.le_refl _, Nat.le_refl _⟩ (fun _ _ hq => ?_)
        obtain ⟨zu, rfl, zub, zui, rfl⟩ := hq
        show sx_V _ _ _ _ (0, 0) _ _ [.inl zu, .inl (if dr M day.toNat = false then sm (und M kd day) i else 0)] (gm M3) _
        refine sx_if_eq (tgt := 71) d_M_under_64 (by decide) (by first | omega | exact hM.ir _ _) (fun c64_50 => ?_) (fun c64_50 => ?_)
        · refine sx_iconst d_M_under_71 ?_
          refine sx_iadd d_M_under_72 ?_
          refine sx_istore_n (l' := [some (sx_p 51), some (.inl kd), some (.inl day), some (.inl ((if dr M day.toNat = false then sm (und M kd day) i else 0) + 0)), some (.inl (i : Int))]) d_M_under_73 (by decide) rfl rfl ?_
          refine sx_iinc (l' := [some (sx_p 51), some (.inl kd), some (.inl day), some (.inl ((if dr M day.toNat = false then sm (und M kd day) i else 0) + 0)), some (.inl ((i : Int) + 1))]) d_M_under_74 rfl (by decide) rfl rfl ?_
          refine sx_goto (tgt := 31) d_M_under_77 (by decide) ?_
          have e1 : ((i : Int) + 1) = ((i + 1 : Nat) : Int) := by omega
          rw [e1]
          have e2 : ((if dr M day.toNat = false then sm (und M kd day) i else 0) + 0) = (if dr M day.toNat = false then sm (und M kd day) (i + 1) else 0) := by (first | exact (uu_1 (zui.mp (by omega)).2.2 (by omega) (zui.mp (by omega)).1 (zui.mp (by omega)).2.1).symm | exact (uu_0 (fun k1 k2 => by have k3 := und_1 k2; first | omega | (have := zui.mpr ⟨k3.2.1, k3.2.2, k1⟩; omega))).symm)
          rw [e2]
          exact ih (i + 1) (by omega) (by omega)
        · refine sx_iconst d_M_under_67 ?_
          refine sx_goto (tgt := 72) d_M_under_68 (by decide) ?_
          refine sx_iadd d_M_under_72 ?_
          refine sx_istore_n (l' := [some (sx_p 51), some (.inl kd), some (.inl day), some (.inl ((if dr M day.toNat = false then sm (und M kd day) i else 0) + 1)), some (.inl (i : Int))]) d_M_under_73 (by decide) rfl rfl ?_
          refine sx_iinc (l' := [some (sx_p 51), some (.inl kd), some (.inl day), some (.inl ((if dr M day.toNat = false then sm (und M kd day) i else 0) + 1)), some (.inl ((i : Int) + 1))]) d_M_under_74 rfl (by decide) rfl rfl ?_
          refine sx_goto (tgt := 31) d_M_under_77 (by decide) ?_
          have e1 : ((i : Int) + 1) = ((i + 1 : Nat) : Int) := by omega
          rw [e1]
          have e2 : ((if dr M day.toNat = false then sm (und M kd day) i else 0) + 1) = (if dr M day.toNat = false then sm (und M kd day) (i + 1) else 0) := by (first | exact (uu_1 (zui.mp (by omega)).2.2 (by omega) (zui.mp (by omega)).1 (zui.mp (by omega)).2.1).symm | exact (uu_0 (fun k1 k2 => by have k3 := und_1 k2; first | omega | (have := zui.mpr ⟨k3.2.1, k3.2.2, k1⟩; omega))).symm)
          rw [e2]
          exact ih (i + 1) (by omega) (by omega)
set_option maxRecDepth 100000 in
set_option maxHeartbeats 4000000 in
theorem m_under_ok {L : Nat} {xs : Nat → Int32} (M : Nat → Nat → Int) (nc nw nb : Nat) (hM : MR M nc nw nb) (M1 : Nat → Nat → Int) (M1s : sf M M1) (M1R : IR M1) (h7 : M 1 7 ≠ 0) (kd day : Int) (hkd : sx_r kd) (hday : sx_r day) (hg : 0 ≤ kd ∧ kd ≤ 3 ∧ 0 ≤ day) : sx_R y_M_under (4, 0, 0) L xs [sx_p 51, .inl kd, .inl day] (gm M1) (fun v h2 => v = some (.inl (if dr M day.toNat = false then sm (und M kd day) nw else 0)) ∧ ∃ M2, h2 = gm M2 ∧ mq M1 M2 ∧ IR M2) := by
  have w6 := hM.w6
  have c4 := hM.c4
  have b8 := hM.b8
  have r33 : 0 ≤ M 3 3 ∧ M 3 3 ≤ 200 := by (have := hM.dy.2.2.2; have := dy_le (dr M) 200; omega)
  refine sx_enter rfl (Nat.le_of_ble_eq_true rfl) rfl ?_
  show sx_V y_M_under (4, 0, 0) L xs (0, 0) 0 [some (sx_p 51), some (.inl kd), some (.inl day), none, none] [] (gm M1) _
  refine sx_aload_n d_M_under_0 rfl ?_
  refine sx_getI (z := (M 1 7)) d_M_under_1 fl_M_99 (go rfl rfl rfl) (by decide) (by decide) (by decide) ((M1s 51 19 (by decide) (by decide) (by omega)).trans hM.mha) ?_
  refine sx_if_eq (tgt := 20) d_M_under_4 (by decide) (by first | omega | exact hM.ir _ _) (fun c4_11 => ?_) (fun c4_11 => ?_)
  · omega
  · refine sx_iload_n d_M_under_7 rfl ?_
    refine sx_iconst d_M_under_8 ?_
    refine sx_iconst d_M_under_9 ?_
    refine sx_callS (c_M_within M1 kd 0 3 (by omega) (by omega) (by omega)) d_M_under_10 cd_M_within lk_M_103 st_M_within (st := []) rfl rfl (Nat.le_of_ble_eq_true rfl) ⟨by decide, Nat.le_refl _, Nat.le_refl _⟩ (fun _ _ hq => ?_)
    obtain ⟨z147, rfl, z147b, z147i, rfl⟩ := hq
    show sx_V _ _ _ _ (0, 0) _ _ [.inl z147] (gm M1) _
    refine sx_if_eq (tgt := 20) d_M_under_13 (by decide) (by first | omega | exact hM.ir _ _) (fun c13_19 => ?_) (fun c13_19 => ?_)
    · omega
    · refine sx_iload_n d_M_under_16 rfl ?_
      refine sx_if_ge (tgt := 22) d_M_under_17 (by decide) (by first | omega | exact hM.ir _ _) (fun c17_22 => ?_) (fun c17_22 => ?_)
      · refine sx_aload_n d_M_under_22 rfl ?_
        refine sx_callV (c_M_lp M nc nw nb hM M1 M1s M1R h7) d_M_under_23 cd_M_layPlan lk_M_191 im_M_layPlan se_M_layPlan (go rfl rfl rfl) rfl rfl (by decide) (st := []) rfl rfl (Nat.le_of_ble_eq_true rfl) ⟨by decide, Nat.le_refl _, Nat.le_refl _⟩ (fun _ _ hq => ?_)
        obtain ⟨rfl, M3, rfl, M3q, M3s, M3R, hS⟩ := hq
        have hV := hM.VS h7
        show sx_V _ _ _ _ (0, 0) _ _ [] (gm M3) _
        refine sx_iconst d_M_under_26 ?_
        refine sx_istore_n (l' := [some (sx_p 51), some (.inl kd), some (.inl day), some (.inl 0), none]) d_M_under_27 (by decide) rfl rfl ?_
        refine sx_iconst d_M_under_28 ?_
        refine sx_istore (l' := [some (sx_p 51), some (.inl kd), some (.inl day), some (.inl 0), some (.inl 0)]) d_M_under_29 (by decide) rfl rfl ?_
        have q := l_M_under (L := L) (xs := xs) M nc nw nb hM M1 M1s M1R M3 M3q M3s M3R hS hV kd day hkd hday (nw + 1) 0 (by omega) (by omega)
        rw [show (if dr M day.toNat = false then sm (und M kd day) 0 else 0) = (0 : Int) by split <;> rfl] at q
        exact q
      · omega
set_option maxRecDepth 100000 in
set_option maxHeartbeats 4000000 in
theorem l_M_cnt {L : Nat} {xs : Nat → Int32} (M : Nat → Nat → Int) (nc nw nb : Nat) (hM : MR M nc nw nb) (M1 : Nat → Nat → Int) (M1s : sf M M1) (M1R : IR M1) (x : Int) : ∀ (n i : Nat), nw - i < n → i ≤ nw → sx_V y_M_count (4, 0, 0) L xs (0, 0) 62 [some (sx_p 51), some (.inl x), some (.inl (sm (fun j => if M (14 + j) 10 = 0 then 0 else 1) i)), some (.inl (i : Int))] [] (gm M1) (fun v h2 => v = some (.inl (sm (fun j => if M (14 + j) 10 = 0 then 0 else 1) nw)) ∧ ∃ M2, h2 = gm M2 ∧ mq M1 M2 ∧ IR M2) := by
  have w6 := hM.w6
  have c4 := hM.c4
  have b8 := hM.b8
  have r33 : 0 ≤ M 3 3 ∧ M 3 3 ≤ 200 := by (have := hM.dy.2.2.2; have := dy_le (dr M) 200; omega)
  intro n
  induction n with
  | zero => intro i h1 h2; omega
  | succ n ih =>
    intro i hn hi
    refine sx_iload_n d_M_count_62 rfl ?_
    refine sx_aload_n d_M_count_63 rfl ?_
    refine sx_getI (z := (nw : Int)) d_M_count_64 fl_M_95 (go rfl rfl rfl) (by decide) (by decide) (by decide) ((M1s 51 2 (by decide) (by decide) (by omega)).trans hM.mwn) ?_
    refine sx_icmp_ge (tgt := 93) d_M_count_67 (by decide) (by first | omega | exact hM.ir _ _) (by first | omega | exact hM.ir _ _) (fun c67_15 => ?_) (fun c67_15 => ?_)
    · refine sx_iload_n d_M_count_93 rfl ?_
      refine sx_retI d_M_count_94 (Or.inl rfl) ⟨Nat.zero_le _, Nat.zero_le _⟩ ?_
      have e0 : i = nw := by omega
      subst e0
      exact ⟨rfl, M1, rfl, fun _ _ _ _ => rfl, M1R⟩
    · refine sx_iload_n d_M_count_70 rfl ?_
      refine sx_aload_n d_M_count_71 rfl ?_
      refine sx_getR (r := some (69)) d_M_count_72 fl_M_62 (go rfl rfl rfl) (by decide) (by decide) (by decide) rfl ?_
      refine sx_iload_n d_M_count_75 rfl ?_
      refine sx_zald (z := (M (14 + i) 10)) d_M_count_76 (go rfl rfl rfl) (by omega) (by omega) (by decide) ((M1s 69 i (by decide) (by decide) (by omega)).trans (hM.mfz i (by omega)).1) ?_
      refine sx_if_eq (tgt := 84) d_M_count_77 (by decide) (by first | omega | exact hM.ir _ _) (fun c77_26 => ?_) (fun c77_26 => ?_)
      · refine sx_iconst d_M_count_84 ?_
        refine sx_iadd d_M_count_85 ?_
        refine sx_istore_n (l' := [some (sx_p 51), some (.inl x), some (.inl ((sm (fun j => if M (14 + j) 10 = 0 then 0 else 1) i) + 0)), some (.inl (i : Int))]) d_M_count_86 (by decide) rfl rfl ?_
        refine sx_iinc (l' := [some (sx_p 51), some (.inl x), some (.inl ((sm (fun j => if M (14 + j) 10 = 0 then 0 else 1) i) + 0)), some (.inl ((i : Int) + 1))]) d_M_count_87 rfl (by decide) rfl rfl ?_
        refine sx_goto (tgt := 62) d_M_count_90 (by decide) ?_
        have e1 : ((i : Int) + 1) = ((i + 1 : Nat) : Int) := by omega
        rw [e1]
        have e2 : ((sm (fun j => if M (14 + j) 10 = 0 then 0 else 1) i) + 0) = sm (fun j => if M (14 + j) 10 = 0 then 0 else 1) (i + 1) := by (simp only [sm]; first | rw [if_pos (by omega)] | rw [if_neg (by omega)])
        rw [e2]
        exact ih (i + 1) (by omega) (by omega)
      · refine sx_iconst d_M_count_80 ?_
        refine sx_goto (tgt := 85) d_M_count_81 (by decide) ?_
        refine sx_iadd d_M_count_85 ?_
        refine sx_istore_n (l' := [some (sx_p 51), some (.inl x), some (.inl ((sm (fun j => if M (14 + j) 10 = 0 then 0 else 1) i) + 1)), some (.inl (i : Int))]) d_M_count_86 (by decide) rfl rfl ?_
        refine sx_iinc (l' := [some (sx_p 51), some (.inl x), some (.inl ((sm (fun j => if M (14 + j) 10 = 0 then 0 else 1) i) + 1)), some (.inl ((i : Int) + 1))]) d_M_count_87 rfl (by decide) rfl rfl ?_
        refine sx_goto (tgt := 62) d_M_count_90 (by decide) ?_
        have e1 : ((i : Int) + 1) = ((i + 1 : Nat) : Int) := by omega
        rw [e1]
        have e2 : ((sm (fun j => if M (14 + j) 10 = 0 then 0 else 1) i) + 1) = sm (fun j => if M (14 + j) 10 = 0 then 0 else 1) (i + 1) := by (simp only [sm]; first | rw [if_pos (by omega)] | rw [if_neg (by omega)])
        rw [e2]
        exact ih (i + 1) (by omega) (by omega)
set_option maxRecDepth 100000 in
set_option maxHeartbeats 4000000 in
theorem m_count {L : Nat} {xs : Nat → Int32} (M : Nat → Nat → Int) (nc nw nb : Nat) (hM : MR M nc nw nb) (M1 : Nat → Nat → Int) (M1s : sf M M1) (M1R : IR M1) (x : Int) (hx : sx_r x) : sx_R y_M_count (4, 0, 0) L xs [sx_p 51, .inl x] (gm M1) (fun v h2 => v = some (.inl (if x = 0 then M 2 8 else if x = 1 then (nw : Int) else if x = 2 then M 3 3 else if x = 3 then M 2 10 else if x = 4 then sm (fun j => if M (14 + j) 10 = 0 then 0 else 1) nw else if x = 5 then (if M 1 7 = 0 then -1 else M 1 8) else -1)) ∧ ∃ M2, h2 = gm M2 ∧ mq M1 M2 ∧ IR M2) := by
  have w6 := hM.w6
  have c4 := hM.c4
  have b8 := hM.b8
  have r33 : 0 ≤ M 3 3 ∧ M 3 3 ≤ 200 := by (have := hM.dy.2.2.2; have := dy_le (dr M) 200; omega)
  refine sx_enter rfl (Nat.le_of_ble_eq_true rfl) rfl ?_
  show sx_V y_M_count (4, 0, 0) L xs (0, 0) 0 [some (sx_p 51), some (.inl x), none, none] [] (gm M1) _
  refine sx_iconst d_M_count_0 ?_
  refine sx_istore_n (l' := [some (sx_p 51), some (.inl x), some (.inl 0), none]) d_M_count_1 (by decide) rfl rfl ?_
  refine sx_iload_n d_M_count_2 rfl ?_
  rcases (show (x < 0 ∨ 5 < x) ∨ x = 0 ∨ x = 1 ∨ x = 2 ∨ x = 3 ∨ x = 4 ∨ x = 5 by omega) with ts12 | ts12 | ts12 | ts12 | ts12 | ts12 | ts12
  · refine sx_tswOut (tgt := 126) d_M_count_3 (by first | omega | exact hM.ir _ _) ts12 (by decide) ?_
    refine sx_iconst d_M_count_126 ?_
    refine sx_retI d_M_count_127 (Or.inl rfl) ⟨Nat.zero_le _, Nat.zero_le _⟩ ?_
    refine ⟨?_, ⟨M1, rfl, fun _ _ _ _ => rfl, M1R⟩⟩
    (repeat' first | rw [if_pos (by omega)] | rw [if_neg (by omega)])
    all_goals first | rfl | (rw [hM.cn]; done) | (rw [hM.bn]; done)
  · refine sx_tswIn (off := 37) (tgt := 40) d_M_count_3 (by first | omega | exact hM.ir _ _) (by omega) (by omega) (by rw [ts12]; rfl) (by decide) ?_
    refine sx_aload_n d_M_count_40 rfl ?_
    refine sx_getI (z := (nc : Int)) d_M_count_41 fl_M_107 (go rfl rfl rfl) (by decide) (by decide) (by decide) ((M1s 51 0 (by decide) (by decide) (by omega)).trans hM.mcn) ?_
    refine sx_retI d_M_count_44 (Or.inl rfl) ⟨Nat.zero_le _, Nat.zero_le _⟩ ?_
    refine ⟨?_, ⟨M1, rfl, fun _ _ _ _ => rfl, M1R⟩⟩
    (repeat' first | rw [if_pos (by omega)] | rw [if_neg (by omega)])
    all_goals first | rfl | (rw [hM.cn]; done) | (rw [hM.bn]; done)
  · refine sx_tswIn (off := 42) (tgt := 45) d_M_count_3 (by first | omega | exact hM.ir _ _) (by omega) (by omega) (by rw [ts12]; rfl) (by decide) ?_
    refine sx_aload_n d_M_count_45 rfl ?_
    refine sx_getI (z := (nw : Int)) d_M_count_46 fl_M_95 (go rfl rfl rfl) (by decide) (by decide) (by decide) ((M1s 51 2 (by decide) (by decide) (by omega)).trans hM.mwn) ?_
    refine sx_retI d_M_count_49 (Or.inl rfl) ⟨Nat.zero_le _, Nat.zero_le _⟩ ?_
    refine ⟨?_, ⟨M1, rfl, fun _ _ _ _ => rfl, M1R⟩⟩
    (repeat' first | rw [if_pos (by omega)] | rw [if_neg (by omega)])
    all_goals first | rfl | (rw [hM.cn]; done) | (rw [hM.bn]; done)
  · refine sx_tswIn (off := 47) (tgt := 50) d_M_count_3 (by first | omega | exact hM.ir _ _) (by omega) (by omega) (by rw [ts12]; rfl) (by decide) ?_
    refine sx_aload_n d_M_count_50 rfl ?_
    refine sx_getI (z := (M 3 3)) d_M_count_51 fl_M_120 (go rfl rfl rfl) (by decide) (by decide) (by decide) ((M1s 51 15 (by decide) (by decide) (by omega)).trans hM.mrs) ?_
    refine sx_retI d_M_count_54 (Or.inl rfl) ⟨Nat.zero_le _, Nat.zero_le _⟩ ?_
    refine ⟨?_, ⟨M1, rfl, fun _ _ _ _ => rfl, M1R⟩⟩
    (repeat' first | rw [if_pos (by omega)] | rw [if_neg (by omega)])
    all_goals first | rfl | (rw [hM.cn]; done) | (rw [hM.bn]; done)
  · refine sx_tswIn (off := 52) (tgt := 55) d_M_count_3 (by first | omega | exact hM.ir _ _) (by omega) (by omega) (by rw [ts12]; rfl) (by decide) ?_
    refine sx_aload_n d_M_count_55 rfl ?_
    refine sx_getI (z := (nb : Int)) d_M_count_56 fl_M_117 (go rfl rfl rfl) (by decide) (by decide) (by decide) ((M1s 51 11 (by decide) (by decide) (by omega)).trans hM.mbn) ?_
    refine sx_retI d_M_count_59 (Or.inl rfl) ⟨Nat.zero_le _, Nat.zero_le _⟩ ?_
    refine ⟨?_, ⟨M1, rfl, fun _ _ _ _ => rfl, M1R⟩⟩
    (repeat' first | rw [if_pos (by omega)] | rw [if_neg (by omega)])
    all_goals first | rfl | (rw [hM.cn]; done) | (rw [hM.bn]; done)
  · refine sx_tswIn (off := 57) (tgt := 60) d_M_count_3 (by first | omega | exact hM.ir _ _) (by omega) (by omega) (by rw [ts12]; rfl) (by decide) ?_
    refine sx_iconst d_M_count_60 ?_
    refine sx_istore_n (l' := [some (sx_p 51), some (.inl x), some (.inl 0), some (.inl 0)]) d_M_count_61 (by decide) rfl rfl ?_
    have q := l_M_cnt (L := L) (xs := xs) M nc nw nb hM M1 M1s M1R x (nw + 1) 0 (by omega) (by omega)
    (repeat' first | rw [if_pos (by omega)] | rw [if_neg (by omega)])
    exact q
  · refine sx_tswIn (off := 92) (tgt := 95) d_M_count_3 (by first | omega | exact hM.ir _ _) (by omega) (by omega) (by rw [ts12]; rfl) (by decide) ?_
    refine sx_aload_n d_M_count_95 rfl ?_
    refine sx_getI (z := (M 1 7)) d_M_count_96 fl_M_99 (go rfl rfl rfl) (by decide) (by decide) (by decide) ((M1s 51 19 (by decide) (by decide) (by omega)).trans hM.mha) ?_
    refine sx_if_eq (tgt := 106) d_M_count_99 (by decide) (by first | omega | exact hM.ir _ _) (fun c99_56 => ?_) (fun c99_56 => ?_)
    · refine sx_aload_n d_M_count_106 rfl ?_
      refine sx_getI (z := (M 1 7)) d_M_count_107 fl_M_99 (go rfl rfl rfl) (by decide) (by decide) (by decide) ((M1s 51 19 (by decide) (by decide) (by omega)).trans hM.mha) ?_
      refine sx_if_eq (tgt := 124) d_M_count_110 (by decide) (by first | omega | exact hM.ir _ _) (fun c110_59 => ?_) (fun c110_59 => ?_)
      · refine sx_iconst d_M_count_124 ?_
        refine sx_retI d_M_count_125 (Or.inl rfl) ⟨Nat.zero_le _, Nat.zero_le _⟩ ?_
        refine ⟨?_, ⟨M1, rfl, fun _ _ _ _ => rfl, M1R⟩⟩
        (repeat' first | rw [if_pos (by omega)] | rw [if_neg (by omega)])
        all_goals first | rfl | (rw [hM.cn]; done) | (rw [hM.bn]; done)
      · refine sx_aload_n d_M_count_113 rfl ?_
        refine sx_aload_n d_M_count_114 rfl ?_
        refine sx_getI (z := (nw : Int)) d_M_count_115 fl_M_95 (go rfl rfl rfl) (by decide) (by decide) (by decide) ((M1s 51 2 (by decide) (by decide) (by omega)).trans hM.mwn) ?_
        refine sx_callV (c_M_ge M nc nw nb hM M1 M1s M1R nw (by omega) (M 23) (M 24) (by exfalso; omega) (by exfalso; omega)) d_M_count_118 cd_M_greatestEnd lk_M_147 im_M_greatestEnd se_M_greatestEnd (go rfl rfl rfl) rfl rfl (by decide) (st := []) rfl rfl (Nat.le_of_ble_eq_true rfl) ⟨by decide, Nat.le_refl _, Nat.le_refl _⟩ (fun _ _ hq => ?_)
        obtain ⟨rfl, rfl⟩ := hq
        show sx_V _ _ _ _ (0, 0) _ _ [.inl (gE M (M 23) nw)] (gm M1) _
        refine sx_goto (tgt := 125) d_M_count_121 (by decide) ?_
        refine sx_retI d_M_count_125 (Or.inl rfl) ⟨Nat.zero_le _, Nat.zero_le _⟩ ?_
        exfalso; omega
    · refine sx_aload_n d_M_count_102 rfl ?_
      refine sx_callV (c_M_lp M nc nw nb hM M1 M1s M1R (by omega)) d_M_count_103 cd_M_layPlan lk_M_191 im_M_layPlan se_M_layPlan (go rfl rfl rfl) rfl rfl (by decide) (st := []) rfl rfl (Nat.le_of_ble_eq_true rfl) ⟨by decide, Nat.le_refl _, Nat.le_refl _⟩ (fun _ _ hq => ?_)
      obtain ⟨rfl, M3, rfl, M3q, M3s, M3R, hS⟩ := hq
      have hV := hM.VS (by omega)
      show sx_V _ _ _ _ (0, 0) _ _ [] (gm M3) _
      refine sx_aload_n d_M_count_106 rfl ?_
      refine sx_getI (z := (M 1 7)) d_M_count_107 fl_M_99 (go rfl rfl rfl) (by decide) (by decide) (by decide) ((M3s 51 19 (by decide) (by decide) (by omega)).trans hM.mha) ?_
      refine sx_if_eq (tgt := 124) d_M_count_110 (by decide) (by first | omega | exact hM.ir _ _) (fun c110_81 => ?_) (fun c110_81 => ?_)
      · refine sx_iconst d_M_count_124 ?_
        refine sx_retI d_M_count_125 (Or.inl rfl) ⟨Nat.zero_le _, Nat.zero_le _⟩ ?_
        exfalso; omega
      · refine sx_aload_n d_M_count_113 rfl ?_
        refine sx_aload_n d_M_count_114 rfl ?_
        refine sx_getI (z := (nw : Int)) d_M_count_115 fl_M_95 (go rfl rfl rfl) (by decide) (by decide) (by decide) ((M3s 51 2 (by decide) (by decide) (by omega)).trans hM.mwn) ?_
        refine sx_callV (c_M_ge M nc nw nb hM M3 M3s M3R nw (by omega) (M 23) (M 24) hV hS) d_M_count_118 cd_M_greatestEnd lk_M_147 im_M_greatestEnd se_M_greatestEnd (go rfl rfl rfl) rfl rfl (by decide) (st := []) rfl rfl (Nat.le_of_ble_eq_true rfl) ⟨by decide, Nat.le_refl _, Nat.le_refl _⟩ (fun _ _ hq => ?_)
        obtain ⟨rfl, rfl⟩ := hq
        show sx_V _ _ _ _ (0, 0) _ _ [.inl (gE M (M 23) nw)] (gm M3) _
        refine sx_goto (tgt := 125) d_M_count_121 (by decide) ?_
        refine sx_retI d_M_count_125 (Or.inl rfl) ⟨Nat.zero_le _, Nat.zero_le _⟩ ?_
        refine ⟨?_, ⟨M3, rfl, M3q, M3R⟩⟩
        rw [← hM.pen (by omega)]
        (repeat' first | rw [if_pos (by omega)] | rw [if_neg (by omega)])
        all_goals first | rfl | (rw [hM.cn]; done) | (rw [hM.bn]; done)
