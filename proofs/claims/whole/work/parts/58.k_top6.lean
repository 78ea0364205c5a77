set_option maxRecDepth 100000 in
set_option maxHeartbeats 4000000 in
theorem l_T_bound {L : Nat} {xs : Nat → Int32} (M : Nat → Nat → Int) (hR : IR M) (nw : Nat) (hnw : M 2 9 = (nw : Int)) (h6 : nw ≤ 6) (nc : Nat) (hnc : M 2 8 = (nc : Int)) (hc4 : nc ≤ 4) (hWk : ∀ w, w < nw → IW M w) : ∀ (n i : Nat), nc - i < n → i ≤ nc → sx_V y_T_bound (1, 0, 0) L xs (0, 0) 4 [some (sx_p 1), some (.inl (mx (fun c => dcr M nw (c : Int)) i)), some (.inl (i : Int))] [] (gm M) (fun v h2 => v = some (.inl (mx (fun c => dcr M nw (c : Int)) nc)) ∧ h2 = gm M) := by
  intro n
  induction n with
  | zero => intro i h1 h2; omega
  | succ n ih =>
    intro i hn hi
    refine sx_iload_n d_T_bound_4 rfl ?_
    refine sx_aload_n d_T_bound_5 rfl ?_
    refine sx_getR (r := some (2)) d_T_bound_6 fl_T_10 (go rfl rfl rfl) (by decide) (by decide) (by decide) rfl ?_
    refine sx_getI (z := (nc : Int)) d_T_bound_9 fl_T_65 (go rfl rfl rfl) (by decide) (by decide) (by decide) hnc ?_
    refine sx_icmp_ge (tgt := 34) d_T_bound_12 (by decide) (by omega) (by omega) (fun c12_12 => ?_) (fun c12_12 => ?_)
    · refine sx_iload_n d_T_bound_34 rfl ?_
      refine sx_retI d_T_bound_35 (Or.inl rfl) ⟨Nat.zero_le _, Nat.zero_le _⟩ ?_
      have e0 : i = nc := by omega
      subst e0
      exact ⟨rfl, rfl⟩
    · have mq := mx_r (f := fun c => dcr M nw (c : Int)) (c := 1200) (by decide) i (fun j _ => (dcr_r h6 hWk _).2)
      refine sx_iload_n d_T_bound_15 rfl ?_
      refine sx_aload_n d_T_bound_16 rfl ?_
      refine sx_getR (r := some (2)) d_T_bound_17 fl_T_10 (go rfl rfl rfl) (by decide) (by decide) (by decide) rfl ?_
      refine sx_iload_n d_T_bound_20 rfl ?_
      refine sx_callV (c_L_doc M hR nw hnw h6 (i : Int) (by omega)) d_T_bound_21 cd_L_daysOfCrew lk_T_192 im_L_daysOfCrew se_L_daysOfCrew (go rfl rfl rfl) rfl rfl (by decide) (st := [.inl (mx (fun c => dcr M nw (c : Int)) i)]) rfl rfl (Nat.le_of_ble_eq_true rfl) ⟨by decide, Nat.le_refl _, Nat.le_refl _⟩ (fun _ _ hq => ?_)
      obtain ⟨rfl, rfl⟩ := hq
      show sx_V _ _ _ _ (0, 0) _ _ [.inl (dcr M nw (i : Int)), .inl (mx (fun c => dcr M nw (c : Int)) i)] (gm M) _
      have dq := dcr_r h6 hWk (i : Int)
      refine sx_mmax d_T_bound_24 tw_614 tw_368 tw_11 tw_369 (by decide) (Nat.le_of_ble_eq_true rfl) (by omega) (by omega) ⟨Nat.zero_le _, Nat.zero_le _⟩ ?_
      refine sx_istore_n (l' := [some (sx_p 1), some (.inl (if (mx (fun c => dcr M nw (c : Int)) i) < (dcr M nw (i : Int)) then (dcr M nw (i : Int)) else (mx (fun c => dcr M nw (c : Int)) i))), some (.inl (i : Int))]) d_T_bound_27 (by decide) rfl rfl ?_
      refine sx_iinc (l' := [some (sx_p 1), some (.inl (if (mx (fun c => dcr M nw (c : Int)) i) < (dcr M nw (i : Int)) then (dcr M nw (i : Int)) else (mx (fun c => dcr M nw (c : Int)) i))), some (.inl ((i : Int) + 1))]) d_T_bound_28 rfl (by decide) rfl rfl ?_
      refine sx_goto (tgt := 4) d_T_bound_31 (by decide) ?_
      have e1 : ((i : Int) + 1) = ((i + 1 : Nat) : Int) := by omega
      rw [e1]
      have e2 : (if (mx (fun c => dcr M nw (c : Int)) i) < (dcr M nw (i : Int)) then (dcr M nw (i : Int)) else (mx (fun c => dcr M nw (c : Int)) i)) = mx (fun c => dcr M nw (c : Int)) (i + 1) := rfl
      rw [e2]
      exact ih (i + 1) (by omega) (by omega)
set_option maxRecDepth 100000 in
set_option maxHeartbeats 4000000 in
theorem c_bound {L : Nat} {xs : Nat → Int32} (M : Nat → Nat → Int) (hR : IR M) (nw : Nat) (hnw : M 2 9 = (nw : Int)) (h6 : nw ≤ 6) (nc : Nat) (hnc : M 2 8 = (nc : Int)) (hc4 : nc ≤ 4) (hWk : ∀ w, w < nw → IW M w) : sx_R y_T_bound (1, 0, 0) L xs [sx_p 1] (gm M) (fun v h2 => v = some (.inl (mx (fun c => dcr M nw (c : Int)) nc)) ∧ h2 = gm M) := by
  refine sx_enter rfl (Nat.le_of_ble_eq_true rfl) rfl ?_
  show sx_V y_T_bound (1, 0, 0) L xs (0, 0) 0 [some (sx_p 1), none, none] [] (gm M) _
  refine sx_iconst d_T_bound_0 ?_
  refine sx_istore_n (l' := [some (sx_p 1), some (.inl 0), none]) d_T_bound_1 (by decide) rfl rfl ?_
  refine sx_iconst d_T_bound_2 ?_
  refine sx_istore_n (l' := [some (sx_p 1), some (.inl 0), some (.inl 0)]) d_T_bound_3 (by decide) rfl rfl ?_
  exact l_T_bound M hR nw hnw h6 nc hnc hc4 hWk (nc + 1) 0 (by omega) (by omega)
set_option maxRecDepth 100000 in
set_option maxHeartbeats 4000000 in
theorem c_under_bad {L : Nat} {xs : Nat → Int32} (M : Nat → Nat → Int) (hR : IR M) (kd day : Int) (hkd : sx_r kd) (hday : sx_r day) (hbd : ¬ (M 1 7 ≠ 0 ∧ 0 ≤ kd ∧ kd ≤ 3 ∧ 0 ≤ day)) : sx_R y_T_under (2, 0, 0) L xs [sx_p 1, .inl kd, .inl day] (gm M) (fun v h2 => v = some (.inl (-1)) ∧ h2 = gm M) := by
  refine sx_enter rfl (Nat.le_of_ble_eq_true rfl) rfl ?_
  show sx_V y_T_under (2, 0, 0) L xs (0, 0) 0 [some (sx_p 1), some (.inl kd), some (.inl day), none, none, none] [] (gm M) _
  refine sx_aload_n d_T_under_0 rfl ?_
  refine sx_getI (z := (M 1 7)) d_T_under_1 fl_T_186 (go rfl rfl rfl) (by decide) (by decide) (by decide) rfl ?_
  refine sx_if_eq (tgt := 18) d_T_under_4 (by decide) (hR _ _) (fun c4_7 => ?_) (fun c4_7 => ?_)
  · refine sx_iconst d_T_under_18 ?_
    refine sx_retI d_T_under_19 (Or.inl rfl) ⟨Nat.zero_le _, Nat.zero_le _⟩ ?_
    exact ⟨rfl, rfl⟩
  · refine sx_iload_n d_T_under_7 rfl ?_
    refine sx_callS (c_T_isKind M kd (by omega)) d_T_under_8 cd_T_isKind lk_T_61 st_T_isKind (st := []) rfl rfl (Nat.le_of_ble_eq_true rfl) ⟨by decide, Nat.le_refl _, Nat.le_refl _⟩ (fun _ _ hq => ?_)
    obtain ⟨z58, rfl, z58b, z58i, rfl⟩ := hq
    show sx_V _ _ _ _ (0, 0) _ _ [.inl z58] (gm M) _
    refine sx_if_eq (tgt := 18) d_T_under_11 (by decide) (by omega) (fun c11_15 => ?_) (fun c11_15 => ?_)
    · refine sx_iconst d_T_under_18 ?_
      refine sx_retI d_T_under_19 (Or.inl rfl) ⟨Nat.zero_le _, Nat.zero_le _⟩ ?_
      exact ⟨rfl, rfl⟩
    · refine sx_iload_n d_T_under_14 rfl ?_
      refine sx_if_ge (tgt := 20) d_T_under_15 (by decide) (by omega) (fun c15_20 => ?_) (fun c15_20 => ?_)
      · omega
      · refine sx_iconst d_T_under_18 ?_
        refine sx_retI d_T_under_19 (Or.inl rfl) ⟨Nat.zero_le _, Nat.zero_le _⟩ ?_
        exact ⟨rfl, rfl⟩
set_option maxRecDepth 100000 in
set_option maxHeartbeats 4000000 in
theorem l_T_under {L : Nat} {xs : Nat → Int32} (M : Nat → Nat → Int) (hI : IDy M) (hR : IR M) (nw : Nat) (hnw : M 2 9 = (nw : Int)) (h6 : nw ≤ 6) (hWk : ∀ w, w < nw → IW M w) (hpl : ∀ w, w < nw → (0 ≤ M 23 w ∧ M 23 w ≤ 99) ∧ (M 24 w = 0 ∨ M 24 w = 1)) (kd day : Int) (hkd : sx_r kd) (hday : sx_r day) : ∀ (n i : Nat) (x5 : Option sx_v), nw - i < n → i ≤ nw → sx_V y_T_under (2, 0, 0) L xs (0, 0) 41 [some (sx_p 1), some (.inl kd), some (.inl day), some (.inl (sm (und M kd day) i)), some (.inl (i : Int)), x5] [] (gm M) (fun v h2 => v = some (.inl (sm (und M kd day) nw)) ∧ h2 = gm M) := by
  intro n
  induction n with
  | zero => intro i x5 h1 h2; omega
  | succ n ih =>
    intro i x5 hn hi
    refine sx_iload d_T_under_41 rfl ?_
    refine sx_aload_n d_T_under_43 rfl ?_
    refine sx_getR (r := some (2)) d_T_under_44 fl_T_10 (go rfl rfl rfl) (by decide) (by decide) (by decide) rfl ?_
    refine sx_getI (z := (nw : Int)) d_T_under_47 fl_T_80 (go rfl rfl rfl) (by decide) (by decide) (by decide) hnw ?_
    refine sx_icmp_ge (tgt := 112) d_T_under_50 (by decide) (by first | omega | (have eq2 := eT_r (hWk i (by omega)) (s := M 23 i) ⟨(hpl i (by omega)).1.1, by have := (hpl i (by omega)).1.2; omega⟩; omega)) (by first | omega | (have eq2 := eT_r (hWk i (by omega)) (s := M 23 i) ⟨(hpl i (by omega)).1.1, by have := (hpl i (by omega)).1.2; omega⟩; omega)) (fun c50_12 => ?_) (fun c50_12 => ?_)
    · refine sx_iload_n d_T_under_112 rfl ?_
      refine sx_retI d_T_under_113 (Or.inl rfl) ⟨Nat.zero_le _, Nat.zero_le _⟩ ?_
      have e0 : i = nw := by omega
      subst e0
      exact ⟨rfl, rfl⟩
    · refine sx_aload_n d_T_under_53 rfl ?_
      refine sx_getR (r := some (22)) d_T_under_54 fl_T_28 (go rfl rfl rfl) (by decide) (by decide) (by decide) rfl ?_
      refine sx_getR (r := some (23)) d_T_under_57 fl_T_159 (go rfl rfl rfl) (by decide) (by decide) (by decide) rfl ?_
      refine sx_iload d_T_under_60 rfl ?_
      refine sx_iald (z := (M 23 i)) d_T_under_62 (go rfl rfl rfl) (by omega) (by omega) (by decide) rfl ?_
      refine sx_istore (l' := [some (sx_p 1), some (.inl kd), some (.inl day), some (.inl (sm (und M kd day) i)), some (.inl (i : Int)), some (.inl (M 23 i))]) d_T_under_63 (by decide) rfl rfl ?_
      refine sx_aload_n d_T_under_65 rfl ?_
      refine sx_getR (r := some (2)) d_T_under_66 fl_T_10 (go rfl rfl rfl) (by decide) (by decide) (by decide) rfl ?_
      refine sx_getR (r := some (8)) d_T_under_69 fl_T_94 (go rfl rfl rfl) (by decide) (by decide) (by decide) rfl ?_
      refine sx_iload d_T_under_72 rfl ?_
      refine sx_aald (r := some ((14 + i))) d_T_under_74 (go rfl rfl rfl) (t := 0) rfl (by omega) (by omega) (by decide) (gr_w _ (by omega)) ?_
      refine sx_getI (z := (M (14 + i) 1)) d_T_under_75 fl_T_189 (go_w _ (by omega)) (by decide) (by decide) (by decide) rfl ?_
      refine sx_iload_n d_T_under_78 rfl ?_
      refine sx_icmp_ne (tgt := 106) d_T_under_79 (by decide) (hR _ _) (by first | omega | (have eq2 := eT_r (hWk i (by omega)) (s := M 23 i) ⟨(hpl i (by omega)).1.1, by have := (hpl i (by omega)).1.2; omega⟩; omega)) (fun c79_31 => ?_) (fun c79_31 => ?_)
      · refine sx_iinc (l' := [some (sx_p 1), some (.inl kd), some (.inl day), some (.inl (sm (und M kd day) i)), some (.inl ((i : Int) + 1)), some (.inl (M 23 i))]) d_T_under_106 rfl (by decide) rfl rfl ?_
        refine sx_goto (tgt := 41) d_T_under_109 (by decide) ?_
        have e1 : ((i : Int) + 1) = ((i + 1 : Nat) : Int) := by omega
        rw [e1]
        have e2 : (sm (und M kd day) i) = sm (und M kd day) (i + 1) := by (simp only [sm]; unfold und; first | (rw [if_pos (by omega)]) | (rw [if_neg (by omega)]; omega))
        rw [e2]
        exact ih (i + 1) _ (by omega) (by omega)
      · refine sx_iload d_T_under_82 rfl ?_
        refine sx_iload_n d_T_under_84 rfl ?_
        refine sx_icmp_gt (tgt := 106) d_T_under_85 (by decide) (hR _ _) (by first | omega | (have eq2 := eT_r (hWk i (by omega)) (s := M 23 i) ⟨(hpl i (by omega)).1.1, by have := (hpl i (by omega)).1.2; omega⟩; omega)) (fun c85_41 => ?_) (fun c85_41 => ?_)
        · refine sx_iinc (l' := [some (sx_p 1), some (.inl kd), some (.inl day), some (.inl (sm (und M kd day) i)), some (.inl ((i : Int) + 1)), some (.inl (M 23 i))]) d_T_under_106 rfl (by decide) rfl rfl ?_
          refine sx_goto (tgt := 41) d_T_under_109 (by decide) ?_
          have e1 : ((i : Int) + 1) = ((i + 1 : Nat) : Int) := by omega
          rw [e1]
          have e2 : (sm (und M kd day) i) = sm (und M kd day) (i + 1) := by (simp only [sm]; unfold und; first | (rw [if_pos (by omega)]) | (rw [if_neg (by omega)]; omega))
          rw [e2]
          exact ih (i + 1) _ (by omega) (by omega)
        · refine sx_iload_n d_T_under_88 rfl ?_
          refine sx_aload_n d_T_under_89 rfl ?_
          refine sx_getR (r := some (2)) d_T_under_90 fl_T_10 (go rfl rfl rfl) (by decide) (by decide) (by decide) rfl ?_
          refine sx_iload d_T_under_93 rfl ?_
          refine sx_iload d_T_under_95 rfl ?_
          refine sx_callV (c_L_endOf M hI hR i (by omega) (hWk i (by omega)) (M 23 i) ⟨(hpl i (by omega)).1.1, by have := (hpl i (by omega)).1.2; omega⟩) d_T_under_97 cd_L_endOf lk_T_162 im_L_endOf se_L_endOf (go rfl rfl rfl) rfl rfl (by decide) (st := [.inl day]) rfl rfl (Nat.le_of_ble_eq_true rfl) ⟨by decide, Nat.le_refl _, Nat.le_refl _⟩ (fun _ _ hq => ?_)
          obtain ⟨rfl, rfl⟩ := hq
          show sx_V _ _ _ _ (0, 0) _ _ [.inl (eT M i (M 23 i)), .inl day] (gm M) _
          refine sx_icmp_ge (tgt := 106) d_T_under_100 (by decide) (by first | omega | (have eq2 := eT_r (hWk i (by omega)) (s := M 23 i) ⟨(hpl i (by omega)).1.1, by have := (hpl i (by omega)).1.2; omega⟩; omega)) (by first | omega | (have eq2 := eT_r (hWk i (by omega)) (s := M 23 i) ⟨(hpl i (by omega)).1.1, by have := (hpl i (by omega)).1.2; omega⟩; omega)) (fun c100_57 => ?_) (fun c100_57 => ?_)
          · refine sx_iinc (l' := [some (sx_p 1), some (.inl kd), some (.inl day), some (.inl (sm (und M kd day) i)), some (.inl ((i : Int) + 1)), some (.inl (M 23 i))]) d_T_under_106 rfl (by decide) rfl rfl ?_
            refine sx_goto (tgt := 41) d_T_under_109 (by decide) ?_
            have e1 : ((i : Int) + 1) = ((i + 1 : Nat) : Int) := by omega
            rw [e1]
            have e2 : (sm (und M kd day) i) = sm (und M kd day) (i + 1) := by (simp only [sm]; unfold und; first | (rw [if_pos (by omega)]) | (rw [if_neg (by omega)]; omega))
            rw [e2]
            exact ih (i + 1) _ (by omega) (by omega)
          · refine sx_iinc (l' := [some (sx_p 1), some (.inl kd), some (.inl day), some (.inl ((sm (und M kd day) i) + 1)), some (.inl (i : Int)), some (.inl (M 23 i))]) d_T_under_103 rfl (by decide) rfl rfl ?_
            refine sx_iinc (l' := [some (sx_p 1), some (.inl kd), some (.inl day), some (.inl ((sm (und M kd day) i) + 1)), some (.inl ((i : Int) + 1)), some (.inl (M 23 i))]) d_T_under_106 rfl (by decide) rfl rfl ?_
            refine sx_goto (tgt := 41) d_T_under_109 (by decide) ?_
            have e1 : ((i : Int) + 1) = ((i + 1 : Nat) : Int) := by omega
            rw [e1]
            have e2 : ((sm (und M kd day) i) + 1) = sm (und M kd day) (i + 1) := by (simp only [sm]; unfold und; first | (rw [if_pos (by omega)]) | (rw [if_neg (by omega)]; omega))
            rw [e2]
            exact ih (i + 1) _ (by omega) (by omega)
set_option maxRecDepth 100000 in
set_option maxHeartbeats 4000000 in
theorem c_under_ok {L : Nat} {xs : Nat → Int32} (M : Nat → Nat → Int) (hI : IDy M) (hR : IR M) (nw : Nat) (hnw : M 2 9 = (nw : Int)) (h6 : nw ≤ 6) (hWk : ∀ w, w < nw → IW M w) (hpl : ∀ w, w < nw → (0 ≤ M 23 w ∧ M 23 w ≤ 99) ∧ (M 24 w = 0 ∨ M 24 w = 1)) (kd day : Int) (hkd : sx_r kd) (hday : sx_r day) (hg : M 1 7 ≠ 0 ∧ 0 ≤ kd ∧ kd ≤ 3 ∧ 0 ≤ day) : sx_R y_T_under (2, 0, 0) L xs [sx_p 1, .inl kd, .inl day] (gm M) (fun v h2 => v = some (.inl (if dr M day.toNat = false then (sm (und M kd day) nw) else 0)) ∧ h2 = gm M) := by
  refine sx_enter rfl (Nat.le_of_ble_eq_true rfl) rfl ?_
  show sx_V y_T_under (2, 0, 0) L xs (0, 0) 0 [some (sx_p 1), some (.inl kd), some (.inl day), none, none, none] [] (gm M) _
  refine sx_aload_n d_T_under_0 rfl ?_
  refine sx_getI (z := (M 1 7)) d_T_under_1 fl_T_186 (go rfl rfl rfl) (by decide) (by decide) (by decide) rfl ?_
  refine sx_if_eq (tgt := 18) d_T_under_4 (by decide) (hR _ _) (fun c4_7 => ?_) (fun c4_7 => ?_)
  · omega
  · refine sx_iload_n d_T_under_7 rfl ?_
    refine sx_callS (c_T_isKind M kd (by omega)) d_T_under_8 cd_T_isKind lk_T_61 st_T_isKind (st := []) rfl rfl (Nat.le_of_ble_eq_true rfl) ⟨by decide, Nat.le_refl _, Nat.le_refl _⟩ (fun _ _ hq => ?_)
    obtain ⟨z59, rfl, z59b, z59i, rfl⟩ := hq
    show sx_V _ _ _ _ (0, 0) _ _ [.inl z59] (gm M) _
    refine sx_if_eq (tgt := 18) d_T_under_11 (by decide) (by omega) (fun c11_13 => ?_) (fun c11_13 => ?_)
    · omega
    · refine sx_iload_n d_T_under_14 rfl ?_
      refine sx_if_ge (tgt := 20) d_T_under_15 (by decide) (by omega) (fun c15_16 => ?_) (fun c15_16 => ?_)
      · refine sx_aload_n d_T_under_20 rfl ?_
        refine sx_getR (r := some (2)) d_T_under_21 fl_T_10 (go rfl rfl rfl) (by decide) (by decide) (by decide) rfl ?_
        refine sx_getR (r := some (3)) d_T_under_24 fl_T_115 (go rfl rfl rfl) (by decide) (by decide) (by decide) rfl ?_
        refine sx_iload_n d_T_under_27 rfl ?_
        refine sx_callV (z_of (c_D_isWorking M hI day (by omega))) d_T_under_28 cd_D_isWorking lk_T_119 im_D_isWorking se_D_isWorking (go rfl rfl rfl) rfl rfl (by decide) (st := []) rfl rfl (Nat.le_of_ble_eq_true rfl) ⟨by decide, Nat.le_refl _, Nat.le_refl _⟩ (fun _ _ hq => ?_)
        obtain ⟨z60, rfl, z60b, z60i, rfl⟩ := hq
        show sx_V _ _ _ _ (0, 0) _ _ [.inl z60] (gm M) _
        refine sx_if_ne (tgt := 36) d_T_under_31 (by decide) (by omega) (fun c31_24 => ?_) (fun c31_24 => ?_)
        · refine sx_iconst d_T_under_36 ?_
          refine sx_istore_n (l' := [some (sx_p 1), some (.inl kd), some (.inl day), some (.inl 0), none, none]) d_T_under_37 (by decide) rfl rfl ?_
          refine sx_iconst d_T_under_38 ?_
          refine sx_istore (l' := [some (sx_p 1), some (.inl kd), some (.inl day), some (.inl 0), some (.inl 0), none]) d_T_under_39 (by decide) rfl rfl ?_
          rw [if_pos ((z60i.mp (by omega)).2)]
          exact l_T_under M hI hR nw hnw h6 hWk hpl kd day hkd hday (nw + 1) 0 none (by omega) (by omega)
        · refine sx_iconst d_T_under_34 ?_
          refine sx_retI d_T_under_35 (Or.inl rfl) ⟨Nat.zero_le _, Nat.zero_le _⟩ ?_
          rw [if_neg (fun k => by have := z60i.mpr ⟨by omega, k⟩; omega)]
          exact ⟨rfl, rfl⟩
      · omega
set_option maxRecDepth 100000 in
set_option maxHeartbeats 4000000 in
theorem c_crosses_bad {L : Nat} {xs : Nat → Int32} (M : Nat → Nat → Int) (hR : IR M) (nw : Nat) (hnw : M 2 9 = (nw : Int)) (h6 : nw ≤ 6) (a b : Int) (ha : sx_r a) (hb : sx_r b) (hbd : ¬ (M 1 7 ≠ 0 ∧ 0 ≤ a ∧ a < nw ∧ 0 ≤ b ∧ b < nw)) : sx_R y_T_crosses (2, 0, 0) L xs [sx_p 1, .inl a, .inl b] (gm M) (fun v h2 => v = some (.inl 0) ∧ h2 = gm M) := by
  refine sx_enter rfl (Nat.le_of_ble_eq_true rfl) rfl ?_
  show sx_V y_T_crosses (2, 0, 0) L xs (0, 0) 0 [some (sx_p 1), some (.inl a), some (.inl b), none, none, none, none, none, none] [] (gm M) _
  refine sx_aload_n d_T_crosses_0 rfl ?_
  refine sx_iload_n d_T_crosses_1 rfl ?_
  refine sx_callV (c_T_isPlanned M hR nw hnw h6 a (by omega)) d_T_crosses_2 cd_T_isPlanned lk_T_156 im_T_isPlanned se_T_isPlanned (go rfl rfl rfl) rfl rfl (by decide) (st := []) rfl rfl (Nat.le_of_ble_eq_true rfl) ⟨by decide, Nat.le_refl _, Nat.le_refl _⟩ (fun _ _ hq => ?_)
  obtain ⟨z61, rfl, z61b, z61i, rfl⟩ := hq
  show sx_V _ _ _ _ (0, 0) _ _ [.inl z61] (gm M) _
  refine sx_if_eq (tgt := 16) d_T_crosses_5 (by decide) (by omega) (fun c5_10 => ?_) (fun c5_10 => ?_)
  · refine sx_iconst d_T_crosses_16 ?_
    refine sx_retI d_T_crosses_17 (Or.inr ⟨rfl, by first | exact Or.inl rfl | exact Or.inr rfl | omega⟩) ⟨Nat.zero_le _, Nat.zero_le _⟩ ?_
    exact ⟨rfl, rfl⟩
  · refine sx_aload_n d_T_crosses_8 rfl ?_
    refine sx_iload_n d_T_crosses_9 rfl ?_
    refine sx_callV (c_T_isPlanned M hR nw hnw h6 b (by omega)) d_T_crosses_10 cd_T_isPlanned lk_T_156 im_T_isPlanned se_T_isPlanned (go rfl rfl rfl) rfl rfl (by decide) (st := []) rfl rfl (Nat.le_of_ble_eq_true rfl) ⟨by decide, Nat.le_refl _, Nat.le_refl _⟩ (fun _ _ hq => ?_)
    obtain ⟨z62, rfl, z62b, z62i, rfl⟩ := hq
    show sx_V _ _ _ _ (0, 0) _ _ [.inl z62] (gm M) _
    refine sx_if_ne (tgt := 18) d_T_crosses_13 (by decide) (by omega) (fun c13_19 => ?_) (fun c13_19 => ?_)
    · omega
    · refine sx_iconst d_T_crosses_16 ?_
      refine sx_retI d_T_crosses_17 (Or.inr ⟨rfl, by first | exact Or.inl rfl | exact Or.inr rfl | omega⟩) ⟨Nat.zero_le _, Nat.zero_le _⟩ ?_
      exact ⟨rfl, rfl⟩
theorem pm_r {M : Nat → Nat → Int} {w : Nat} {x : Int} (h : 0 ≤ x ∧ x ≤ 70050) (hW : IW M w) : 0 ≤ x * M (14 + w) 4 ∧ x * M (14 + w) 4 ≤ 3502500 := by
  have h1 : 1 ≤ M (14 + w) 4 := hW.2.2.2.1
  have h2 : M (14 + w) 4 ≤ 50 := hW.2.2.2.2.1
  refine ⟨Int.mul_nonneg h.1 (by omega), ?_⟩
  have h3 := Int.mul_le_mul_of_nonneg_left h2 h.1
  omega
def ez (P : Int → Prop) (f p : Int) : Prop := ∃ q, f ≤ q ∧ q < p ∧ P q
theorem ex_next {P : Int → Prop} {f p z z2 : Int} (hf : f ≤ p) (hi : z = 1 ↔ ez P f p) (h2 : z2 = 1 ↔ z = 1 ∨ P p) : z2 = 1 ↔ ez P f (p + 1) := by
  rw [h2, hi]
  unfold ez
  constructor
  · rintro (⟨q, a, b, c⟩ | c)
    · exact ⟨q, a, by omega, c⟩
    · exact ⟨p, hf, by omega, c⟩
  · rintro ⟨q, a, b, c⟩
    by_cases e : q = p
    · subst e; exact Or.inr c
    · exact Or.inl ⟨q, a, by omega, c⟩
set_option maxRecDepth 100000 in
set_option maxHeartbeats 4000000 in
theorem l_T_crosses {L : Nat} {xs : Nat → Int32} (M : Nat → Nat → Int) (hI : IDy M) (hR : IR M) (nw : Nat) (hnw : M 2 9 = (nw : Int)) (h6 : nw ≤ 6) (hWk : ∀ w, w < nw → IW M w) (hpl : ∀ w, w < nw → (0 ≤ M 23 w ∧ M 23 w ≤ 99) ∧ (M 24 w = 0 ∨ M 24 w = 1)) (a b : Nat) (ha : a < nw) (hb : b < nw) : ∀ (n : Nat) (p fa fb : Int) (x7 x8 : Option sx_v), (lA M a b + 1 - p).toNat < n → fI M a b ≤ p → (p ≤ fI M a b ∨ p ≤ lA M a b + 1) → (fa = 0 ∨ fa = 1) → (fb = 0 ∨ fb = 1) → (fa = 1 ↔ ez (fun q => pT M a (M 23 a) (M 24 a) q 0 * M (14 + b) 4 < pT M b (M 23 b) (M 24 b) q 0 * M (14 + a) 4) (fI M a b) p) → (fb = 1 ↔ ez (fun q => pT M b (M 23 b) (M 24 b) q 0 * M (14 + a) 4 < pT M a (M 23 a) (M 24 a) q 0 * M (14 + b) 4) (fI M a b) p) → sx_V y_T_crosses (2, 0, 0) L xs (0, 0) 45 [some (sx_p 1), some (.inl (a : Int)), some (.inl (b : Int)), some (.inl fa), some (.inl fb), some (.inl (lA M a b)), some (.inl p), x7, x8] [] (gm M) (fun v h2 => ∃ z, v = some (.inl z) ∧ (z = 0 ∨ z = 1) ∧ (z = 1 ↔ (∃ q, fI M a b ≤ q ∧ q ≤ lA M a b ∧ pT M a (M 23 a) (M 24 a) q 0 * M (14 + b) 4 < pT M b (M 23 b) (M 24 b) q 0 * M (14 + a) 4) ∧ ∃ q, fI M a b ≤ q ∧ q ≤ lA M a b ∧ pT M b (M 23 b) (M 24 b) q 0 * M (14 + a) 4 < pT M a (M 23 a) (M 24 a) q 0 * M (14 + b) 4) ∧ h2 = gm M) := by
  have lar : sx_r (lA M a b) := by unfold lA; split <;> exact hR _ _
  have far : 0 ≤ fI M a b ∧ fI M a b ≤ 200 ∧ lA M a b ≤ 200 := by obtain ⟨a1, a2, a3, a4, a5, a6⟩ := hWk a ha; obtain ⟨b1, b2, b3, b4, b5, b6⟩ := hWk b hb; unfold fI lA; refine ⟨?_, ?_, ?_⟩ <;> split <;> omega
  intro n
  induction n with
  | zero => intro p fa fb x7 x8 h1 h2; omega
  | succ n ih =>
    intro p fa fb x7 x8 hn hp1 hp2 hfa hfb hia hib
    refine sx_iload d_T_crosses_45 rfl ?_
    refine sx_iload d_T_crosses_47 rfl ?_
    refine sx_icmp_gt (tgt := 154) d_T_crosses_49 (by decide) (by omega) (by omega) (fun c49_12 => ?_) (fun c49_12 => ?_)
    · refine sx_iload_n d_T_crosses_154 rfl ?_
      refine sx_if_eq (tgt := 167) d_T_crosses_155 (by decide) (by omega) (fun c155_14 => ?_) (fun c155_14 => ?_)
      · refine sx_iconst d_T_crosses_167 ?_
        refine sx_retI d_T_crosses_168 (Or.inr ⟨rfl, by first | exact Or.inl rfl | exact Or.inr rfl | omega⟩) ⟨Nat.zero_le _, Nat.zero_le _⟩ ?_
        refine ⟨_, rfl, by omega, ⟨fun k => by have ka := hia.mp (by omega); have kb := hib.mp (by omega); obtain ⟨q, a1, a2, a3⟩ := ka; obtain ⟨r, b1, b2, b3⟩ := kb; exact ⟨⟨q, a1, by omega, a3⟩, ⟨r, b1, by omega, b3⟩⟩, fun k => by obtain ⟨⟨q, a1, a2, a3⟩, ⟨r, b1, b2, b3⟩⟩ := k; have ka := hia.mpr ⟨q, a1, by omega, a3⟩; have kb := hib.mpr ⟨r, b1, by omega, b3⟩; omega⟩, rfl⟩
      · refine sx_iload d_T_crosses_158 rfl ?_
        refine sx_if_eq (tgt := 167) d_T_crosses_160 (by decide) (by omega) (fun c160_19 => ?_) (fun c160_19 => ?_)
        · refine sx_iconst d_T_crosses_167 ?_
          refine sx_retI d_T_crosses_168 (Or.inr ⟨rfl, by first | exact Or.inl rfl | exact Or.inr rfl | omega⟩) ⟨Nat.zero_le _, Nat.zero_le _⟩ ?_
          refine ⟨_, rfl, by omega, ⟨fun k => by have ka := hia.mp (by omega); have kb := hib.mp (by omega); obtain ⟨q, a1, a2, a3⟩ := ka; obtain ⟨r, b1, b2, b3⟩ := kb; exact ⟨⟨q, a1, by omega, a3⟩, ⟨r, b1, by omega, b3⟩⟩, fun k => by obtain ⟨⟨q, a1, a2, a3⟩, ⟨r, b1, b2, b3⟩⟩ := k; have ka := hia.mpr ⟨q, a1, by omega, a3⟩; have kb := hib.mpr ⟨r, b1, by omega, b3⟩; omega⟩, rfl⟩
        · refine sx_iconst d_T_crosses_163 ?_
          refine sx_goto (tgt := 168) d_T_crosses_164 (by decide) ?_
          refine sx_retI d_T_crosses_168 (Or.inr ⟨rfl, by first | exact Or.inl rfl | exact Or.inr rfl | omega⟩) ⟨Nat.zero_le _, Nat.zero_le _⟩ ?_
          refine ⟨_, rfl, by omega, ⟨fun k => by have ka := hia.mp (by omega); have kb := hib.mp (by omega); obtain ⟨q, a1, a2, a3⟩ := ka; obtain ⟨r, b1, b2, b3⟩ := kb; exact ⟨⟨q, a1, by omega, a3⟩, ⟨r, b1, by omega, b3⟩⟩, fun k => by obtain ⟨⟨q, a1, a2, a3⟩, ⟨r, b1, b2, b3⟩⟩ := k; have ka := hia.mpr ⟨q, a1, by omega, a3⟩; have kb := hib.mpr ⟨r, b1, by omega, b3⟩; omega⟩, rfl⟩
    · refine sx_aload_n d_T_crosses_52 rfl ?_
      refine sx_getR (r := some (2)) d_T_crosses_53 fl_T_10 (go rfl rfl rfl) (by decide) (by decide) (by decide) rfl ?_
      refine sx_iload_n d_T_crosses_56 rfl ?_
      refine sx_aload_n d_T_crosses_57 rfl ?_
      refine sx_getR (r := some (22)) d_T_crosses_58 fl_T_28 (go rfl rfl rfl) (by decide) (by decide) (by decide) rfl ?_
      refine sx_iload d_T_crosses_61 rfl ?_
      refine sx_iconst d_T_crosses_63 ?_
      refine sx_callV (c_L_passTime M hI hR 22 23 24 (fun _ => go rfl rfl rfl) (fun _ => go rfl rfl rfl) (fun _ => go rfl rfl rfl) (fun _ => rfl) (fun _ => rfl) a (by omega) (hWk a (by omega)) p 0 (by omega) ⟨(hpl a (by omega)).1.1, by have := (hpl a (by omega)).1.2; omega⟩ (wx_in (hWk a (by omega)) (fI_le hp1).1 (lA_le (by omega)).1)) d_T_crosses_64 cd_L_passTime lk_T_173 im_L_passTime se_L_passTime (go rfl rfl rfl) rfl rfl (by decide) (st := []) rfl rfl (Nat.le_of_ble_eq_true rfl) ⟨by decide, Nat.le_refl _, Nat.le_refl _⟩ (fun _ _ hq => ?_)
      obtain ⟨rfl, rfl⟩ := hq
      show sx_V _ _ _ _ (0, 0) _ _ [.inl (pT M a (M 23 a) (M 24 a) p 0)] (gm M) _
      have pqa := pm_r (pT_r (hWk a (by omega)) (s := M 23 a) (d := M 24 a) (p := p) (lv := 0) ⟨(hpl a (by omega)).1.1, by have := (hpl a (by omega)).1.2; omega⟩ (wx_in (hWk a (by omega)) (fI_le hp1).1 (lA_le (by omega)).1)) (hWk b (by omega))
      refine sx_aload_n d_T_crosses_67 rfl ?_
      refine sx_getR (r := some (2)) d_T_crosses_68 fl_T_10 (go rfl rfl rfl) (by decide) (by decide) (by decide) rfl ?_
      refine sx_getR (r := some (8)) d_T_crosses_71 fl_T_94 (go rfl rfl rfl) (by decide) (by decide) (by decide) rfl ?_
      refine sx_iload_n d_T_crosses_74 rfl ?_
      refine sx_aald (r := some ((14 + b))) d_T_crosses_75 (go rfl rfl rfl) (t := 0) rfl (by omega) (by omega) (by decide) (gr_w _ (by omega)) ?_
      refine sx_getI (z := (M (14 + b) 4)) d_T_crosses_76 fl_T_135 (go_w _ (by omega)) (by decide) (by decide) (by decide) rfl ?_
      refine sx_imul d_T_crosses_79 ?_
      refine sx_istore (l' := [some (sx_p 1), some (.inl (a : Int)), some (.inl (b : Int)), some (.inl fa), some (.inl fb), some (.inl (lA M a b)), some (.inl p), some (.inl ((pT M a (M 23 a) (M 24 a) p 0) * (M (14 + b) 4))), x8]) d_T_crosses_80 (by decide) rfl rfl ?_
      refine sx_aload_n d_T_crosses_82 rfl ?_
      refine sx_getR (r := some (2)) d_T_crosses_83 fl_T_10 (go rfl rfl rfl) (by decide) (by decide) (by decide) rfl ?_
      refine sx_iload_n d_T_crosses_86 rfl ?_
      refine sx_aload_n d_T_crosses_87 rfl ?_
      refine sx_getR (r := some (22)) d_T_crosses_88 fl_T_28 (go rfl rfl rfl) (by decide) (by decide) (by decide) rfl ?_
      refine sx_iload d_T_crosses_91 rfl ?_
      refine sx_iconst d_T_crosses_93 ?_
      refine sx_callV (c_L_passTime M hI hR 22 23 24 (fun _ => go rfl rfl rfl) (fun _ => go rfl rfl rfl) (fun _ => go rfl rfl rfl) (fun _ => rfl) (fun _ => rfl) b (by omega) (hWk b (by omega)) p 0 (by omega) ⟨(hpl b (by omega)).1.1, by have := (hpl b (by omega)).1.2; omega⟩ (wx_in (hWk b (by omega)) (fI_le hp1).2 (lA_le (by omega)).2)) d_T_crosses_94 cd_L_passTime lk_T_173 im_L_passTime se_L_passTime (go rfl rfl rfl) rfl rfl (by decide) (st := []) rfl rfl (Nat.le_of_ble_eq_true rfl) ⟨by decide, Nat.le_refl _, Nat.le_refl _⟩ (fun _ _ hq => ?_)
      obtain ⟨rfl, rfl⟩ := hq
      show sx_V _ _ _ _ (0, 0) _ _ [.inl (pT M b (M 23 b) (M 24 b) p 0)] (gm M) _
      have pqb := pm_r (pT_r (hWk b (by omega)) (s := M 23 b) (d := M 24 b) (p := p) (lv := 0) ⟨(hpl b (by omega)).1.1, by have := (hpl b (by omega)).1.2; omega⟩ (wx_in (hWk b (by omega)) (fI_le hp1).2 (lA_le (by omega)).2)) (hWk a (by omega))
      refine sx_aload_n d_T_crosses_97 rfl ?_
      refine sx_getR (r := some (2)) d_T_crosses_98 fl_T_10 (go rfl rfl rfl) (by decide) (by decide) (by decide) rfl ?_
      refine sx_getR (r := some (8)) d_T_crosses_101 fl_T_94 (go rfl rfl rfl) (by decide) (by decide) (by decide) rfl ?_
      refine sx_iload_n d_T_crosses_104 rfl ?_
      refine sx_aald (r := some ((14 + a))) d_T_crosses_105 (go rfl rfl rfl) (t := 0) rfl (by omega) (by omega) (by decide) (gr_w _ (by omega)) ?_
      refine sx_getI (z := (M (14 + a) 4)) d_T_crosses_106 fl_T_135 (go_w _ (by omega)) (by decide) (by decide) (by decide) rfl ?_
      refine sx_imul d_T_crosses_109 ?_
      refine sx_istore (l' := [some (sx_p 1), some (.inl (a : Int)), some (.inl (b : Int)), some (.inl fa), some (.inl fb), some (.inl (lA M a b)), some (.inl p), some (.inl ((pT M a (M 23 a) (M 24 a) p 0) * (M (14 + b) 4))), some (.inl ((pT M b (M 23 b) (M 24 b) p 0) * (M (14 + a) 4)))]) d_T_crosses_110 (by decide) rfl rfl ?_
      refine sx_iload_n d_T_crosses_112 rfl ?_
      refine sx_if_ne (tgt := 123) d_T_crosses_113 (by decide) (by omega) (fun c113_66 => ?_) (fun c113_66 => ?_)
      · refine sx_iconst d_T_crosses_123 ?_
        refine sx_goto (tgt := 128) d_T_crosses_124 (by decide) ?_
        refine sx_istore_n (l' := [some (sx_p 1), some (.inl (a : Int)), some (.inl (b : Int)), some (.inl 1), some (.inl fb), some (.inl (lA M a b)), some (.inl p), some (.inl ((pT M a (M 23 a) (M 24 a) p 0) * (M (14 + b) 4))), some (.inl ((pT M b (M 23 b) (M 24 b) p 0) * (M (14 + a) 4)))]) d_T_crosses_128 (by decide) rfl rfl ?_
        refine sx_iload d_T_crosses_129 rfl ?_
        refine sx_if_ne (tgt := 141) d_T_crosses_131 (by decide) (by omega) (fun c131_71 => ?_) (fun c131_71 => ?_)
        · refine sx_iconst d_T_crosses_141 ?_
          refine sx_goto (tgt := 146) d_T_crosses_142 (by decide) ?_
          refine sx_istore (l' := [some (sx_p 1), some (.inl (a : Int)), some (.inl (b : Int)), some (.inl 1), some (.inl 1), some (.inl (lA M a b)), some (.inl p), some (.inl ((pT M a (M 23 a) (M 24 a) p 0) * (M (14 + b) 4))), some (.inl ((pT M b (M 23 b) (M 24 b) p 0) * (M (14 + a) 4)))]) d_T_crosses_146 (by decide) rfl rfl ?_
          refine sx_iinc (l' := [some (sx_p 1), some (.inl (a : Int)), some (.inl (b : Int)), some (.inl 1), some (.inl 1), some (.inl (lA M a b)), some (.inl (p + 1)), some (.inl ((pT M a (M 23 a) (M 24 a) p 0) * (M (14 + b) 4))), some (.inl ((pT M b (M 23 b) (M 24 b) p 0) * (M (14 + a) 4)))]) d_T_crosses_148 rfl (by decide) rfl rfl ?_
          refine sx_goto (tgt := 45) d_T_crosses_151 (by decide) ?_
          exact ih (p + 1) 1 1 _ _ (by omega) (by omega) (by omega) (by omega) (by omega) (ex_next (P := fun q => pT M a (M 23 a) (M 24 a) q 0 * M (14 + b) 4 < pT M b (M 23 b) (M 24 b) q 0 * M (14 + a) 4) hp1 hia (by show _ ↔ _ ∨ pT M a (M 23 a) (M 24 a) p 0 * M (14 + b) 4 < pT M b (M 23 b) (M 24 b) p 0 * M (14 + a) 4; omega)) (ex_next (P := fun q => pT M b (M 23 b) (M 24 b) q 0 * M (14 + a) 4 < pT M a (M 23 a) (M 24 a) q 0 * M (14 + b) 4) hp1 hib (by show _ ↔ _ ∨ pT M b (M 23 b) (M 24 b) p 0 * M (14 + a) 4 < pT M a (M 23 a) (M 24 a) p 0 * M (14 + b) 4; omega))
        · refine sx_iload d_T_crosses_134 rfl ?_
          refine sx_iload d_T_crosses_136 rfl ?_
          refine sx_icmp_ge (tgt := 145) d_T_crosses_138 (by decide) (by omega) (by omega) (fun c138_80 => ?_) (fun c138_80 => ?_)
          · refine sx_iconst d_T_crosses_145 ?_
            refine sx_istore (l' := [some (sx_p 1), some (.inl (a : Int)), some (.inl (b : Int)), some (.inl 1), some (.inl 0), some (.inl (lA M a b)), some (.inl p), some (.inl ((pT M a (M 23 a) (M 24 a) p 0) * (M (14 + b) 4))), some (.inl ((pT M b (M 23 b) (M 24 b) p 0) * (M (14 + a) 4)))]) d_T_crosses_146 (by decide) rfl rfl ?_
            refine sx_iinc (l' := [some (sx_p 1), some (.inl (a : Int)), some (.inl (b : Int)), some (.inl 1), some (.inl 0), some (.inl (lA M a b)), some (.inl (p + 1)), some (.inl ((pT M a (M 23 a) (M 24 a) p 0) * (M (14 + b) 4))), some (.inl ((pT M b (M 23 b) (M 24 b) p 0) * (M (14 + a) 4)))]) d_T_crosses_148 rfl (by decide) rfl rfl ?_
            refine sx_goto (tgt := 45) d_T_crosses_151 (by decide) ?_
            exact ih (p + 1) 1 0 _ _ (by omega) (by omega) (by omega) (by omega) (by omega) (ex_next (P := fun q => pT M a (M 23 a) (M 24 a) q 0 * M (14 + b) 4 < pT M b (M 23 b) (M 24 b) q 0 * M (14 + a) 4) hp1 hia (by show _ ↔ _ ∨ pT M a (M 23 a) (M 24 a) p 0 * M (14 + b) 4 < pT M b (M 23 b) (M 24 b) p 0 * M (14 + a) 4; omega)) (ex_next (P := fun q => pT M b (M 23 b) (M 24 b) q 0 * M (14 + a) 4 < pT M a (M 23 a) (M 24 a) q 0 * M (14 + b) 4) hp1 hib (by show _ ↔ _ ∨ pT M b (M 23 b) (M 24 b) p 0 * M (14 + a) 4 < pT M a (M 23 a) (M 24 a) p 0 * M (14 + b) 4; omega))
          · refine sx_iconst d_T_crosses_141 ?_
            refine sx_goto (tgt := 146) d_T_crosses_142 (by decide) ?_
            refine sx_istore (l' := [some (sx_p 1), some (.inl (a : Int)), some (.inl (b : Int)), some (.inl 1), some (.inl 1), some (.inl (lA M a b)), some (.inl p), some (.inl ((pT M a (M 23 a) (M 24 a) p 0) * (M (14 + b) 4))), some (.inl ((pT M b (M 23 b) (M 24 b) p 0) * (M (14 + a) 4)))]) d_T_crosses_146 (by decide) rfl rfl ?_
            refine sx_iinc (l' := [some (sx_p 1), some (.inl (a : Int)), some (.inl (b : Int)), some (.inl 1), some (.inl 1), some (.inl (lA M a b)), some (.inl (p + 1)), some (.inl ((pT M a (M 23 a) (M 24 a) p 0) * (M (14 + b) 4))), some (.inl ((pT M b (M 23 b) (M 24 b) p 0) * (M (14 + a) 4)))]) d_T_crosses_148 rfl (by decide) rfl rfl ?_
            refine sx_goto (tgt := 45) d_T_crosses_151 (by decide) ?_
            exact ih (p + 1) 1 1 _ _ (by omega) (by omega) (by omega) (by omega) (by omega) (ex_next (P := fun q => pT M a (M 23 a) (M 24 a) q 0 * M (14 + b) 4 < pT M b (M 23 b) (M 24 b) q 0 * M (14 + a) 4) hp1 hia (by show _ ↔ _ ∨ pT M a (M 23 a) (M 24 a) p 0 * M (14 + b) 4 < pT M b (M 23 b) (M 24 b) p 0 * M (14 + a) 4; omega)) (ex_next (P := fun q => pT M b (M 23 b) (M 24 b) q 0 * M (14 + a) 4 < pT M a (M 23 a) (M 24 a) q 0 * M (14 + b) 4) hp1 hib (by show _ ↔ _ ∨ pT M b (M 23 b) (M 24 b) p 0 * M (14 + a) 4 < pT M a (M 23 a) (M 24 a) p 0 * M (14 + b) 4; omega))
      · refine sx_iload d_T_crosses_116 rfl ?_
        refine sx_iload d_T_crosses_118 rfl ?_
        refine sx_icmp_ge (tgt := 127) d_T_crosses_120 (by decide) (by omega) (by omega) (fun c120_94 => ?_) (fun c120_94 => ?_)
        · refine sx_iconst d_T_crosses_127 ?_
          refine sx_istore_n (l' := [some (sx_p 1), some (.inl (a : Int)), some (.inl (b : Int)), some (.inl 0), some (.inl fb), some (.inl (lA M a b)), some (.inl p), some (.inl ((pT M a (M 23 a) (M 24 a) p 0) * (M (14 + b) 4))), some (.inl ((pT M b (M 23 b) (M 24 b) p 0) * (M (14 + a) 4)))]) d_T_crosses_128 (by decide) rfl rfl ?_
          refine sx_iload d_T_crosses_129 rfl ?_
          refine sx_if_ne (tgt := 141) d_T_crosses_131 (by decide) (by omega) (fun c131_98 => ?_) (fun c131_98 => ?_)
          · refine sx_iconst d_T_crosses_141 ?_
            refine sx_goto (tgt := 146) d_T_crosses_142 (by decide) ?_
            refine sx_istore (l' := [some (sx_p 1), some (.inl (a : Int)), some (.inl (b : Int)), some (.inl 0), some (.inl 1), some (.inl (lA M a b)), some (.inl p), some (.inl ((pT M a (M 23 a) (M 24 a) p 0) * (M (14 + b) 4))), some (.inl ((pT M b (M 23 b) (M 24 b) p 0) * (M (14 + a) 4)))]) d_T_crosses_146 (by decide) rfl rfl ?_
            refine sx_iinc (l' := [some (sx_p 1), some (.inl (a : Int)), some (.inl (b : Int)), some (.inl 0), some (.inl 1), some (.inl (lA M a b)), some (.inl (p + 1)), some (.inl ((pT M a (M 23 a) (M 24 a) p 0) * (M (14 + b) 4))), some (.inl ((pT M b (M 23 b) (M 24 b) p 0) * (M (14 + a) 4)))]) d_T_crosses_148 rfl (by decide) rfl rfl ?_
            refine sx_goto (tgt := 45) d_T_crosses_151 (by decide) ?_
            exact ih (p + 1) 0 1 _ _ (by omega) (by omega) (by omega) (by omega) (by omega) (ex_next (P := fun q => pT M a (M 23 a) (M 24 a) q 0 * M (14 + b) 4 < pT M b (M 23 b) (M 24 b) q 0 * M (14 + a) 4) hp1 hia (by show _ ↔ _ ∨ pT M a (M 23 a) (M 24 a) p 0 * M (14 + b) 4 < pT M b (M 23 b) (M 24 b) p 0 * M (14 + a) 4; omega)) (ex_next (P := fun q => pT M b (M 23 b) (M 24 b) q 0 * M (14 + a) 4 < pT M a (M 23 a) (M 24 a) q 0 * M (14 + b) 4) hp1 hib (by show _ ↔ _ ∨ pT M b (M 23 b) (M 24 b) p 0 * M (14 + a) 4 < pT M a (M 23 a) (M 24 a) p 0 * M (14 + b) 4; omega))
          · refine sx_iload d_T_crosses_134 rfl ?_
            refine sx_iload d_T_crosses_136 rfl ?_
            refine sx_icmp_ge (tgt := 145) d_T_crosses_138 (by decide) (by omega) (by omega) (fun c138_107 => ?_) (fun c138_107 => ?_)
            · refine sx_iconst d_T_crosses_145 ?_
              refine sx_istore (l' := [some (sx_p 1), some (.inl (a : Int)), some (.inl (b : Int)), some (.inl 0), some (.inl 0), some (.inl (lA M a b)), some (.inl p), some (.inl ((pT M a (M 23 a) (M 24 a) p 0) * (M (14 + b) 4))), some (.inl ((pT M b (M 23 b) (M 24 b) p 0) * (M (14 + a) 4)))]) d_T_crosses_146 (by decide) rfl rfl ?_
              refine sx_iinc (l' := [some (sx_p 1), some (.inl (a : Int)), some (.inl (b : Int)), some (.inl 0), some (.inl 0), some (.inl (lA M a b)), some (.inl (p + 1)), some (.inl ((pT M a (M 23 a) (M 24 a) p 0) * (M (14 + b) 4))), some (.inl ((pT M b (M 23 b) (M 24 b) p 0) * (M (14 + a) 4)))]) d_T_crosses_148 rfl (by decide) rfl rfl ?_
              refine sx_goto (tgt := 45) d_T_crosses_151 (by decide) ?_
              exact ih (p + 1) 0 0 _ _ (by omega) (by omega) (by omega) (by omega) (by omega) (ex_next (P := fun q => pT M a (M 23 a) (M 24 a) q 0 * M (14 + b) 4 < pT M b (M 23 b) (M 24 b) q 0 * M (14 + a) 4) hp1 hia (by show _ ↔ _ ∨ pT M a (M 23 a) (M 24 a) p 0 * M (14 + b) 4 < pT M b (M 23 b) (M 24 b) p 0 * M (14 + a) 4; omega)) (ex_next (P := fun q => pT M b (M 23 b) (M 24 b) q 0 * M (14 + a) 4 < pT M a (M 23 a) (M 24 a) q 0 * M (14 + b) 4) hp1 hib (by show _ ↔ _ ∨ pT M b (M 23 b) (M 24 b) p 0 * M (14 + a) 4 < pT M a (M 23 a) (M 24 a) p 0 * M (14 + b) 4; omega))
            · refine sx_iconst d_T_crosses_141 ?_
              refine sx_goto (tgt := 146) d_T_crosses_142 (by decide) ?_
              refine sx_istore (l' := [some (sx_p 1), some (.inl (a : Int)), some (.inl (b : Int)), some (.inl 0), some (.inl 1), some (.inl (lA M a b)), some (.inl p), some (.inl ((pT M a (M 23 a) (M 24 a) p 0) * (M (14 + b) 4))), some (.inl ((pT M b (M 23 b) (M 24 b) p 0) * (M (14 + a) 4)))]) d_T_crosses_146 (by decide) rfl rfl ?_
              refine sx_iinc (l' := [some (sx_p 1), some (.inl (a : Int)), some (.inl (b : Int)), some (.inl 0), some (.inl 1), some (.inl (lA M a b)), some (.inl (p + 1)), some (.inl ((pT M a (M 23 a) (M 24 a) p 0) * (M (14 + b) 4))), some (.inl ((pT M b (M 23 b) (M 24 b) p 0) * (M (14 + a) 4)))]) d_T_crosses_148 rfl (by decide) rfl rfl ?_
              refine sx_goto (tgt := 45) d_T_crosses_151 (by decide) ?_
              exact ih (p + 1) 0 1 _ _ (by omega) (by omega) (by omega) (by omega) (by omega) (ex_next (P := fun q => pT M a (M 23 a) (M 24 a) q 0 * M (14 + b) 4 < pT M b (M 23 b) (M 24 b) q 0 * M (14 + a) 4) hp1 hia (by show _ ↔ _ ∨ pT M a (M 23 a) (M 24 a) p 0 * M (14 + b) 4 < pT M b (M 23 b) (M 24 b) p 0 * M (14 + a) 4; omega)) (ex_next (P := fun q => pT M b (M 23 b) (M 24 b) q 0 * M (14 + a) 4 < pT M a (M 23 a) (M 24 a) q 0 * M (14 + b) 4) hp1 hib (by show _ ↔ _ ∨ pT M b (M 23 b) (M 24 b) p 0 * M (14 + a) 4 < pT M a (M 23 a) (M 24 a) p 0 * M (14 + b) 4; omega))
        · refine sx_iconst d_T_crosses_123 ?_
          refine sx_goto (tgt := 128) d_T_crosses_124 (by decide) ?_
          refine sx_istore_n (l' := [some (sx_p 1), some (.inl (a : Int)), some (.inl (b : Int)), some (.inl 1), some (.inl fb), some (.inl (lA M a b)), some (.inl p), some (.inl ((pT M a (M 23 a) (M 24 a) p 0) * (M (14 + b) 4))), some (.inl ((pT M b (M 23 b) (M 24 b) p 0) * (M (14 + a) 4)))]) d_T_crosses_128 (by decide) rfl rfl ?_
          refine sx_iload d_T_crosses_129 rfl ?_
          refine sx_if_ne (tgt := 141) d_T_crosses_131 (by decide) (by omega) (fun c131_123 => ?_) (fun c131_123 => ?_)
          · refine sx_iconst d_T_crosses_141 ?_
            refine sx_goto (tgt := 146) d_T_crosses_142 (by decide) ?_
            refine sx_istore (l' := [some (sx_p 1), some (.inl (a : Int)), some (.inl (b : Int)), some (.inl 1), some (.inl 1), some (.inl (lA M a b)), some (.inl p), some (.inl ((pT M a (M 23 a) (M 24 a) p 0) * (M (14 + b) 4))), some (.inl ((pT M b (M 23 b) (M 24 b) p 0) * (M (14 + a) 4)))]) d_T_crosses_146 (by decide) rfl rfl ?_
            refine sx_iinc (l' := [some (sx_p 1), some (.inl (a : Int)), some (.inl (b : Int)), some (.inl 1), some (.inl 1), some (.inl (lA M a b)), some (.inl (p + 1)), some (.inl ((pT M a (M 23 a) (M 24 a) p 0) * (M (14 + b) 4))), some (.inl ((pT M b (M 23 b) (M 24 b) p 0) * (M (14 + a) 4)))]) d_T_crosses_148 rfl (by decide) rfl rfl ?_
            refine sx_goto (tgt := 45) d_T_crosses_151 (by decide) ?_
            exact ih (p + 1) 1 1 _ _ (by omega) (by omega) (by omega) (by omega) (by omega) (ex_next (P := fun q => pT M a (M 23 a) (M 24 a) q 0 * M (14 + b) 4 < pT M b (M 23 b) (M 24 b) q 0 * M (14 + a) 4) hp1 hia (by show _ ↔ _ ∨ pT M a (M 23 a) (M 24 a) p 0 * M (14 + b) 4 < pT M b (M 23 b) (M 24 b) p 0 * M (14 + a) 4; omega)) (ex_next (P := fun q => pT M b (M 23 b) (M 24 b) q 0 * M (14 + a) 4 < pT M a (M 23 a) (M 24 a) q 0 * M (14 + b) 4) hp1 hib (by show _ ↔ _ ∨ pT M b (M 23 b) (M 24 b) p 0 * M (14 + a) 4 < pT M a (M 23 a) (M 24 a) p 0 * M (14 + b) 4; omega))
          · refine sx_iload d_T_crosses_134 rfl ?_
            refine sx_iload d_T_crosses_136 rfl ?_
            refine sx_icmp_ge (tgt := 145) d_T_crosses_138 (by decide) (by omega) (by omega) (fun c138_132 => ?_) (fun c138_132 => ?_)
            · refine sx_iconst d_T_crosses_145 ?_
              refine sx_istore (l' := [some (sx_p 1), some (.inl (a : Int)), some (.inl (b : Int)), some (.inl 1), some (.inl 0), some (.inl (lA M a b)), some (.inl p), some (.inl ((pT M a (M 23 a) (M 24 a) p 0) * (M (14 + b) 4))), some (.inl ((pT M b (M 23 b) (M 24 b) p 0) * (M (14 + a) 4)))]) d_T_crosses_146 (by decide) rfl rfl ?_
              refine sx_iinc (l' := [some (sx_p 1), some (.inl (a : Int)), some (.inl (b : Int)), some (.inl 1), some (.inl 0), some (.inl (lA M a b)), some (.inl (p + 1)), some (.inl ((pT M a (M 23 a) (M 24 a) p 0) * (M (14 + b) 4))), some (.inl ((pT M b (M 23 b) (M 24 b) p 0) * (M (14 + a) 4)))]) d_T_crosses_148 rfl (by decide) rfl rfl ?_
              refine sx_goto (tgt := 45) d_T_crosses_151 (by decide) ?_
              exact ih (p + 1) 1 0 _ _ (by omega) (by omega) (by omega) (by omega) (by omega) (ex_next (P := fun q => pT M a (M 23 a) (M 24 a) q 0 * M (14 + b) 4 < pT M b (M 23 b) (M 24 b) q 0 * M (14 + a) 4) hp1 hia (by show _ ↔ _ ∨ pT M a (M 23 a) (M 24 a) p 0 * M (14 + b) 4 < pT M b (M 23 b) (M 24 b) p 0 * M (14 + a) 4; omega)) (ex_next (P := fun q => pT M b (M 23 b) (M 24 b) q 0 * M (14 + a) 4 < pT M a (M 23 a) (M 24 a) q 0 * M (14 + b) 4) hp1 hib (by show _ ↔ _ ∨ pT M b (M 23 b) (M 24 b) p 0 * M (14 + a) 4 < pT M a (M 23 a) (M 24 a) p 0 * M (14 + b) 4; omega))
            · refine sx_iconst d_T_crosses_141 ?_
              refine sx_goto (tgt := 146) d_T_crosses_142 (by decide) ?_
              refine sx_istore (l' := [some (sx_p 1), some (.inl (a : Int)), some (.inl (b : Int)), some (.inl 1), some (.inl 1), some (.inl (lA M a b)), some (.inl p), some (.inl ((pT M a (M 23 a) (M 24 a) p 0) * (M (14 + b) 4))), some (.inl ((pT M b (M 23 b) (M 24 b) p 0) * (M (14 + a) 4)))]) d_T_crosses_146 (by decide) rfl rfl ?_
              refine sx_iinc (l' := [some (sx_p 1), some (.inl (a : Int)), some (.inl (b : Int)), some (.inl 1), some (.inl 1), some (.inl (lA M a b)), some (.inl (p + 1)), some (.inl ((pT M a (M 23 a) (M 24 a) p 0) * (M (14 + b) 4))), some (.inl ((pT M b (M 23 b) (M 24 b) p 0) * (M (14 + a) 4)))]) d_T_crosses_148 rfl (by decide) rfl rfl ?_
              refine sx_goto (tgt := 45) d_T_crosses_151 (by decide) ?_
              exact ih (p + 1) 1 1 _ _ (by omega) (by omega) (by omega) (by omega) (by omega) (ex_next (P := fun q => pT M a (M 23 a) (M 24 a) q 0 * M (14 + b) 4 < pT M b (M 23 b) (M 24 b) q 0 * M (14 + a) 4) hp1 hia (by show _ ↔ _ ∨ pT M a (M 23 a) (M 24 a) p 0 * M (14 + b) 4 < pT M b (M 23 b) (M 24 b) p 0 * M (14 + a) 4; omega)) (ex_next (P := fun q => pT M b (M 23 b) (M 24 b) q 0 * M (14 + a) 4 < pT M a (M 23 a) (M 24 a) q 0 * M (14 + b) 4) hp1 hib (by show _ ↔ _ ∨ pT M b (M 23 b) (M 24 b) p 0 * M (14 + a) 4 < pT M a (M 23 a) (M 24 a) p 0 * M (14 + b) 4; omega))
set_option maxRecDepth 100000 in
set_option maxHeartbeats 4000000 in
theorem c_crosses_ok {L : Nat} {xs : Nat → Int32} (M : Nat → Nat → Int) (hI : IDy M) (hR : IR M) (nw : Nat) (hnw : M 2 9 = (nw : Int)) (h6 : nw ≤ 6) (hWk : ∀ w, w < nw → IW M w) (hpl : ∀ w, w < nw → (0 ≤ M 23 w ∧ M 23 w ≤ 99) ∧ (M 24 w = 0 ∨ M 24 w = 1)) (a b : Nat) (ha : a < nw) (hb : b < nw) (h7 : M 1 7 ≠ 0) : sx_R y_T_crosses (2, 0, 0) L xs [sx_p 1, .inl (a : Int), .inl (b : Int)] (gm M) (fun v h2 => ∃ z, v = some (.inl z) ∧ (z = 0 ∨ z = 1) ∧ (z = 1 ↔ (∃ q, fI M a b ≤ q ∧ q ≤ lA M a b ∧ pT M a (M 23 a) (M 24 a) q 0 * M (14 + b) 4 < pT M b (M 23 b) (M 24 b) q 0 * M (14 + a) 4) ∧ ∃ q, fI M a b ≤ q ∧ q ≤ lA M a b ∧ pT M b (M 23 b) (M 24 b) q 0 * M (14 + a) 4 < pT M a (M 23 a) (M 24 a) q 0 * M (14 + b) 4) ∧ h2 = gm M) := by
  refine sx_enter rfl (Nat.le_of_ble_eq_true rfl) rfl ?_
  show sx_V y_T_crosses (2, 0, 0) L xs (0, 0) 0 [some (sx_p 1), some (.inl (a : Int)), some (.inl (b : Int)), none, none, none, none, none, none] [] (gm M) _
  refine sx_aload_n d_T_crosses_0 rfl ?_
  refine sx_iload_n d_T_crosses_1 rfl ?_
  refine sx_callV (c_T_isPlanned M hR nw hnw h6 (a : Int) (by omega)) d_T_crosses_2 cd_T_isPlanned lk_T_156 im_T_isPlanned se_T_isPlanned (go rfl rfl rfl) rfl rfl (by decide) (st := []) rfl rfl (Nat.le_of_ble_eq_true rfl) ⟨by decide, Nat.le_refl _, Nat.le_refl _⟩ (fun _ _ hq => ?_)
  obtain ⟨z63, rfl, z63b, z63i, rfl⟩ := hq
  show sx_V _ _ _ _ (0, 0) _ _ [.inl z63] (gm M) _
  refine sx_if_eq (tgt := 16) d_T_crosses_5 (by decide) (by omega) (fun c5_10 => ?_) (fun c5_10 => ?_)
  · omega
  · refine sx_aload_n d_T_crosses_8 rfl ?_
    refine sx_iload_n d_T_crosses_9 rfl ?_
    refine sx_callV (c_T_isPlanned M hR nw hnw h6 (b : Int) (by omega)) d_T_crosses_10 cd_T_isPlanned lk_T_156 im_T_isPlanned se_T_isPlanned (go rfl rfl rfl) rfl rfl (by decide) (st := []) rfl rfl (Nat.le_of_ble_eq_true rfl) ⟨by decide, Nat.le_refl _, Nat.le_refl _⟩ (fun _ _ hq => ?_)
    obtain ⟨z64, rfl, z64b, z64i, rfl⟩ := hq
    show sx_V _ _ _ _ (0, 0) _ _ [.inl z64] (gm M) _
    refine sx_if_ne (tgt := 18) d_T_crosses_13 (by decide) (by omega) (fun c13_17 => ?_) (fun c13_17 => ?_)
    · refine sx_iconst d_T_crosses_18 ?_
      refine sx_istore_n (l' := [some (sx_p 1), some (.inl (a : Int)), some (.inl (b : Int)), some (.inl 0), none, none, none, none, none]) d_T_crosses_19 (by decide) rfl rfl ?_
      refine sx_iconst d_T_crosses_20 ?_
      refine sx_istore (l' := [some (sx_p 1), some (.inl (a : Int)), some (.inl (b : Int)), some (.inl 0), some (.inl 0), none, none, none, none]) d_T_crosses_21 (by decide) rfl rfl ?_
      refine sx_aload_n d_T_crosses_23 rfl ?_
      refine sx_getR (r := some (2)) d_T_crosses_24 fl_T_10 (go rfl rfl rfl) (by decide) (by decide) (by decide) rfl ?_
      refine sx_iload_n d_T_crosses_27 rfl ?_
      refine sx_iload_n d_T_crosses_28 rfl ?_
      refine sx_callV (c_L_last M hR a b (by omega) (by omega)) d_T_crosses_29 cd_L_lastShared lk_T_180 im_L_lastShared se_L_lastShared (go rfl rfl rfl) rfl rfl (by decide) (st := []) rfl rfl (Nat.le_of_ble_eq_true rfl) ⟨by decide, Nat.le_refl _, Nat.le_refl _⟩ (fun _ _ hq => ?_)
      obtain ⟨rfl, rfl⟩ := hq
      show sx_V _ _ _ _ (0, 0) _ _ [.inl (lA M a b)] (gm M) _
      refine sx_istore (l' := [some (sx_p 1), some (.inl (a : Int)), some (.inl (b : Int)), some (.inl 0), some (.inl 0), some (.inl (lA M a b)), none, none, none]) d_T_crosses_32 (by decide) rfl rfl ?_
      refine sx_aload_n d_T_crosses_34 rfl ?_
      refine sx_getR (r := some (2)) d_T_crosses_35 fl_T_10 (go rfl rfl rfl) (by decide) (by decide) (by decide) rfl ?_
      refine sx_iload_n d_T_crosses_38 rfl ?_
      refine sx_iload_n d_T_crosses_39 rfl ?_
      refine sx_callV (c_L_first M hR a b (by omega) (by omega)) d_T_crosses_40 cd_L_firstShared lk_T_183 im_L_firstShared se_L_firstShared (go rfl rfl rfl) rfl rfl (by decide) (st := []) rfl rfl (Nat.le_of_ble_eq_true rfl) ⟨by decide, Nat.le_refl _, Nat.le_refl _⟩ (fun _ _ hq => ?_)
      obtain ⟨rfl, rfl⟩ := hq
      show sx_V _ _ _ _ (0, 0) _ _ [.inl (fI M a b)] (gm M) _
      refine sx_istore (l' := [some (sx_p 1), some (.inl (a : Int)), some (.inl (b : Int)), some (.inl 0), some (.inl 0), some (.inl (lA M a b)), some (.inl (fI M a b)), none, none]) d_T_crosses_43 (by decide) rfl rfl ?_
      refine l_T_crosses M hI hR nw hnw h6 hWk hpl a b ha hb ((lA M a b + 1 - fI M a b).toNat + 1) (fI M a b) 0 0 none none (by omega) (Int.le_refl _) (Or.inl (Int.le_refl _)) (Or.inl rfl) (Or.inl rfl) ⟨fun k => absurd k (by decide), ?_⟩ ⟨fun k => absurd k (by decide), ?_⟩
      · rintro ⟨q, k1, k2, k3⟩; omega
      · rintro ⟨q, k1, k2, k3⟩; omega
    · omega
