set_option maxRecDepth 100000 in
set_option maxHeartbeats 4000000 in
theorem c_L_addWork {L : Nat} {xs : Nat → Int32} (M : Nat → Nat → Int) (hR : IR M) (nw : Nat) (hnw : M 2 9 = (nw : Int)) (h5 : nw < 6) (c : Nat) (f t s b : Int) (hc : c < 4) (hf : 0 ≤ f ∧ f < t ∧ t ≤ 200) (hs : 1 ≤ s ∧ s ≤ 50) (hb : b = 0 ∨ b = 1) : sx_R y_L_addWork (2, 0, 0) L xs [sx_p 2, .inl (c : Int), .inl f, .inl t, .inl s, .inl b] (gm M) (fun v h2 => v = some (.inl (nw : Int)) ∧ h2 = gm (sx_u (sx_u (sx_u (sx_u (sx_u (sx_u (sx_u (sx_u M (14 + nw) 0 (c : Int)) (14 + nw) 1 (M 7 c)) (14 + nw) 2 f) (14 + nw) 3 t) (14 + nw) 6 b) (14 + nw) 4 s) (14 + nw) 5 (((t - f) + s - 1) / s)) 2 9 ((nw : Int) + 1))) := by
  refine sx_enter rfl (Nat.le_of_ble_eq_true rfl) rfl ?_
  show sx_V y_L_addWork (2, 0, 0) L xs (0, 0) 0 [some (sx_p 2), some (.inl (c : Int)), some (.inl f), some (.inl t), some (.inl s), some (.inl b), none] [] (gm M) _
  refine sx_aload_n d_L_addWork_0 rfl ?_
  refine sx_getI (z := (nw : Int)) d_L_addWork_1 fl_L_48 (go rfl rfl rfl) (by decide) (by decide) (by decide) hnw ?_
  refine sx_bipush d_L_addWork_4 (by decide) ?_
  refine sx_icmp_ge (tgt := 18) d_L_addWork_6 (by decide) (by omega) ⟨by decide, by decide⟩ (fun c6_8 => ?_) (fun c6_8 => ?_)
  · omega
  · refine sx_iload_n d_L_addWork_9 rfl ?_
    refine sx_iconst d_L_addWork_10 ?_
    refine sx_iconst d_L_addWork_11 ?_
    refine sx_callS (z_of (c_isWithin M (c : Int) 0 3 (by omega) (by omega) (by omega))) d_L_addWork_12 cd_T_isWithin lk_L_51 st_T_isWithin (st := []) rfl rfl (Nat.le_of_ble_eq_true rfl) ⟨by decide, Nat.le_refl _, Nat.le_refl _⟩ (fun _ _ hq => ?_)
    obtain ⟨z28, rfl, z28b, z28i, rfl⟩ := hq
    show sx_V _ _ _ _ (0, 0) _ _ [.inl z28] (gm M) _
    refine sx_if_ne (tgt := 20) d_L_addWork_15 (by decide) (by omega) (fun c15_16 => ?_) (fun c15_16 => ?_)
    · refine sx_aload_n d_L_addWork_20 rfl ?_
      refine sx_getR (r := some (8)) d_L_addWork_21 fl_L_24 (go rfl rfl rfl) (by decide) (by decide) (by decide) rfl ?_
      refine sx_aload_n d_L_addWork_24 rfl ?_
      refine sx_getI (z := (nw : Int)) d_L_addWork_25 fl_L_48 (go rfl rfl rfl) (by decide) (by decide) (by decide) hnw ?_
      refine sx_aald (r := some ((14 + nw))) d_L_addWork_28 (go rfl rfl rfl) (t := 0) rfl (by omega) (by omega) (by decide) (gr_w _ (by omega)) ?_
      refine sx_astore (l' := [some (sx_p 2), some (.inl (c : Int)), some (.inl f), some (.inl t), some (.inl s), some (.inl b), some (sx_p (14 + nw))]) d_L_addWork_29 (by decide) rfl rfl ?_
      refine sx_aload d_L_addWork_31 rfl ?_
      refine sx_iload_n d_L_addWork_33 rfl ?_
      refine sx_putI (h2 := gm (sx_u M (14 + nw) 0 (c : Int))) d_L_addWork_34 fl_L_55 (go_w _ (by omega)) (by decide) (by decide) (by decide) (fun q hq => Or.inl (nf_K_0 q hq)) (Or.inl rfl) rfl ?_
      refine sx_aload d_L_addWork_37 rfl ?_
      refine sx_aload_n d_L_addWork_39 rfl ?_
      refine sx_getR (r := some (7)) d_L_addWork_40 fl_L_18 (go rfl rfl rfl) (by decide) (by decide) (by decide) rfl ?_
      refine sx_iload_n d_L_addWork_43 rfl ?_
      refine sx_iald (z := (M 7 c)) d_L_addWork_44 (go rfl rfl rfl) (by omega) (by omega) (by decide) (by show (sx_u _ _ _ _) 7 _ = _; rw [sx_u_ne (by omega)]; rfl) ?_
      refine sx_putI (h2 := gm (sx_u (sx_u M (14 + nw) 0 (c : Int)) (14 + nw) 1 (M 7 c))) d_L_addWork_45 fl_L_58 (go_w _ (by omega)) (by decide) (by decide) (by decide) (fun q hq => Or.inl (nf_K_1 q hq)) (Or.inl rfl) rfl ?_
      refine sx_aload d_L_addWork_48 rfl ?_
      refine sx_iload_n d_L_addWork_50 rfl ?_
      refine sx_putI (h2 := gm (sx_u (sx_u (sx_u M (14 + nw) 0 (c : Int)) (14 + nw) 1 (M 7 c)) (14 + nw) 2 f)) d_L_addWork_51 fl_L_61 (go_w _ (by omega)) (by decide) (by decide) (by decide) (fun q hq => Or.inl (nf_K_2 q hq)) (Or.inl rfl) rfl ?_
      refine sx_aload d_L_addWork_54 rfl ?_
      refine sx_iload_n d_L_addWork_56 rfl ?_
      refine sx_putI (h2 := gm (sx_u (sx_u (sx_u (sx_u M (14 + nw) 0 (c : Int)) (14 + nw) 1 (M 7 c)) (14 + nw) 2 f) (14 + nw) 3 t)) d_L_addWork_57 fl_L_64 (go_w _ (by omega)) (by decide) (by decide) (by decide) (fun q hq => Or.inl (nf_K_3 q hq)) (Or.inl rfl) rfl ?_
      refine sx_aload d_L_addWork_60 rfl ?_
      refine sx_iload d_L_addWork_62 rfl ?_
      refine sx_putI (h2 := gm (sx_u (sx_u (sx_u (sx_u (sx_u M (14 + nw) 0 (c : Int)) (14 + nw) 1 (M 7 c)) (14 + nw) 2 f) (14 + nw) 3 t) (14 + nw) 6 b)) d_L_addWork_64 fl_L_67 (go_w _ (by omega)) (by decide) (by decide) (by decide) (fun q hq => Or.inl (nf_K_6 q hq)) (Or.inr ⟨rfl, hb⟩) rfl ?_
      refine sx_aload d_L_addWork_67 rfl ?_
      refine sx_iload d_L_addWork_69 rfl ?_
      refine sx_callV (w_K_setSpeed (((((hR.u _ _ (by omega)).u _ _ (hR _ _)).u _ _ (by omega)).u _ _ (by omega)).u _ _ (by omega)) nw (by omega) s s (t - f) (by omega) (by rw [if_neg (by omega), if_neg (by omega)]) (by simp [sx_u]) (by omega)) d_L_addWork_71 cd_K_setSpeed lk_L_71 im_K_setSpeed se_K_setSpeed (go_w _ (by omega)) rfl rfl (by decide) (st := []) rfl rfl (Nat.le_of_ble_eq_true rfl) ⟨by decide, Nat.le_refl _, Nat.le_refl _⟩ (fun _ _ hq => ?_)
      obtain ⟨rfl, rfl⟩ := hq
      show sx_V _ _ _ _ (0, 0) _ _ [] (gm (sx_u (sx_u (sx_u (sx_u (sx_u (sx_u (sx_u M (14 + nw) 0 (c : Int)) (14 + nw) 1 (M 7 c)) (14 + nw) 2 f) (14 + nw) 3 t) (14 + nw) 6 b) (14 + nw) 4 s) (14 + nw) 5 (((t - f) + s - 1) / s))) _
      refine sx_aload_n d_L_addWork_74 rfl ?_
      refine sx_dup rfl d_L_addWork_75 ?_
      refine sx_getI (z := (nw : Int)) d_L_addWork_76 fl_L_48 (go rfl rfl rfl) (by decide) (by decide) (by decide) (by show (sx_u _ _ _ _) 2 9 = _; rw [sx_u_ne (by omega), sx_u_ne (by omega), sx_u_ne (by omega), sx_u_ne (by omega), sx_u_ne (by omega), sx_u_ne (by omega), sx_u_ne (by omega)]; exact hnw) ?_
      refine sx_iconst d_L_addWork_79 ?_
      refine sx_iadd d_L_addWork_80 ?_
      refine sx_putI (h2 := gm (sx_u (sx_u (sx_u (sx_u (sx_u (sx_u (sx_u (sx_u M (14 + nw) 0 (c : Int)) (14 + nw) 1 (M 7 c)) (14 + nw) 2 f) (14 + nw) 3 t) (14 + nw) 6 b) (14 + nw) 4 s) (14 + nw) 5 (((t - f) + s - 1) / s)) 2 9 ((nw : Int) + 1))) d_L_addWork_81 fl_L_48 (go rfl rfl rfl) (by decide) (by decide) (by decide) (fun q hq => Or.inl (nf_L_9 q hq)) (Or.inl rfl) rfl ?_
      refine sx_aload_n d_L_addWork_84 rfl ?_
      refine sx_getI (z := ((nw : Int) + 1)) d_L_addWork_85 fl_L_48 (go rfl rfl rfl) (by decide) (by decide) (by decide) rfl ?_
      refine sx_iconst d_L_addWork_88 ?_
      refine sx_isub d_L_addWork_89 ?_
      refine sx_retI d_L_addWork_90 (Or.inl rfl) ⟨Nat.zero_le _, Nat.zero_le _⟩ ?_
      refine ⟨?_, rfl⟩
      congr 2
      omega
    · omega
set_option maxRecDepth 100000 in
set_option maxHeartbeats 4000000 in
theorem c_work_bad {L : Nat} {xs : Nat → Int32} (M : Nat → Nat → Int) (nw : Nat) (hnw : M 2 9 = (nw : Int)) (h6 : nw ≤ 6) (nc : Nat) (hnc : M 2 8 = (nc : Int)) (hc4 : nc ≤ 4) (c f t s b : Int) (hc : sx_r c) (hf : sx_r f) (ht : sx_r t) (hs : sx_r s) (hb : sx_r b) (hbd : ¬ (0 ≤ c ∧ c < nc ∧ 0 ≤ f ∧ f < t ∧ t ≤ 200 ∧ 1 ≤ s ∧ s ≤ 50 ∧ nw < 6)) : sx_R y_T_work (1, 0, 0) L xs [sx_p 1, .inl c, .inl f, .inl t, .inl s, .inl b] (gm M) (fun v h2 => v = some (.inl (-1)) ∧ h2 = gm M) := by
  refine sx_enter rfl (Nat.le_of_ble_eq_true rfl) rfl ?_
  show sx_V y_T_work (1, 0, 0) L xs (0, 0) 0 [some (sx_p 1), some (.inl c), some (.inl f), some (.inl t), some (.inl s), some (.inl b), none, none, none] [] (gm M) _
  refine sx_iload_n d_T_work_0 rfl ?_
  refine sx_if_lt (tgt := 19) d_T_work_1 (by decide) (by omega) (fun c1_6 => ?_) (fun c1_6 => ?_)
  · refine sx_iconst d_T_work_19 ?_
    refine sx_istore (l' := [some (sx_p 1), some (.inl c), some (.inl f), some (.inl t), some (.inl s), some (.inl b), some (.inl 0), none, none]) d_T_work_20 (by decide) rfl rfl ?_
    refine sx_iconst d_T_work_22 ?_
    refine sx_iload_n d_T_work_23 rfl ?_
    refine sx_icmp_gt (tgt := 43) d_T_work_24 (by decide) ⟨by decide, by decide⟩ (by omega) (fun c24_11 => ?_) (fun c24_11 => ?_)
    · refine sx_iconst d_T_work_43 ?_
      refine sx_istore (l' := [some (sx_p 1), some (.inl c), some (.inl f), some (.inl t), some (.inl s), some (.inl b), some (.inl 0), some (.inl 0), none]) d_T_work_44 (by decide) rfl rfl ?_
      refine sx_iload d_T_work_46 rfl ?_
      refine sx_if_eq (tgt := 79) d_T_work_48 (by decide) ⟨by decide, by decide⟩ (fun c48_15 => ?_) (fun c48_15 => ?_)
      · refine sx_iconst d_T_work_79 ?_
        refine sx_retI d_T_work_80 (Or.inl rfl) ⟨Nat.zero_le _, Nat.zero_le _⟩ ?_
        exact ⟨rfl, rfl⟩
      · omega
    · refine sx_iload_n d_T_work_27 rfl ?_
      refine sx_iload_n d_T_work_28 rfl ?_
      refine sx_icmp_ge (tgt := 43) d_T_work_29 (by decide) (by omega) (by omega) (fun c29_22 => ?_) (fun c29_22 => ?_)
      · refine sx_iconst d_T_work_43 ?_
        refine sx_istore (l' := [some (sx_p 1), some (.inl c), some (.inl f), some (.inl t), some (.inl s), some (.inl b), some (.inl 0), some (.inl 0), none]) d_T_work_44 (by decide) rfl rfl ?_
        refine sx_iload d_T_work_46 rfl ?_
        refine sx_if_eq (tgt := 79) d_T_work_48 (by decide) ⟨by decide, by decide⟩ (fun c48_26 => ?_) (fun c48_26 => ?_)
        · refine sx_iconst d_T_work_79 ?_
          refine sx_retI d_T_work_80 (Or.inl rfl) ⟨Nat.zero_le _, Nat.zero_le _⟩ ?_
          exact ⟨rfl, rfl⟩
        · omega
      · refine sx_iload_n d_T_work_32 rfl ?_
        refine sx_sipush d_T_work_33 (by decide) ?_
        refine sx_icmp_gt (tgt := 43) d_T_work_36 (by decide) (by omega) ⟨by decide, by decide⟩ (fun c36_33 => ?_) (fun c36_33 => ?_)
        · refine sx_iconst d_T_work_43 ?_
          refine sx_istore (l' := [some (sx_p 1), some (.inl c), some (.inl f), some (.inl t), some (.inl s), some (.inl b), some (.inl 0), some (.inl 0), none]) d_T_work_44 (by decide) rfl rfl ?_
          refine sx_iload d_T_work_46 rfl ?_
          refine sx_if_eq (tgt := 79) d_T_work_48 (by decide) ⟨by decide, by decide⟩ (fun c48_37 => ?_) (fun c48_37 => ?_)
          · refine sx_iconst d_T_work_79 ?_
            refine sx_retI d_T_work_80 (Or.inl rfl) ⟨Nat.zero_le _, Nat.zero_le _⟩ ?_
            exact ⟨rfl, rfl⟩
          · omega
        · refine sx_iconst d_T_work_39 ?_
          refine sx_goto (tgt := 44) d_T_work_40 (by decide) ?_
          refine sx_istore (l' := [some (sx_p 1), some (.inl c), some (.inl f), some (.inl t), some (.inl s), some (.inl b), some (.inl 0), some (.inl 1), none]) d_T_work_44 (by decide) rfl rfl ?_
          refine sx_iload d_T_work_46 rfl ?_
          refine sx_if_eq (tgt := 79) d_T_work_48 (by decide) ⟨by decide, by decide⟩ (fun c48_46 => ?_) (fun c48_46 => ?_)
          · refine sx_iconst d_T_work_79 ?_
            refine sx_retI d_T_work_80 (Or.inl rfl) ⟨Nat.zero_le _, Nat.zero_le _⟩ ?_
            exact ⟨rfl, rfl⟩
          · omega
  · refine sx_iload_n d_T_work_4 rfl ?_
    refine sx_aload_n d_T_work_5 rfl ?_
    refine sx_getR (r := some (2)) d_T_work_6 fl_T_10 (go rfl rfl rfl) (by decide) (by decide) (by decide) rfl ?_
    refine sx_getI (z := (nc : Int)) d_T_work_9 fl_T_65 (go rfl rfl rfl) (by decide) (by decide) (by decide) hnc ?_
    refine sx_icmp_ge (tgt := 19) d_T_work_12 (by decide) (by omega) (by omega) (fun c12_55 => ?_) (fun c12_55 => ?_)
    · refine sx_iconst d_T_work_19 ?_
      refine sx_istore (l' := [some (sx_p 1), some (.inl c), some (.inl f), some (.inl t), some (.inl s), some (.inl b), some (.inl 0), none, none]) d_T_work_20 (by decide) rfl rfl ?_
      refine sx_iconst d_T_work_22 ?_
      refine sx_iload_n d_T_work_23 rfl ?_
      refine sx_icmp_gt (tgt := 43) d_T_work_24 (by decide) ⟨by decide, by decide⟩ (by omega) (fun c24_60 => ?_) (fun c24_60 => ?_)
      · refine sx_iconst d_T_work_43 ?_
        refine sx_istore (l' := [some (sx_p 1), some (.inl c), some (.inl f), some (.inl t), some (.inl s), some (.inl b), some (.inl 0), some (.inl 0), none]) d_T_work_44 (by decide) rfl rfl ?_
        refine sx_iload d_T_work_46 rfl ?_
        refine sx_if_eq (tgt := 79) d_T_work_48 (by decide) ⟨by decide, by decide⟩ (fun c48_64 => ?_) (fun c48_64 => ?_)
        · refine sx_iconst d_T_work_79 ?_
          refine sx_retI d_T_work_80 (Or.inl rfl) ⟨Nat.zero_le _, Nat.zero_le _⟩ ?_
          exact ⟨rfl, rfl⟩
        · omega
      · refine sx_iload_n d_T_work_27 rfl ?_
        refine sx_iload_n d_T_work_28 rfl ?_
        refine sx_icmp_ge (tgt := 43) d_T_work_29 (by decide) (by omega) (by omega) (fun c29_71 => ?_) (fun c29_71 => ?_)
        · refine sx_iconst d_T_work_43 ?_
          refine sx_istore (l' := [some (sx_p 1), some (.inl c), some (.inl f), some (.inl t), some (.inl s), some (.inl b), some (.inl 0), some (.inl 0), none]) d_T_work_44 (by decide) rfl rfl ?_
          refine sx_iload d_T_work_46 rfl ?_
          refine sx_if_eq (tgt := 79) d_T_work_48 (by decide) ⟨by decide, by decide⟩ (fun c48_75 => ?_) (fun c48_75 => ?_)
          · refine sx_iconst d_T_work_79 ?_
            refine sx_retI d_T_work_80 (Or.inl rfl) ⟨Nat.zero_le _, Nat.zero_le _⟩ ?_
            exact ⟨rfl, rfl⟩
          · omega
        · refine sx_iload_n d_T_work_32 rfl ?_
          refine sx_sipush d_T_work_33 (by decide) ?_
          refine sx_icmp_gt (tgt := 43) d_T_work_36 (by decide) (by omega) ⟨by decide, by decide⟩ (fun c36_82 => ?_) (fun c36_82 => ?_)
          · refine sx_iconst d_T_work_43 ?_
            refine sx_istore (l' := [some (sx_p 1), some (.inl c), some (.inl f), some (.inl t), some (.inl s), some (.inl b), some (.inl 0), some (.inl 0), none]) d_T_work_44 (by decide) rfl rfl ?_
            refine sx_iload d_T_work_46 rfl ?_
            refine sx_if_eq (tgt := 79) d_T_work_48 (by decide) ⟨by decide, by decide⟩ (fun c48_86 => ?_) (fun c48_86 => ?_)
            · refine sx_iconst d_T_work_79 ?_
              refine sx_retI d_T_work_80 (Or.inl rfl) ⟨Nat.zero_le _, Nat.zero_le _⟩ ?_
              exact ⟨rfl, rfl⟩
            · omega
          · refine sx_iconst d_T_work_39 ?_
            refine sx_goto (tgt := 44) d_T_work_40 (by decide) ?_
            refine sx_istore (l' := [some (sx_p 1), some (.inl c), some (.inl f), some (.inl t), some (.inl s), some (.inl b), some (.inl 0), some (.inl 1), none]) d_T_work_44 (by decide) rfl rfl ?_
            refine sx_iload d_T_work_46 rfl ?_
            refine sx_if_eq (tgt := 79) d_T_work_48 (by decide) ⟨by decide, by decide⟩ (fun c48_95 => ?_) (fun c48_95 => ?_)
            · refine sx_iconst d_T_work_79 ?_
              refine sx_retI d_T_work_80 (Or.inl rfl) ⟨Nat.zero_le _, Nat.zero_le _⟩ ?_
              exact ⟨rfl, rfl⟩
            · omega
    · refine sx_iconst d_T_work_15 ?_
      refine sx_goto (tgt := 20) d_T_work_16 (by decide) ?_
      refine sx_istore (l' := [some (sx_p 1), some (.inl c), some (.inl f), some (.inl t), some (.inl s), some (.inl b), some (.inl 1), none, none]) d_T_work_20 (by decide) rfl rfl ?_
      refine sx_iconst d_T_work_22 ?_
      refine sx_iload_n d_T_work_23 rfl ?_
      refine sx_icmp_gt (tgt := 43) d_T_work_24 (by decide) ⟨by decide, by decide⟩ (by omega) (fun c24_105 => ?_) (fun c24_105 => ?_)
      · refine sx_iconst d_T_work_43 ?_
        refine sx_istore (l' := [some (sx_p 1), some (.inl c), some (.inl f), some (.inl t), some (.inl s), some (.inl b), some (.inl 1), some (.inl 0), none]) d_T_work_44 (by decide) rfl rfl ?_
        refine sx_iload d_T_work_46 rfl ?_
        refine sx_if_eq (tgt := 79) d_T_work_48 (by decide) ⟨by decide, by decide⟩ (fun c48_109 => ?_) (fun c48_109 => ?_)
        · omega
        · refine sx_iload d_T_work_51 rfl ?_
          refine sx_if_eq (tgt := 79) d_T_work_53 (by decide) ⟨by decide, by decide⟩ (fun c53_112 => ?_) (fun c53_112 => ?_)
          · refine sx_iconst d_T_work_79 ?_
            refine sx_retI d_T_work_80 (Or.inl rfl) ⟨Nat.zero_le _, Nat.zero_le _⟩ ?_
            exact ⟨rfl, rfl⟩
          · omega
      · refine sx_iload_n d_T_work_27 rfl ?_
        refine sx_iload_n d_T_work_28 rfl ?_
        refine sx_icmp_ge (tgt := 43) d_T_work_29 (by decide) (by omega) (by omega) (fun c29_119 => ?_) (fun c29_119 => ?_)
        · refine sx_iconst d_T_work_43 ?_
          refine sx_istore (l' := [some (sx_p 1), some (.inl c), some (.inl f), some (.inl t), some (.inl s), some (.inl b), some (.inl 1), some (.inl 0), none]) d_T_work_44 (by decide) rfl rfl ?_
          refine sx_iload d_T_work_46 rfl ?_
          refine sx_if_eq (tgt := 79) d_T_work_48 (by decide) ⟨by decide, by decide⟩ (fun c48_123 => ?_) (fun c48_123 => ?_)
          · omega
          · refine sx_iload d_T_work_51 rfl ?_
            refine sx_if_eq (tgt := 79) d_T_work_53 (by decide) ⟨by decide, by decide⟩ (fun c53_126 => ?_) (fun c53_126 => ?_)
            · refine sx_iconst d_T_work_79 ?_
              refine sx_retI d_T_work_80 (Or.inl rfl) ⟨Nat.zero_le _, Nat.zero_le _⟩ ?_
              exact ⟨rfl, rfl⟩
            · omega
        · refine sx_iload_n d_T_work_32 rfl ?_
          refine sx_sipush d_T_work_33 (by decide) ?_
          refine sx_icmp_gt (tgt := 43) d_T_work_36 (by decide) (by omega) ⟨by decide, by decide⟩ (fun c36_133 => ?_) (fun c36_133 => ?_)
          · refine sx_iconst d_T_work_43 ?_
            refine sx_istore (l' := [some (sx_p 1), some (.inl c), some (.inl f), some (.inl t), some (.inl s), some (.inl b), some (.inl 1), some (.inl 0), none]) d_T_work_44 (by decide) rfl rfl ?_
            refine sx_iload d_T_work_46 rfl ?_
            refine sx_if_eq (tgt := 79) d_T_work_48 (by decide) ⟨by decide, by decide⟩ (fun c48_137 => ?_) (fun c48_137 => ?_)
            · omega
            · refine sx_iload d_T_work_51 rfl ?_
              refine sx_if_eq (tgt := 79) d_T_work_53 (by decide) ⟨by decide, by decide⟩ (fun c53_140 => ?_) (fun c53_140 => ?_)
              · refine sx_iconst d_T_work_79 ?_
                refine sx_retI d_T_work_80 (Or.inl rfl) ⟨Nat.zero_le _, Nat.zero_le _⟩ ?_
                exact ⟨rfl, rfl⟩
              · omega
          · refine sx_iconst d_T_work_39 ?_
            refine sx_goto (tgt := 44) d_T_work_40 (by decide) ?_
            refine sx_istore (l' := [some (sx_p 1), some (.inl c), some (.inl f), some (.inl t), some (.inl s), some (.inl b), some (.inl 1), some (.inl 1), none]) d_T_work_44 (by decide) rfl rfl ?_
            refine sx_iload d_T_work_46 rfl ?_
            refine sx_if_eq (tgt := 79) d_T_work_48 (by decide) ⟨by decide, by decide⟩ (fun c48_149 => ?_) (fun c48_149 => ?_)
            · omega
            · refine sx_iload d_T_work_51 rfl ?_
              refine sx_if_eq (tgt := 79) d_T_work_53 (by decide) ⟨by decide, by decide⟩ (fun c53_152 => ?_) (fun c53_152 => ?_)
              · omega
              · refine sx_iload d_T_work_56 rfl ?_
                refine sx_iconst d_T_work_58 ?_
                refine sx_bipush d_T_work_59 (by decide) ?_
                refine sx_callS (z_of (c_isWithin M s 1 50 (by omega) (by omega) (by omega))) d_T_work_61 cd_T_isWithin lk_T_76 st_T_isWithin (st := []) rfl rfl (Nat.le_of_ble_eq_true rfl) ⟨by decide, Nat.le_refl _, Nat.le_refl _⟩ (fun _ _ hq => ?_)
                obtain ⟨z29, rfl, z29b, z29i, rfl⟩ := hq
                show sx_V _ _ _ _ (0, 0) _ _ [.inl z29] (gm M) _
                refine sx_if_eq (tgt := 79) d_T_work_64 (by decide) (by omega) (fun c64_160 => ?_) (fun c64_160 => ?_)
                · refine sx_iconst d_T_work_79 ?_
                  refine sx_retI d_T_work_80 (Or.inl rfl) ⟨Nat.zero_le _, Nat.zero_le _⟩ ?_
                  exact ⟨rfl, rfl⟩
                · refine sx_aload_n d_T_work_67 rfl ?_
                  refine sx_getR (r := some (2)) d_T_work_68 fl_T_10 (go rfl rfl rfl) (by decide) (by decide) (by decide) rfl ?_
                  refine sx_getI (z := (nw : Int)) d_T_work_71 fl_T_80 (go rfl rfl rfl) (by decide) (by decide) (by decide) hnw ?_
                  refine sx_bipush d_T_work_74 (by decide) ?_
                  refine sx_icmp_lt (tgt := 81) d_T_work_76 (by decide) (by omega) ⟨by decide, by decide⟩ (fun c76_168 => ?_) (fun c76_168 => ?_)
                  · omega
                  · refine sx_iconst d_T_work_79 ?_
                    refine sx_retI d_T_work_80 (Or.inl rfl) ⟨Nat.zero_le _, Nat.zero_le _⟩ ?_
                    exact ⟨rfl, rfl⟩
set_option maxRecDepth 100000 in
set_option maxHeartbeats 4000000 in
theorem c_work_ok {L : Nat} {xs : Nat → Int32} (M : Nat → Nat → Int) (hR : IR M) (nw : Nat) (hnw : M 2 9 = (nw : Int)) (h6 : nw ≤ 6) (nc : Nat) (hnc : M 2 8 = (nc : Int)) (hc4 : nc ≤ 4) (c : Nat) (f t s b : Int) (hb : b = 0 ∨ b = 1) (hg : c < nc ∧ 0 ≤ f ∧ f < t ∧ t ≤ 200 ∧ 1 ≤ s ∧ s ≤ 50 ∧ nw < 6) : sx_R y_T_work (3, 0, 0) L xs [sx_p 1, .inl (c : Int), .inl f, .inl t, .inl s, .inl b] (gm M) (fun v h2 => v = some (.inl (nw : Int)) ∧ ∃ M2, h2 = gm M2 ∧ fgt (nw + 1) (sx_u (sx_u (sx_u (sx_u (sx_u (sx_u (sx_u (sx_u M (14 + nw) 0 (c : Int)) (14 + nw) 1 (M 7 c)) (14 + nw) 2 f) (14 + nw) 3 t) (14 + nw) 6 b) (14 + nw) 4 s) (14 + nw) 5 (((t - f) + s - 1) / s)) 2 9 ((nw : Int) + 1)) M2) := by
  refine sx_enter rfl (Nat.le_of_ble_eq_true rfl) rfl ?_
  show sx_V y_T_work (3, 0, 0) L xs (0, 0) 0 [some (sx_p 1), some (.inl (c : Int)), some (.inl f), some (.inl t), some (.inl s), some (.inl b), none, none, none] [] (gm M) _
  refine sx_iload_n d_T_work_0 rfl ?_
  refine sx_if_lt (tgt := 19) d_T_work_1 (by decide) (by omega) (fun c1_6 => ?_) (fun c1_6 => ?_)
  · omega
  · refine sx_iload_n d_T_work_4 rfl ?_
    refine sx_aload_n d_T_work_5 rfl ?_
    refine sx_getR (r := some (2)) d_T_work_6 fl_T_10 (go rfl rfl rfl) (by decide) (by decide) (by decide) rfl ?_
    refine sx_getI (z := (nc : Int)) d_T_work_9 fl_T_65 (go rfl rfl rfl) (by decide) (by decide) (by decide) hnc ?_
    refine sx_icmp_ge (tgt := 19) d_T_work_12 (by decide) (by omega) (by omega) (fun c12_12 => ?_) (fun c12_12 => ?_)
    · omega
    · refine sx_iconst d_T_work_15 ?_
      refine sx_goto (tgt := 20) d_T_work_16 (by decide) ?_
      refine sx_istore (l' := [some (sx_p 1), some (.inl (c : Int)), some (.inl f), some (.inl t), some (.inl s), some (.inl b), some (.inl 1), none, none]) d_T_work_20 (by decide) rfl rfl ?_
      refine sx_iconst d_T_work_22 ?_
      refine sx_iload_n d_T_work_23 rfl ?_
      refine sx_icmp_gt (tgt := 43) d_T_work_24 (by decide) ⟨by decide, by decide⟩ (by omega) (fun c24_19 => ?_) (fun c24_19 => ?_)
      · omega
      · refine sx_iload_n d_T_work_27 rfl ?_
        refine sx_iload_n d_T_work_28 rfl ?_
        refine sx_icmp_ge (tgt := 43) d_T_work_29 (by decide) (by omega) (by omega) (fun c29_23 => ?_) (fun c29_23 => ?_)
        · omega
        · refine sx_iload_n d_T_work_32 rfl ?_
          refine sx_sipush d_T_work_33 (by decide) ?_
          refine sx_icmp_gt (tgt := 43) d_T_work_36 (by decide) (by omega) ⟨by decide, by decide⟩ (fun c36_27 => ?_) (fun c36_27 => ?_)
          · omega
          · refine sx_iconst d_T_work_39 ?_
            refine sx_goto (tgt := 44) d_T_work_40 (by decide) ?_
            refine sx_istore (l' := [some (sx_p 1), some (.inl (c : Int)), some (.inl f), some (.inl t), some (.inl s), some (.inl b), some (.inl 1), some (.inl 1), none]) d_T_work_44 (by decide) rfl rfl ?_
            refine sx_iload d_T_work_46 rfl ?_
            refine sx_if_eq (tgt := 79) d_T_work_48 (by decide) ⟨by decide, by decide⟩ (fun c48_33 => ?_) (fun c48_33 => ?_)
            · omega
            · refine sx_iload d_T_work_51 rfl ?_
              refine sx_if_eq (tgt := 79) d_T_work_53 (by decide) ⟨by decide, by decide⟩ (fun c53_36 => ?_) (fun c53_36 => ?_)
              · omega
              · refine sx_iload d_T_work_56 rfl ?_
                refine sx_iconst d_T_work_58 ?_
                refine sx_bipush d_T_work_59 (by decide) ?_
                refine sx_callS (z_of (c_isWithin M s 1 50 (by omega) (by omega) (by omega))) d_T_work_61 cd_T_isWithin lk_T_76 st_T_isWithin (st := []) rfl rfl (Nat.le_of_ble_eq_true rfl) ⟨by decide, Nat.le_refl _, Nat.le_refl _⟩ (fun _ _ hq => ?_)
                obtain ⟨z30, rfl, z30b, z30i, rfl⟩ := hq
                show sx_V _ _ _ _ (0, 0) _ _ [.inl z30] (gm M) _
                refine sx_if_eq (tgt := 79) d_T_work_64 (by decide) (by omega) (fun c64_44 => ?_) (fun c64_44 => ?_)
                · omega
                · refine sx_aload_n d_T_work_67 rfl ?_
                  refine sx_getR (r := some (2)) d_T_work_68 fl_T_10 (go rfl rfl rfl) (by decide) (by decide) (by decide) rfl ?_
                  refine sx_getI (z := (nw : Int)) d_T_work_71 fl_T_80 (go rfl rfl rfl) (by decide) (by decide) (by decide) hnw ?_
                  refine sx_bipush d_T_work_74 (by decide) ?_
                  refine sx_icmp_lt (tgt := 81) d_T_work_76 (by decide) (by omega) ⟨by decide, by decide⟩ (fun c76_50 => ?_) (fun c76_50 => ?_)
                  · refine sx_aload_n d_T_work_81 rfl ?_
                    refine sx_getR (r := some (2)) d_T_work_82 fl_T_10 (go rfl rfl rfl) (by decide) (by decide) (by decide) rfl ?_
                    refine sx_iload_n d_T_work_85 rfl ?_
                    refine sx_iload_n d_T_work_86 rfl ?_
                    refine sx_iload_n d_T_work_87 rfl ?_
                    refine sx_iload d_T_work_88 rfl ?_
                    refine sx_iload d_T_work_90 rfl ?_
                    refine sx_callV (c_L_addWork M hR nw hnw (by omega) c f t s b (by omega) (by omega) (by omega) hb) d_T_work_92 cd_L_addWork lk_T_83 im_L_addWork se_L_addWork (go rfl rfl rfl) rfl rfl (by decide) (st := []) rfl rfl (Nat.le_of_ble_eq_true rfl) ⟨by decide, Nat.le_refl _, Nat.le_refl _⟩ (fun _ _ hq => ?_)
                    obtain ⟨rfl, rfl⟩ := hq
                    show sx_V _ _ _ _ (0, 0) _ _ [.inl (nw : Int)] (gm (sx_u (sx_u (sx_u (sx_u (sx_u (sx_u (sx_u (sx_u M (14 + nw) 0 (c : Int)) (14 + nw) 1 (M 7 c)) (14 + nw) 2 f) (14 + nw) 3 t) (14 + nw) 6 b) (14 + nw) 4 s) (14 + nw) 5 (((t - f) + s - 1) / s)) 2 9 ((nw : Int) + 1))) _
                    refine sx_istore (l' := [some (sx_p 1), some (.inl (c : Int)), some (.inl f), some (.inl t), some (.inl s), some (.inl b), some (.inl 1), some (.inl 1), some (.inl (nw : Int))]) d_T_work_95 (by decide) rfl rfl ?_
                    refine sx_aload_n d_T_work_97 rfl ?_
                    refine sx_callV (c_T_fgt (sx_u (sx_u (sx_u (sx_u (sx_u (sx_u (sx_u (sx_u M (14 + nw) 0 (c : Int)) (14 + nw) 1 (M 7 c)) (14 + nw) 2 f) (14 + nw) 3 t) (14 + nw) 6 b) (14 + nw) 4 s) (14 + nw) 5 (((t - f) + s - 1) / s)) 2 9 ((nw : Int) + 1)) (((((((((hR.u _ _ (by omega)).u _ _ (hR _ _)).u _ _ (by omega)).u _ _ (by omega)).u _ _ (by omega)).u _ _ (by omega)).u _ _ (by have nq := need_r (len := t - f) (v := s) (by omega) (by omega) (by omega); omega)).u _ _ (by omega))) (nw + 1) (show ((nw : Int) + 1) = ((nw + 1 : Nat) : Int) by omega) (by omega)) d_T_work_98 cd_T_forgetPlan lk_T_73 im_T_forgetPlan se_T_forgetPlan (go rfl rfl rfl) rfl rfl (by decide) (st := []) rfl rfl (Nat.le_of_ble_eq_true rfl) ⟨by decide, Nat.le_refl _, Nat.le_refl _⟩ (fun _ _ hq => ?_)
                    obtain ⟨rfl, f7, rfl, f7g⟩ := hq
                    show sx_V _ _ _ _ (0, 0) _ _ [] (gm f7) _
                    refine sx_iload d_T_work_101 rfl ?_
                    refine sx_retI d_T_work_103 (Or.inl rfl) ⟨Nat.zero_le _, Nat.zero_le _⟩ ?_
                    exact ⟨rfl, f7, rfl, f7g⟩
                  · omega
set_option maxRecDepth 100000 in
set_option maxHeartbeats 4000000 in
theorem c_learned_bad {L : Nat} {xs : Nat → Int32} (M : Nat → Nat → Int) (nw : Nat) (hnw : M 2 9 = (nw : Int)) (h6 : nw ≤ 6) (w p d : Int) (hw : sx_r w) (hp : sx_r p) (hd : sx_r d) (hbd : ¬ (0 ≤ w ∧ w < nw ∧ 1 ≤ p ∧ p ≤ 10000 ∧ 1 ≤ d ∧ d ≤ 1000)) : sx_R y_T_learned (1, 0, 0) L xs [sx_p 1, .inl w, .inl p, .inl d] (gm M) (fun v h2 => v = some (.inl (-1)) ∧ h2 = gm M) := by
  refine sx_enter rfl (Nat.le_of_ble_eq_true rfl) rfl ?_
  show sx_V y_T_learned (1, 0, 0) L xs (0, 0) 0 [some (sx_p 1), some (.inl w), some (.inl p), some (.inl d), none] [] (gm M) _
  refine sx_aload_n d_T_learned_0 rfl ?_
  refine sx_iload_n d_T_learned_1 rfl ?_
  refine sx_callV (c_T_isWork M nw hnw h6 w (by omega)) d_T_learned_2 cd_T_isWork lk_T_87 im_T_isWork se_T_isWork (go rfl rfl rfl) rfl rfl (by decide) (st := []) rfl rfl (Nat.le_of_ble_eq_true rfl) ⟨by decide, Nat.le_refl _, Nat.le_refl _⟩ (fun _ _ hq => ?_)
  obtain ⟨z31, rfl, z31b, z31i, rfl⟩ := hq
  show sx_V _ _ _ _ (0, 0) _ _ [.inl z31] (gm M) _
  refine sx_if_eq (tgt := 30) d_T_learned_5 (by decide) (by omega) (fun c5_10 => ?_) (fun c5_10 => ?_)
  · refine sx_iconst d_T_learned_30 ?_
    refine sx_retI d_T_learned_31 (Or.inl rfl) ⟨Nat.zero_le _, Nat.zero_le _⟩ ?_
    exact ⟨rfl, rfl⟩
  · refine sx_iload_n d_T_learned_8 rfl ?_
    refine sx_iconst d_T_learned_9 ?_
    refine sx_sipush d_T_learned_10 (by decide) ?_
    refine sx_callS (z_of (c_isWithin M p 1 10000 (by omega) (by omega) (by omega))) d_T_learned_13 cd_T_isWithin lk_T_76 st_T_isWithin (st := []) rfl rfl (Nat.le_of_ble_eq_true rfl) ⟨by decide, Nat.le_refl _, Nat.le_refl _⟩ (fun _ _ hq => ?_)
    obtain ⟨z32, rfl, z32b, z32i, rfl⟩ := hq
    show sx_V _ _ _ _ (0, 0) _ _ [.inl z32] (gm M) _
    refine sx_if_eq (tgt := 30) d_T_learned_16 (by decide) (by omega) (fun c16_20 => ?_) (fun c16_20 => ?_)
    · refine sx_iconst d_T_learned_30 ?_
      refine sx_retI d_T_learned_31 (Or.inl rfl) ⟨Nat.zero_le _, Nat.zero_le _⟩ ?_
      exact ⟨rfl, rfl⟩
    · refine sx_iload_n d_T_learned_19 rfl ?_
      refine sx_iconst d_T_learned_20 ?_
      refine sx_sipush d_T_learned_21 (by decide) ?_
      refine sx_callS (z_of (c_isWithin M d 1 1000 (by omega) (by omega) (by omega))) d_T_learned_24 cd_T_isWithin lk_T_76 st_T_isWithin (st := []) rfl rfl (Nat.le_of_ble_eq_true rfl) ⟨by decide, Nat.le_refl _, Nat.le_refl _⟩ (fun _ _ hq => ?_)
      obtain ⟨z33, rfl, z33b, z33i, rfl⟩ := hq
      show sx_V _ _ _ _ (0, 0) _ _ [.inl z33] (gm M) _
      refine sx_if_ne (tgt := 32) d_T_learned_27 (by decide) (by omega) (fun c27_30 => ?_) (fun c27_30 => ?_)
      · omega
      · refine sx_iconst d_T_learned_30 ?_
        refine sx_retI d_T_learned_31 (Or.inl rfl) ⟨Nat.zero_le _, Nat.zero_le _⟩ ?_
        exact ⟨rfl, rfl⟩
set_option maxRecDepth 100000 in
set_option maxHeartbeats 4000000 in
theorem c_learned_ok {L : Nat} {xs : Nat → Int32} (M : Nat → Nat → Int) (hR : IR M) (nw : Nat) (hnw : M 2 9 = (nw : Int)) (h6 : nw ≤ 6) (w : Nat) (p d v : Int) (hW : IW M w) (hv : v = (if p / d < 1 then 1 else if 50 < p / d then 50 else p / d)) (hg : w < nw ∧ 1 ≤ p ∧ p ≤ 10000 ∧ 1 ≤ d ∧ d ≤ 1000) : sx_R y_T_learned (2, 0, 0) L xs [sx_p 1, .inl (w : Int), .inl p, .inl d] (gm M) (fun q h2 => q = some (.inl v) ∧ ∃ M2, h2 = gm M2 ∧ fgt nw (sx_u (sx_u M (14 + w) 4 v) (14 + w) 5 (((M (14 + w) 3 - M (14 + w) 2) + v - 1) / v)) M2) := by
  refine sx_enter rfl (Nat.le_of_ble_eq_true rfl) rfl ?_
  show sx_V y_T_learned (2, 0, 0) L xs (0, 0) 0 [some (sx_p 1), some (.inl (w : Int)), some (.inl p), some (.inl d), none] [] (gm M) _
  refine sx_aload_n d_T_learned_0 rfl ?_
  refine sx_iload_n d_T_learned_1 rfl ?_
  refine sx_callV (c_T_isWork M nw hnw h6 (w : Int) (by omega)) d_T_learned_2 cd_T_isWork lk_T_87 im_T_isWork se_T_isWork (go rfl rfl rfl) rfl rfl (by decide) (st := []) rfl rfl (Nat.le_of_ble_eq_true rfl) ⟨by decide, Nat.le_refl _, Nat.le_refl _⟩ (fun _ _ hq => ?_)
  obtain ⟨z34, rfl, z34b, z34i, rfl⟩ := hq
  show sx_V _ _ _ _ (0, 0) _ _ [.inl z34] (gm M) _
  refine sx_if_eq (tgt := 30) d_T_learned_5 (by decide) (by omega) (fun c5_10 => ?_) (fun c5_10 => ?_)
  · omega
  · refine sx_iload_n d_T_learned_8 rfl ?_
    refine sx_iconst d_T_learned_9 ?_
    refine sx_sipush d_T_learned_10 (by decide) ?_
    refine sx_callS (z_of (c_isWithin M p 1 10000 (by omega) (by omega) (by omega))) d_T_learned_13 cd_T_isWithin lk_T_76 st_T_isWithin (st := []) rfl rfl (Nat.le_of_ble_eq_true rfl) ⟨by decide, Nat.le_refl _, Nat.le_refl _⟩ (fun _ _ hq => ?_)
    obtain ⟨z35, rfl, z35b, z35i, rfl⟩ := hq
    show sx_V _ _ _ _ (0, 0) _ _ [.inl z35] (gm M) _
    refine sx_if_eq (tgt := 30) d_T_learned_16 (by decide) (by omega) (fun c16_18 => ?_) (fun c16_18 => ?_)
    · omega
    · refine sx_iload_n d_T_learned_19 rfl ?_
      refine sx_iconst d_T_learned_20 ?_
      refine sx_sipush d_T_learned_21 (by decide) ?_
      refine sx_callS (z_of (c_isWithin M d 1 1000 (by omega) (by omega) (by omega))) d_T_learned_24 cd_T_isWithin lk_T_76 st_T_isWithin (st := []) rfl rfl (Nat.le_of_ble_eq_true rfl) ⟨by decide, Nat.le_refl _, Nat.le_refl _⟩ (fun _ _ hq => ?_)
      obtain ⟨z36, rfl, z36b, z36i, rfl⟩ := hq
      show sx_V _ _ _ _ (0, 0) _ _ [.inl z36] (gm M) _
      refine sx_if_ne (tgt := 32) d_T_learned_27 (by decide) (by omega) (fun c27_26 => ?_) (fun c27_26 => ?_)
      · refine sx_aload_n d_T_learned_32 rfl ?_
        refine sx_getR (r := some (2)) d_T_learned_33 fl_T_10 (go rfl rfl rfl) (by decide) (by decide) (by decide) rfl ?_
        refine sx_getR (r := some (8)) d_T_learned_36 fl_T_94 (go rfl rfl rfl) (by decide) (by decide) (by decide) rfl ?_
        refine sx_iload_n d_T_learned_39 rfl ?_
        refine sx_aald (r := some ((14 + w))) d_T_learned_40 (go rfl rfl rfl) (t := 0) rfl (by omega) (by omega) (by decide) (gr_w _ (by omega)) ?_
        refine sx_astore (l' := [some (sx_p 1), some (.inl (w : Int)), some (.inl p), some (.inl d), some (sx_p (14 + w))]) d_T_learned_41 (by decide) rfl rfl ?_
        have dq := div_r (a := p) (b := d) (A := 10000) (by omega) (by omega) (by omega)
        have tq : Int.tdiv p d = p / d := Int.tdiv_eq_ediv_of_nonneg (by omega)
        obtain ⟨w1, w2, w3, w4, w5, w6⟩ := id hW
        have v1 : 1 ≤ v ∧ v ≤ 50 := by (rw [hv]; (repeat' split) <;> omega)
        have nq := need_r (len := M (14 + w) 3 - M (14 + w) 2) (v := v) (by omega) (by omega) (by omega)
        refine sx_aload d_T_learned_43 rfl ?_
        refine sx_iload_n d_T_learned_45 rfl ?_
        refine sx_iload_n d_T_learned_46 rfl ?_
        refine sx_idiv d_T_learned_47 (by omega) (by omega) (by omega) ?_
        refine sx_callV (w_K_setSpeed hR w (by omega) (Int.tdiv p d) v (M (14 + w) 3 - M (14 + w) 2) (by omega) (by rw [hv, Int.tdiv_eq_ediv_of_nonneg (by omega)]) rfl (by omega)) d_T_learned_48 cd_K_setSpeed lk_T_132 im_K_setSpeed se_K_setSpeed (go_w _ (by omega)) rfl rfl (by decide) (st := []) rfl rfl (Nat.le_of_ble_eq_true rfl) ⟨by decide, Nat.le_refl _, Nat.le_refl _⟩ (fun _ _ hq => ?_)
        obtain ⟨rfl, rfl⟩ := hq
        show sx_V _ _ _ _ (0, 0) _ _ [] (gm (sx_u (sx_u M (14 + w) 4 v) (14 + w) 5 (((M (14 + w) 3 - M (14 + w) 2) + v - 1) / v))) _
        refine sx_aload_n d_T_learned_51 rfl ?_
        refine sx_callV (c_T_fgt (sx_u (sx_u M (14 + w) 4 v) (14 + w) 5 (((M (14 + w) 3 - M (14 + w) 2) + v - 1) / v)) ((hR.u _ _ (by rw [hv]; (repeat' split) <;> omega)).u _ _ (by omega)) nw (by rw [sx_u_ne (by omega), sx_u_ne (by omega)]; exact hnw) h6) d_T_learned_52 cd_T_forgetPlan lk_T_73 im_T_forgetPlan se_T_forgetPlan (go rfl rfl rfl) rfl rfl (by decide) (st := []) rfl rfl (Nat.le_of_ble_eq_true rfl) ⟨by decide, Nat.le_refl _, Nat.le_refl _⟩ (fun _ _ hq => ?_)
        obtain ⟨rfl, f8, rfl, f8g⟩ := hq
        show sx_V _ _ _ _ (0, 0) _ _ [] (gm f8) _
        refine sx_aload d_T_learned_55 rfl ?_
        refine sx_getI (z := v) d_T_learned_57 fl_T_135 (go_w _ (by omega)) (by decide) (by decide) (by decide) (by rw [show (gm f8).2.2.1 (14 + w) 4 = f8 (14 + w) 4 from rfl, f8g.1 _ _ (by omega) (by omega)]; simp [sx_u]) ?_
        refine sx_retI d_T_learned_60 (Or.inl rfl) ⟨Nat.zero_le _, Nat.zero_le _⟩ ?_
        exact ⟨rfl, f8, rfl, f8g⟩
      · omega
set_option maxRecDepth 100000 in
set_option maxHeartbeats 4000000 in
theorem c_late_bad {L : Nat} {xs : Nat → Int32} (M : Nat → Nat → Int) (hR : IR M) (nw : Nat) (hnw : M 2 9 = (nw : Int)) (h6 : nw ≤ 6) (w d : Int) (hw : sx_r w) (hd : sx_r d) (hbd : ¬ (M 1 7 ≠ 0 ∧ 0 ≤ w ∧ w < nw ∧ 0 ≤ d ∧ d ≤ 100)) : sx_R y_T_late (2, 0, 0) L xs [sx_p 1, .inl w, .inl d] (gm M) (fun v h2 => v = some (.inl (0)) ∧ h2 = gm M) := by
  refine sx_enter rfl (Nat.le_of_ble_eq_true rfl) rfl ?_
  show sx_V y_T_late (2, 0, 0) L xs (0, 0) 0 [some (sx_p 1), some (.inl w), some (.inl d)] [] (gm M) _
  refine sx_aload_n d_T_late_0 rfl ?_
  refine sx_iload_n d_T_late_1 rfl ?_
  refine sx_callV (c_T_isPlanned M hR nw hnw h6 w (by omega)) d_T_late_2 cd_T_isPlanned lk_T_156 im_T_isPlanned se_T_isPlanned (go rfl rfl rfl) rfl rfl (by decide) (st := []) rfl rfl (Nat.le_of_ble_eq_true rfl) ⟨by decide, Nat.le_refl _, Nat.le_refl _⟩ (fun _ _ hq => ?_)
  obtain ⟨z37, rfl, z37b, z37i, rfl⟩ := hq
  show sx_V _ _ _ _ (0, 0) _ _ [.inl z37] (gm M) _
  refine sx_if_eq (tgt := 18) d_T_late_5 (by decide) (by omega) (fun c5_10 => ?_) (fun c5_10 => ?_)
  · refine sx_iconst d_T_late_18 ?_
    refine sx_retI d_T_late_19 (Or.inr ⟨rfl, by first | exact Or.inl rfl | exact Or.inr rfl | omega⟩) ⟨Nat.zero_le _, Nat.zero_le _⟩ ?_
    exact ⟨rfl, rfl⟩
  · refine sx_iload_n d_T_late_8 rfl ?_
    refine sx_iconst d_T_late_9 ?_
    refine sx_bipush d_T_late_10 (by decide) ?_
    refine sx_callS (z_of (c_isWithin M d 0 100 (by omega) (by omega) (by omega))) d_T_late_12 cd_T_isWithin lk_T_76 st_T_isWithin (st := []) rfl rfl (Nat.le_of_ble_eq_true rfl) ⟨by decide, Nat.le_refl _, Nat.le_refl _⟩ (fun _ _ hq => ?_)
    obtain ⟨z38, rfl, z38b, z38i, rfl⟩ := hq
    show sx_V _ _ _ _ (0, 0) _ _ [.inl z38] (gm M) _
    refine sx_if_ne (tgt := 20) d_T_late_15 (by decide) (by omega) (fun c15_20 => ?_) (fun c15_20 => ?_)
    · omega
    · refine sx_iconst d_T_late_18 ?_
      refine sx_retI d_T_late_19 (Or.inr ⟨rfl, by first | exact Or.inl rfl | exact Or.inr rfl | omega⟩) ⟨Nat.zero_le _, Nat.zero_le _⟩ ?_
      exact ⟨rfl, rfl⟩
set_option maxRecDepth 100000 in
set_option maxHeartbeats 4000000 in
theorem c_late_ok {L : Nat} {xs : Nat → Int32} (M : Nat → Nat → Int) (hR : IR M) (nw : Nat) (hnw : M 2 9 = (nw : Int)) (h6 : nw ≤ 6) (w : Nat) (d : Int) (hd : sx_r d) (hg : M 1 7 ≠ 0 ∧ w < nw ∧ 0 ≤ d ∧ d ≤ 100) : sx_R y_T_late (2, 0, 0) L xs [sx_p 1, .inl (w : Int), .inl d] (gm M) (fun v h2 => v = some (.inl 1) ∧ h2 = gm (sx_u M (14 + w) 9 (M 23 w + d))) := by
  refine sx_enter rfl (Nat.le_of_ble_eq_true rfl) rfl ?_
  show sx_V y_T_late (2, 0, 0) L xs (0, 0) 0 [some (sx_p 1), some (.inl (w : Int)), some (.inl d)] [] (gm M) _
  refine sx_aload_n d_T_late_0 rfl ?_
  refine sx_iload_n d_T_late_1 rfl ?_
  refine sx_callV (c_T_isPlanned M hR nw hnw h6 (w : Int) (by omega)) d_T_late_2 cd_T_isPlanned lk_T_156 im_T_isPlanned se_T_isPlanned (go rfl rfl rfl) rfl rfl (by decide) (st := []) rfl rfl (Nat.le_of_ble_eq_true rfl) ⟨by decide, Nat.le_refl _, Nat.le_refl _⟩ (fun _ _ hq => ?_)
  obtain ⟨z39, rfl, z39b, z39i, rfl⟩ := hq
  show sx_V _ _ _ _ (0, 0) _ _ [.inl z39] (gm M) _
  refine sx_if_eq (tgt := 18) d_T_late_5 (by decide) (by omega) (fun c5_10 => ?_) (fun c5_10 => ?_)
  · omega
  · refine sx_iload_n d_T_late_8 rfl ?_
    refine sx_iconst d_T_late_9 ?_
    refine sx_bipush d_T_late_10 (by decide) ?_
    refine sx_callS (z_of (c_isWithin M d 0 100 (by omega) (by omega) (by omega))) d_T_late_12 cd_T_isWithin lk_T_76 st_T_isWithin (st := []) rfl rfl (Nat.le_of_ble_eq_true rfl) ⟨by decide, Nat.le_refl _, Nat.le_refl _⟩ (fun _ _ hq => ?_)
    obtain ⟨z40, rfl, z40b, z40i, rfl⟩ := hq
    show sx_V _ _ _ _ (0, 0) _ _ [.inl z40] (gm M) _
    refine sx_if_ne (tgt := 20) d_T_late_15 (by decide) (by omega) (fun c15_18 => ?_) (fun c15_18 => ?_)
    · refine sx_aload_n d_T_late_20 rfl ?_
      refine sx_getR (r := some (2)) d_T_late_21 fl_T_10 (go rfl rfl rfl) (by decide) (by decide) (by decide) rfl ?_
      refine sx_getR (r := some (8)) d_T_late_24 fl_T_94 (go rfl rfl rfl) (by decide) (by decide) (by decide) rfl ?_
      refine sx_iload_n d_T_late_27 rfl ?_
      refine sx_aald (r := some ((14 + w))) d_T_late_28 (go rfl rfl rfl) (t := 0) rfl (by omega) (by omega) (by decide) (gr_w _ (by omega)) ?_
      refine sx_aload_n d_T_late_29 rfl ?_
      refine sx_getR (r := some (22)) d_T_late_30 fl_T_28 (go rfl rfl rfl) (by decide) (by decide) (by decide) rfl ?_
      refine sx_getR (r := some (23)) d_T_late_33 fl_T_159 (go rfl rfl rfl) (by decide) (by decide) (by decide) rfl ?_
      refine sx_iload_n d_T_late_36 rfl ?_
      refine sx_iald (z := (M 23 w)) d_T_late_37 (go rfl rfl rfl) (by omega) (by omega) (by decide) rfl ?_
      refine sx_iload_n d_T_late_38 rfl ?_
      refine sx_iadd d_T_late_39 ?_
      refine sx_putI (h2 := gm (sx_u M (14 + w) 9 ((M 23 w) + d))) d_T_late_40 fl_T_203 (go_w _ (by omega)) (by decide) (by decide) (by decide) (fun q hq => Or.inl (nf_K_9 q hq)) (Or.inl rfl) rfl ?_
      refine sx_iconst d_T_late_43 ?_
      refine sx_retI d_T_late_44 (Or.inr ⟨rfl, by first | exact Or.inl rfl | exact Or.inr rfl | omega⟩) ⟨Nat.zero_le _, Nat.zero_le _⟩ ?_
      exact ⟨rfl, rfl⟩
    · omega
set_option maxRecDepth 100000 in
set_option maxHeartbeats 4000000 in
theorem c_freeze_bad {L : Nat} {xs : Nat → Int32} (M : Nat → Nat → Int) (hR : IR M) (d : Int) (hd : sx_r d) (hbd : ¬ (M 1 7 ≠ 0 ∧ 0 ≤ d)) : sx_R y_T_freeze (1, 0, 0) L xs [sx_p 1, .inl d] (gm M) (fun v h2 => v = some (.inl (-1)) ∧ h2 = gm M) := by
  refine sx_enter rfl (Nat.le_of_ble_eq_true rfl) rfl ?_
  show sx_V y_T_freeze (1, 0, 0) L xs (0, 0) 0 [some (sx_p 1), some (.inl d), none] [] (gm M) _
  refine sx_aload_n d_T_freeze_0 rfl ?_
  refine sx_getI (z := (M 1 7)) d_T_freeze_1 fl_T_186 (go rfl rfl rfl) (by decide) (by decide) (by decide) rfl ?_
  refine sx_if_eq (tgt := 11) d_T_freeze_4 (by decide) (hR _ _) (fun c4_7 => ?_) (fun c4_7 => ?_)
  · refine sx_iconst d_T_freeze_11 ?_
    refine sx_retI d_T_freeze_12 (Or.inl rfl) ⟨Nat.zero_le _, Nat.zero_le _⟩ ?_
    exact ⟨rfl, rfl⟩
  · refine sx_iload_n d_T_freeze_7 rfl ?_
    refine sx_if_ge (tgt := 13) d_T_freeze_8 (by decide) (by omega) (fun c8_12 => ?_) (fun c8_12 => ?_)
    · omega
    · refine sx_iconst d_T_freeze_11 ?_
      refine sx_retI d_T_freeze_12 (Or.inl rfl) ⟨Nat.zero_le _, Nat.zero_le _⟩ ?_
      exact ⟨rfl, rfl⟩
set_option maxRecDepth 100000 in
set_option maxHeartbeats 4000000 in
theorem l_T_frz {L : Nat} {xs : Nat → Int32} (M : Nat → Nat → Int) (nw : Nat) (hnw : M 2 9 = (nw : Int)) (h6 : nw ≤ 6) (d : Int) (hd : sx_r d) (hR : IR M) : ∀ (n i : Nat) (M1 : Nat → Nat → Int), nw - i < n → i ≤ nw → (∀ a k, ¬ (14 ≤ a ∧ a < 14 + nw ∧ k = 10) → M1 a k = M a k) → (∀ w, w < i → M1 (14 + w) 10 = if M 23 w < d then 1 else 0) → IR M1 → sx_V y_T_freeze (1, 0, 0) L xs (0, 0) 15 [some (sx_p 1), some (.inl d), some (.inl (i : Int))] [] (gm M1) (fun v h2 => ∃ M2, h2 = gm M2 ∧ v = some (.inl (sm (fun j => if M2 (14 + j) 10 = 0 then 0 else 1) nw)) ∧ (∀ a k, ¬ (14 ≤ a ∧ a < 14 + nw ∧ k = 10) → M2 a k = M a k) ∧ (∀ w, w < nw → M2 (14 + w) 10 = if M 23 w < d then 1 else 0) ∧ IR M2) := by
  intro n
  induction n with
  | zero => intro i M1 h1 h2; omega
  | succ n ih =>
    intro i M1 hn hi hfr hz hR1
    refine sx_iload_n d_T_freeze_15 rfl ?_
    refine sx_aload_n d_T_freeze_16 rfl ?_
    refine sx_getR (r := some (2)) d_T_freeze_17 fl_T_10 (go rfl rfl rfl) (by decide) (by decide) (by decide) rfl ?_
    refine sx_getI (z := (nw : Int)) d_T_freeze_20 fl_T_80 (go rfl rfl rfl) (by decide) (by decide) (by decide) ((hfr 2 9 (by omega)).trans hnw) ?_
    refine sx_icmp_ge (tgt := 62) d_T_freeze_23 (by decide) (by omega) (by omega) (fun c23_12 => ?_) (fun c23_12 => ?_)
    · refine sx_aload_n d_T_freeze_62 rfl ?_
      refine sx_getR (r := some (2)) d_T_freeze_63 fl_T_10 (go rfl rfl rfl) (by decide) (by decide) (by decide) rfl ?_
      refine sx_callV (c_L_frz M1 hR1 nw ((hfr 2 9 (by omega)).trans hnw) h6) d_T_freeze_66 cd_L_frozenWorks lk_T_209 im_L_frozenWorks se_L_frozenWorks (go rfl rfl rfl) rfl rfl (by decide) (st := []) rfl rfl (Nat.le_of_ble_eq_true rfl) ⟨by decide, Nat.le_refl _, Nat.le_refl _⟩ (fun _ _ hq => ?_)
      obtain ⟨rfl, rfl⟩ := hq
      show sx_V _ _ _ _ (0, 0) _ _ [.inl (sm (fun j => if M1 (14 + j) 10 = 0 then 0 else 1) nw)] (gm M1) _
      refine sx_retI d_T_freeze_69 (Or.inl rfl) ⟨Nat.zero_le _, Nat.zero_le _⟩ ?_
      have e0 : i = nw := by omega
      subst e0
      exact ⟨M1, rfl, rfl, hfr, hz, hR1⟩
    · refine sx_aload_n d_T_freeze_26 rfl ?_
      refine sx_getR (r := some (2)) d_T_freeze_27 fl_T_10 (go rfl rfl rfl) (by decide) (by decide) (by decide) rfl ?_
      refine sx_getR (r := some (8)) d_T_freeze_30 fl_T_94 (go rfl rfl rfl) (by decide) (by decide) (by decide) rfl ?_
      refine sx_iload_n d_T_freeze_33 rfl ?_
      refine sx_aald (r := some ((14 + i))) d_T_freeze_34 (go rfl rfl rfl) (t := 0) rfl (by omega) (by omega) (by decide) (gr_w _ (by omega)) ?_
      refine sx_aload_n d_T_freeze_35 rfl ?_
      refine sx_getR (r := some (22)) d_T_freeze_36 fl_T_28 (go rfl rfl rfl) (by decide) (by decide) (by decide) rfl ?_
      refine sx_getR (r := some (23)) d_T_freeze_39 fl_T_159 (go rfl rfl rfl) (by decide) (by decide) (by decide) rfl ?_
      refine sx_iload_n d_T_freeze_42 rfl ?_
      refine sx_iald (z := (M 23 i)) d_T_freeze_43 (go rfl rfl rfl) (by omega) (by omega) (by decide) (hfr 23 i (by omega)) ?_
      refine sx_iload_n d_T_freeze_44 rfl ?_
      refine sx_icmp_ge (tgt := 52) d_T_freeze_45 (by decide) (hR _ _) (by omega) (fun c45_33 => ?_) (fun c45_33 => ?_)
      · refine sx_iconst d_T_freeze_52 ?_
        refine sx_putI (h2 := gm (sx_u M1 (14 + i) 10 0)) d_T_freeze_53 fl_T_206 (go_w _ (by omega)) (by decide) (by decide) (by decide) (fun q hq => Or.inl (nf_K_10 q hq)) (Or.inr ⟨rfl, (Or.inl rfl)⟩) rfl ?_
        refine sx_iinc (l' := [some (sx_p 1), some (.inl d), some (.inl ((i : Int) + 1))]) d_T_freeze_56 rfl (by decide) rfl rfl ?_
        refine sx_goto (tgt := 15) d_T_freeze_59 (by decide) ?_
        have e1 : ((i : Int) + 1) = ((i + 1 : Nat) : Int) := by omega
        rw [e1]
        refine ih (i + 1) _ (by omega) (by omega) (fun a k h1 => ?_) (fun i2 hi2 => ?_) (hR1.u _ _ (by omega))
        · rw [show sx_u M1 (14 + i) 10 _ a k = M1 a k by (unfold sx_u; rw [if_neg (by omega)])]; exact hfr a k h1
        · by_cases q : i2 = i
          · subst q; rw [sx_us]; first | rw [if_pos (by omega)] | rw [if_neg (by omega)]
          · rw [sx_u_ne (by omega)]; exact hz i2 (by omega)
      · refine sx_iconst d_T_freeze_48 ?_
        refine sx_goto (tgt := 53) d_T_freeze_49 (by decide) ?_
        refine sx_putI (h2 := gm (sx_u M1 (14 + i) 10 1)) d_T_freeze_53 fl_T_206 (go_w _ (by omega)) (by decide) (by decide) (by decide) (fun q hq => Or.inl (nf_K_10 q hq)) (Or.inr ⟨rfl, (Or.inr rfl)⟩) rfl ?_
        refine sx_iinc (l' := [some (sx_p 1), some (.inl d), some (.inl ((i : Int) + 1))]) d_T_freeze_56 rfl (by decide) rfl rfl ?_
        refine sx_goto (tgt := 15) d_T_freeze_59 (by decide) ?_
        have e1 : ((i : Int) + 1) = ((i + 1 : Nat) : Int) := by omega
        rw [e1]
        refine ih (i + 1) _ (by omega) (by omega) (fun a k h1 => ?_) (fun i2 hi2 => ?_) (hR1.u _ _ (by omega))
        · rw [show sx_u M1 (14 + i) 10 _ a k = M1 a k by (unfold sx_u; rw [if_neg (by omega)])]; exact hfr a k h1
        · by_cases q : i2 = i
          · subst q; rw [sx_us]; first | rw [if_pos (by omega)] | rw [if_neg (by omega)]
          · rw [sx_u_ne (by omega)]; exact hz i2 (by omega)
set_option maxRecDepth 100000 in
set_option maxHeartbeats 4000000 in
theorem c_freeze_ok {L : Nat} {xs : Nat → Int32} (M : Nat → Nat → Int) (hR : IR M) (nw : Nat) (hnw : M 2 9 = (nw : Int)) (h6 : nw ≤ 6) (d : Int) (hd : sx_r d) (hg : M 1 7 ≠ 0 ∧ 0 ≤ d) : sx_R y_T_freeze (1, 0, 0) L xs [sx_p 1, .inl d] (gm M) (fun v h2 => ∃ M2, h2 = gm M2 ∧ v = some (.inl (sm (fun j => if M2 (14 + j) 10 = 0 then 0 else 1) nw)) ∧ (∀ a k, ¬ (14 ≤ a ∧ a < 14 + nw ∧ k = 10) → M2 a k = M a k) ∧ (∀ w, w < nw → M2 (14 + w) 10 = if M 23 w < d then 1 else 0) ∧ IR M2) := by
  refine sx_enter rfl (Nat.le_of_ble_eq_true rfl) rfl ?_
  show sx_V y_T_freeze (1, 0, 0) L xs (0, 0) 0 [some (sx_p 1), some (.inl d), none] [] (gm M) _
  refine sx_aload_n d_T_freeze_0 rfl ?_
  refine sx_getI (z := (M 1 7)) d_T_freeze_1 fl_T_186 (go rfl rfl rfl) (by decide) (by decide) (by decide) rfl ?_
  refine sx_if_eq (tgt := 11) d_T_freeze_4 (by decide) (hR _ _) (fun c4_7 => ?_) (fun c4_7 => ?_)
  · omega
  · refine sx_iload_n d_T_freeze_7 rfl ?_
    refine sx_if_ge (tgt := 13) d_T_freeze_8 (by decide) (by omega) (fun c8_10 => ?_) (fun c8_10 => ?_)
    · refine sx_iconst d_T_freeze_13 ?_
      refine sx_istore_n (l' := [some (sx_p 1), some (.inl d), some (.inl 0)]) d_T_freeze_14 (by decide) rfl rfl ?_
      exact l_T_frz M nw hnw h6 d hd hR (nw + 1) 0 M (by omega) (by omega) (fun _ _ _ => rfl) (fun _ h => absurd h (Nat.not_lt_zero _)) hR
    · omega
