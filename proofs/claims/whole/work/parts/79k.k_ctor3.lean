set_option maxRecDepth 100000 in
set_option maxHeartbeats 4000000 in
theorem c_R_init {L : Nat} {xs : Nat → Int32} {M : Nat → Nat → Int} (hz : LZ M) : sx_R y_R_init (2, 1, 2) L xs [sx_p 20, sx_p 2] (gh 20 M [(1, 0, 2), (8, 5, 19), (8, 4, 18), (8, 3, 17), (8, 2, 16), (8, 1, 15), (8, 0, 14), (2, 7, 13), (2, 6, 12), (2, 5, 11), (2, 4, 10), (2, 3, 9), (2, 2, 8), (2, 1, 7), (2, 0, 3), (3, 2, 6), (3, 1, 5), (3, 0, 4)]) (fun v h2 => v = none ∧ h2 = gh 21 M [(20, 1, 3), (20, 0, 2), (20, 2, 21), (1, 0, 2), (8, 5, 19), (8, 4, 18), (8, 3, 17), (8, 2, 16), (8, 1, 15), (8, 0, 14), (2, 7, 13), (2, 6, 12), (2, 5, 11), (2, 4, 10), (2, 3, 9), (2, 2, 8), (2, 1, 7), (2, 0, 3), (3, 2, 6), (3, 1, 5), (3, 0, 4)]) := by
  refine sx_enter rfl (Nat.le_of_ble_eq_true rfl) rfl ?_
  show sx_V y_R_init (2, 1, 2) L xs (0, 0) 0 [some (sx_p 20), some (sx_p 2)] [] (gh 20 M [(1, 0, 2), (8, 5, 19), (8, 4, 18), (8, 3, 17), (8, 2, 16), (8, 1, 15), (8, 0, 14), (2, 7, 13), (2, 6, 12), (2, 5, 11), (2, 4, 10), (2, 3, 9), (2, 2, 8), (2, 1, 7), (2, 0, 3), (3, 2, 6), (3, 1, 5), (3, 0, 4)]) _
  refine sx_aload_n d_R_init_0 rfl ?_
  refine sx_oinit d_R_init_1 tw_170 tw_18 tw_19 (by decide) (Nat.le_of_ble_eq_true rfl) ?_
  refine sx_aload_n d_R_init_4 rfl ?_
  refine gh_new (ci := 6) (cs2 := (1, 2)) (n2 := 21) d_R_init_5 rfl (by decide) tw_171 tw_172 tw_6 ⟨by decide, by decide⟩ rfl (hz.zb 20 rfl) rfl rfl rfl ?_
  refine sx_dup rfl d_R_init_8 ?_
  refine sx_callI (c_W_init 21) d_R_init_9 cd_W_init lk_R_11 im_W_init rfl rfl (st := [sx_p 21, sx_p 20]) rfl rfl (Nat.le_of_ble_eq_true rfl) ⟨by decide, by decide, by decide⟩ (fun _ _ hq => ?_)
  obtain ⟨rfl, rfl⟩ := hq
  show sx_V _ _ _ _ (1, 2) _ _ [sx_p 21, sx_p 20] (gh 21 M [(1, 0, 2), (8, 5, 19), (8, 4, 18), (8, 3, 17), (8, 2, 16), (8, 1, 15), (8, 0, 14), (2, 7, 13), (2, 6, 12), (2, 5, 11), (2, 4, 10), (2, 3, 9), (2, 2, 8), (2, 1, 7), (2, 0, 3), (3, 2, 6), (3, 1, 5), (3, 0, 4)]) _
  refine gh_putR d_R_init_12 fl_R_12 (gho rfl rfl rfl) rfl (by decide) (by decide) (fun q hq => Or.inr ⟨(nf_R_2 q hq).1, rfl, (nf_R_2 q hq).2⟩) (Or.inl ⟨_, rfl⟩) ?_
  refine sx_aload_n d_R_init_15 rfl ?_
  refine sx_aload_n d_R_init_16 rfl ?_
  refine gh_putR d_R_init_17 fl_R_18 (gho rfl rfl rfl) rfl (by decide) (by decide) (fun q hq => Or.inr ⟨(nf_R_0 q hq).1, rfl, (nf_R_0 q hq).2⟩) (Or.inl ⟨_, rfl⟩) ?_
  refine sx_aload_n d_R_init_20 rfl ?_
  refine sx_aload_n d_R_init_21 rfl ?_
  refine sx_getR (r := some (3)) d_R_init_22 fl_R_22 (gho rfl rfl rfl) rfl (by decide) (by decide) rfl ?_
  refine gh_putR d_R_init_25 fl_R_28 (gho rfl rfl rfl) rfl (by decide) (by decide) (fun q hq => Or.inr ⟨(nf_R_1 q hq).1, rfl, (nf_R_1 q hq).2⟩) (Or.inl ⟨_, rfl⟩) ?_
  refine sx_retV d_R_init_28 rfl ⟨by decide, by decide⟩ ?_
  exact ⟨rfl, rfl⟩
set_option maxRecDepth 100000 in
set_option maxHeartbeats 4000000 in
theorem c_S_init {L : Nat} {xs : Nat → Int32} {M : Nat → Nat → Int} (hz : LZ M) : sx_R y_S_init (2, 21, 76) L xs [sx_p 25, sx_p 2, sx_p 20, sx_p 22] (gh 25 M [(1, 2, 22), (22, 1, 24), (22, 0, 23), (1, 1, 20), (20, 1, 3), (20, 0, 2), (20, 2, 21), (1, 0, 2), (8, 5, 19), (8, 4, 18), (8, 3, 17), (8, 2, 16), (8, 1, 15), (8, 0, 14), (2, 7, 13), (2, 6, 12), (2, 5, 11), (2, 4, 10), (2, 3, 9), (2, 2, 8), (2, 1, 7), (2, 0, 3), (3, 2, 6), (3, 1, 5), (3, 0, 4)]) (fun v h2 => v = none ∧ h2 = gh 46 M [(32, 11, 46), (32, 10, 45), (32, 9, 44), (32, 8, 43), (32, 7, 42), (32, 6, 41), (32, 5, 40), (32, 4, 39), (32, 3, 38), (32, 2, 37), (32, 1, 36), (32, 0, 35), (25, 2, 22), (25, 1, 20), (25, 0, 2), (25, 7, 34), (25, 6, 33), (25, 5, 32), (25, 4, 29), (29, 1, 31), (29, 0, 30), (25, 3, 26), (26, 1, 28), (26, 0, 27), (1, 2, 22), (22, 1, 24), (22, 0, 23), (1, 1, 20), (20, 1, 3), (20, 0, 2), (20, 2, 21), (1, 0, 2), (8, 5, 19), (8, 4, 18), (8, 3, 17), (8, 2, 16), (8, 1, 15), (8, 0, 14), (2, 7, 13), (2, 6, 12), (2, 5, 11), (2, 4, 10), (2, 3, 9), (2, 2, 8), (2, 1, 7), (2, 0, 3), (3, 2, 6), (3, 1, 5), (3, 0, 4)]) := by
  refine sx_enter rfl (Nat.le_of_ble_eq_true rfl) rfl ?_
  show sx_V y_S_init (2, 21, 76) L xs (0, 0) 0 [some (sx_p 25), some (sx_p 2), some (sx_p 20), some (sx_p 22), none] [] (gh 25 M [(1, 2, 22), (22, 1, 24), (22, 0, 23), (1, 1, 20), (20, 1, 3), (20, 0, 2), (20, 2, 21), (1, 0, 2), (8, 5, 19), (8, 4, 18), (8, 3, 17), (8, 2, 16), (8, 1, 15), (8, 0, 14), (2, 7, 13), (2, 6, 12), (2, 5, 11), (2, 4, 10), (2, 3, 9), (2, 2, 8), (2, 1, 7), (2, 0, 3), (3, 2, 6), (3, 1, 5), (3, 0, 4)]) _
  refine sx_aload_n d_S_init_0 rfl ?_
  refine sx_oinit d_S_init_1 tw_220 tw_18 tw_19 (by decide) (Nat.le_of_ble_eq_true rfl) ?_
  refine sx_aload_n d_S_init_4 rfl ?_
  refine gh_new (ci := 2) (cs2 := (1, 2)) (n2 := 26) d_S_init_5 rfl (by decide) tw_221 tw_195 tw_7 ⟨by decide, by decide⟩ rfl (hz.zb 25 rfl) rfl rfl rfl ?_
  refine sx_dup rfl d_S_init_8 ?_
  refine sx_callI (c_P_init26 (M := M) (rl := [(1, 2, 22), (22, 1, 24), (22, 0, 23), (1, 1, 20), (20, 1, 3), (20, 0, 2), (20, 2, 21), (1, 0, 2), (8, 5, 19), (8, 4, 18), (8, 3, 17), (8, 2, 16), (8, 1, 15), (8, 0, 14), (2, 7, 13), (2, 6, 12), (2, 5, 11), (2, 4, 10), (2, 3, 9), (2, 2, 8), (2, 1, 7), (2, 0, 3), (3, 2, 6), (3, 1, 5), (3, 0, 4)]) (hz.zb 26 rfl) rfl) d_S_init_9 cd_P_init lk_S_11 im_P_init rfl rfl (st := [sx_p 26, sx_p 25]) rfl rfl (Nat.le_of_ble_eq_true rfl) ⟨by decide, by decide, by decide⟩ (fun _ _ hq => ?_)
  obtain ⟨rfl, rfl⟩ := hq
  show sx_V _ _ _ _ (3, 14) _ _ [sx_p 26, sx_p 25] (gh 28 M [(26, 1, 28), (26, 0, 27), (1, 2, 22), (22, 1, 24), (22, 0, 23), (1, 1, 20), (20, 1, 3), (20, 0, 2), (20, 2, 21), (1, 0, 2), (8, 5, 19), (8, 4, 18), (8, 3, 17), (8, 2, 16), (8, 1, 15), (8, 0, 14), (2, 7, 13), (2, 6, 12), (2, 5, 11), (2, 4, 10), (2, 3, 9), (2, 2, 8), (2, 1, 7), (2, 0, 3), (3, 2, 6), (3, 1, 5), (3, 0, 4)]) _
  refine gh_putR d_S_init_12 fl_S_12 (gho rfl rfl rfl) rfl (by decide) (by decide) (fun q hq => Or.inr ⟨(nf_S_3 q hq).1, rfl, (nf_S_3 q hq).2⟩) (Or.inl ⟨_, rfl⟩) ?_
  refine sx_aload_n d_S_init_15 rfl ?_
  refine gh_new (ci := 2) (cs2 := (4, 16)) (n2 := 29) d_S_init_16 rfl (by decide) tw_221 tw_195 tw_7 ⟨by decide, by decide⟩ rfl (hz.zb 28 rfl) rfl rfl rfl ?_
  refine sx_dup rfl d_S_init_19 ?_
  refine sx_callI (c_P_init29 (M := M) (rl := [(25, 3, 26), (26, 1, 28), (26, 0, 27), (1, 2, 22), (22, 1, 24), (22, 0, 23), (1, 1, 20), (20, 1, 3), (20, 0, 2), (20, 2, 21), (1, 0, 2), (8, 5, 19), (8, 4, 18), (8, 3, 17), (8, 2, 16), (8, 1, 15), (8, 0, 14), (2, 7, 13), (2, 6, 12), (2, 5, 11), (2, 4, 10), (2, 3, 9), (2, 2, 8), (2, 1, 7), (2, 0, 3), (3, 2, 6), (3, 1, 5), (3, 0, 4)]) (hz.zb 29 rfl) rfl) d_S_init_20 cd_P_init lk_S_11 im_P_init rfl rfl (st := [sx_p 29, sx_p 25]) rfl rfl (Nat.le_of_ble_eq_true rfl) ⟨by decide, by decide, by decide⟩ (fun _ _ hq => ?_)
  obtain ⟨rfl, rfl⟩ := hq
  show sx_V _ _ _ _ (6, 28) _ _ [sx_p 29, sx_p 25] (gh 31 M [(29, 1, 31), (29, 0, 30), (25, 3, 26), (26, 1, 28), (26, 0, 27), (1, 2, 22), (22, 1, 24), (22, 0, 23), (1, 1, 20), (20, 1, 3), (20, 0, 2), (20, 2, 21), (1, 0, 2), (8, 5, 19), (8, 4, 18), (8, 3, 17), (8, 2, 16), (8, 1, 15), (8, 0, 14), (2, 7, 13), (2, 6, 12), (2, 5, 11), (2, 4, 10), (2, 3, 9), (2, 2, 8), (2, 1, 7), (2, 0, 3), (3, 2, 6), (3, 1, 5), (3, 0, 4)]) _
  refine gh_putR d_S_init_23 fl_S_18 (gho rfl rfl rfl) rfl (by decide) (by decide) (fun q hq => Or.inr ⟨(nf_S_4 q hq).1, rfl, (nf_S_4 q hq).2⟩) (Or.inl ⟨_, rfl⟩) ?_
  refine sx_aload_n d_S_init_26 rfl ?_
  refine sx_bipush d_S_init_27 (by decide) ?_
  refine gh_anew (t := 1) (m := 12) (cs2 := (7, 40)) (n2 := 32) d_S_init_29 rfl tw_223 tw_224 rfl (by decide) ⟨by decide, by decide⟩ rfl (hz.zb 31 rfl) rfl rfl rfl ?_
  refine gh_putR d_S_init_32 fl_S_23 (gho rfl rfl rfl) rfl (by decide) (by decide) (fun q hq => Or.inr ⟨(nf_S_5 q hq).1, rfl, (nf_S_5 q hq).2⟩) (Or.inr ⟨_, rfl⟩) ?_
  refine sx_aload_n d_S_init_35 rfl ?_
  refine sx_bipush d_S_init_36 (by decide) ?_
  refine gh_newa (t := 0) (m := 6) (cs2 := (8, 46)) (n2 := 33) d_S_init_38 (Or.inl ⟨rfl, rfl⟩) tw_51 rfl (by decide) ⟨by decide, by decide⟩ rfl (hz.zb 32 rfl) rfl rfl rfl ?_
  refine gh_putR d_S_init_40 fl_S_27 (gho rfl rfl rfl) rfl (by decide) (by decide) (fun q hq => Or.inr ⟨(nf_S_6 q hq).1, rfl, (nf_S_6 q hq).2⟩) (Or.inr ⟨_, rfl⟩) ?_
  refine sx_aload_n d_S_init_43 rfl ?_
  refine sx_bipush d_S_init_44 (by decide) ?_
  refine gh_newa (t := 0) (m := 6) (cs2 := (9, 52)) (n2 := 34) d_S_init_46 (Or.inl ⟨rfl, rfl⟩) tw_51 rfl (by decide) ⟨by decide, by decide⟩ rfl (hz.zb 33 rfl) rfl rfl rfl ?_
  refine gh_putR d_S_init_48 fl_S_31 (gho rfl rfl rfl) rfl (by decide) (by decide) (fun q hq => Or.inr ⟨(nf_S_7 q hq).1, rfl, (nf_S_7 q hq).2⟩) (Or.inr ⟨_, rfl⟩) ?_
  refine sx_aload_n d_S_init_51 rfl ?_
  refine sx_aload_n d_S_init_52 rfl ?_
  refine gh_putR d_S_init_53 fl_S_34 (gho rfl rfl rfl) rfl (by decide) (by decide) (fun q hq => Or.inr ⟨(nf_S_0 q hq).1, rfl, (nf_S_0 q hq).2⟩) (Or.inl ⟨_, rfl⟩) ?_
  refine sx_aload_n d_S_init_56 rfl ?_
  refine sx_aload_n d_S_init_57 rfl ?_
  refine gh_putR d_S_init_58 fl_S_38 (gho rfl rfl rfl) rfl (by decide) (by decide) (fun q hq => Or.inr ⟨(nf_S_1 q hq).1, rfl, (nf_S_1 q hq).2⟩) (Or.inl ⟨_, rfl⟩) ?_
  refine sx_aload_n d_S_init_61 rfl ?_
  refine sx_aload_n d_S_init_62 rfl ?_
  refine gh_putR d_S_init_63 fl_S_42 (gho rfl rfl rfl) rfl (by decide) (by decide) (fun q hq => Or.inr ⟨(nf_S_2 q hq).1, rfl, (nf_S_2 q hq).2⟩) (Or.inl ⟨_, rfl⟩) ?_
  refine sx_iconst d_S_init_66 ?_
  refine sx_istore (l' := [some (sx_p 25), some (sx_p 2), some (sx_p 20), some (sx_p 22), some (.inl 0)]) d_S_init_67 (by decide) rfl rfl ?_
  refine sx_iload d_S_init_69 rfl ?_
  refine sx_aload_n d_S_init_71 rfl ?_
  refine sx_getR (r := some (32)) d_S_init_72 fl_S_23 (gho rfl rfl rfl) rfl (by decide) (by decide) rfl ?_
  refine sx_alenR (t := 1) (n := 12) d_S_init_75 (gho rfl rfl rfl) rfl ?_
  show sx_V _ _ _ _ _ _ _ [.inl 12, .inl 0] _ _
  refine sx_icmp_ge (tgt := 99) d_S_init_76 (by decide) ⟨by decide, by decide⟩ ⟨by decide, by decide⟩ (fun c76_44 => absurd c76_44 (by decide)) (fun _ => ?_)
  refine sx_aload_n d_S_init_79 rfl ?_
  refine sx_getR (r := some (32)) d_S_init_80 fl_S_23 (gho rfl rfl rfl) rfl (by decide) (by decide) rfl ?_
  refine sx_iload d_S_init_83 rfl ?_
  refine gh_new (ci := 6) (cs2 := (10, 54)) (n2 := 35) d_S_init_85 rfl (by decide) tw_223 tw_172 tw_6 ⟨by decide, by decide⟩ rfl (hz.zb 34 rfl) rfl rfl rfl ?_
  refine sx_dup rfl d_S_init_88 ?_
  refine sx_callI (c_W_init 35) d_S_init_89 cd_W_init lk_S_45 im_W_init rfl rfl (st := [sx_p 35, .inl 0, sx_p 32]) rfl rfl (Nat.le_of_ble_eq_true rfl) ⟨by decide, by decide, by decide⟩ (fun _ _ hq => ?_)
  obtain ⟨rfl, rfl⟩ := hq
  show sx_V _ _ _ _ (10, 54) _ _ [sx_p 35, .inl 0, sx_p 32] (gh 35 M [(25, 2, 22), (25, 1, 20), (25, 0, 2), (25, 7, 34), (25, 6, 33), (25, 5, 32), (25, 4, 29), (29, 1, 31), (29, 0, 30), (25, 3, 26), (26, 1, 28), (26, 0, 27), (1, 2, 22), (22, 1, 24), (22, 0, 23), (1, 1, 20), (20, 1, 3), (20, 0, 2), (20, 2, 21), (1, 0, 2), (8, 5, 19), (8, 4, 18), (8, 3, 17), (8, 2, 16), (8, 1, 15), (8, 0, 14), (2, 7, 13), (2, 6, 12), (2, 5, 11), (2, 4, 10), (2, 3, 9), (2, 2, 8), (2, 1, 7), (2, 0, 3), (3, 2, 6), (3, 1, 5), (3, 0, 4)]) _
  refine gh_aast (t := 1) (ci := 6) (i := 0) d_S_init_92 (gho rfl rfl rfl) rfl rfl (gho rfl rfl rfl) (by decide) (by decide) (by decide) (by decide) rfl ?_
  refine sx_iinc (l' := [some (sx_p 25), some (sx_p 2), some (sx_p 20), some (sx_p 22), some (.inl 1)]) d_S_init_93 rfl (by decide) rfl rfl ?_
  refine sx_goto (tgt := 69) d_S_init_96 (by decide) ?_
  refine sx_iload d_S_init_69 rfl ?_
  refine sx_aload_n d_S_init_71 rfl ?_
  refine sx_getR (r := some (32)) d_S_init_72 fl_S_23 (gho rfl rfl rfl) rfl (by decide) (by decide) rfl ?_
  refine sx_alenR (t := 1) (n := 12) d_S_init_75 (gho rfl rfl rfl) rfl ?_
  show sx_V _ _ _ _ _ _ _ [.inl 12, .inl 1] _ _
  refine sx_icmp_ge (tgt := 99) d_S_init_76 (by decide) ⟨by decide, by decide⟩ ⟨by decide, by decide⟩ (fun c76_61 => absurd c76_61 (by decide)) (fun _ => ?_)
  refine sx_aload_n d_S_init_79 rfl ?_
  refine sx_getR (r := some (32)) d_S_init_80 fl_S_23 (gho rfl rfl rfl) rfl (by decide) (by decide) rfl ?_
  refine sx_iload d_S_init_83 rfl ?_
  refine gh_new (ci := 6) (cs2 := (11, 56)) (n2 := 36) d_S_init_85 rfl (by decide) tw_223 tw_172 tw_6 ⟨by decide, by decide⟩ rfl (hz.zb 35 rfl) rfl rfl rfl ?_
  refine sx_dup rfl d_S_init_88 ?_
  refine sx_callI (c_W_init 36) d_S_init_89 cd_W_init lk_S_45 im_W_init rfl rfl (st := [sx_p 36, .inl 1, sx_p 32]) rfl rfl (Nat.le_of_ble_eq_true rfl) ⟨by decide, by decide, by decide⟩ (fun _ _ hq => ?_)
  obtain ⟨rfl, rfl⟩ := hq
  show sx_V _ _ _ _ (11, 56) _ _ [sx_p 36, .inl 1, sx_p 32] (gh 36 M [(32, 0, 35), (25, 2, 22), (25, 1, 20), (25, 0, 2), (25, 7, 34), (25, 6, 33), (25, 5, 32), (25, 4, 29), (29, 1, 31), (29, 0, 30), (25, 3, 26), (26, 1, 28), (26, 0, 27), (1, 2, 22), (22, 1, 24), (22, 0, 23), (1, 1, 20), (20, 1, 3), (20, 0, 2), (20, 2, 21), (1, 0, 2), (8, 5, 19), (8, 4, 18), (8, 3, 17), (8, 2, 16), (8, 1, 15), (8, 0, 14), (2, 7, 13), (2, 6, 12), (2, 5, 11), (2, 4, 10), (2, 3, 9), (2, 2, 8), (2, 1, 7), (2, 0, 3), (3, 2, 6), (3, 1, 5), (3, 0, 4)]) _
  refine gh_aast (t := 1) (ci := 6) (i := 1) d_S_init_92 (gho rfl rfl rfl) rfl rfl (gho rfl rfl rfl) (by decide) (by decide) (by decide) (by decide) rfl ?_
  refine sx_iinc (l' := [some (sx_p 25), some (sx_p 2), some (sx_p 20), some (sx_p 22), some (.inl 2)]) d_S_init_93 rfl (by decide) rfl rfl ?_
  refine sx_goto (tgt := 69) d_S_init_96 (by decide) ?_
  refine sx_iload d_S_init_69 rfl ?_
  refine sx_aload_n d_S_init_71 rfl ?_
  refine sx_getR (r := some (32)) d_S_init_72 fl_S_23 (gho rfl rfl rfl) rfl (by decide) (by decide) rfl ?_
  refine sx_alenR (t := 1) (n := 12) d_S_init_75 (gho rfl rfl rfl) rfl ?_
  show sx_V _ _ _ _ _ _ _ [.inl 12, .inl 2] _ _
  refine sx_icmp_ge (tgt := 99) d_S_init_76 (by decide) ⟨by decide, by decide⟩ ⟨by decide, by decide⟩ (fun c76_78 => absurd c76_78 (by decide)) (fun _ => ?_)
  refine sx_aload_n d_S_init_79 rfl ?_
  refine sx_getR (r := some (32)) d_S_init_80 fl_S_23 (gho rfl rfl rfl) rfl (by decide) (by decide) rfl ?_
  refine sx_iload d_S_init_83 rfl ?_
  refine gh_new (ci := 6) (cs2 := (12, 58)) (n2 := 37) d_S_init_85 rfl (by decide) tw_223 tw_172 tw_6 ⟨by decide, by decide⟩ rfl (hz.zb 36 rfl) rfl rfl rfl ?_
  refine sx_dup rfl d_S_init_88 ?_
  refine sx_callI (c_W_init 37) d_S_init_89 cd_W_init lk_S_45 im_W_init rfl rfl (st := [sx_p 37, .inl 2, sx_p 32]) rfl rfl (Nat.le_of_ble_eq_true rfl) ⟨by decide, by decide, by decide⟩ (fun _ _ hq => ?_)
  obtain ⟨rfl, rfl⟩ := hq
  show sx_V _ _ _ _ (12, 58) _ _ [sx_p 37, .inl 2, sx_p 32] (gh 37 M [(32, 1, 36), (32, 0, 35), (25, 2, 22), (25, 1, 20), (25, 0, 2), (25, 7, 34), (25, 6, 33), (25, 5, 32), (25, 4, 29), (29, 1, 31), (29, 0, 30), (25, 3, 26), (26, 1, 28), (26, 0, 27), (1, 2, 22), (22, 1, 24), (22, 0, 23), (1, 1, 20), (20, 1, 3), (20, 0, 2), (20, 2, 21), (1, 0, 2), (8, 5, 19), (8, 4, 18), (8, 3, 17), (8, 2, 16), (8, 1, 15), (8, 0, 14), (2, 7, 13), (2, 6, 12), (2, 5, 11), (2, 4, 10), (2, 3, 9), (2, 2, 8), (2, 1, 7), (2, 0, 3), (3, 2, 6), (3, 1, 5), (3, 0, 4)]) _
  refine gh_aast (t := 1) (ci := 6) (i := 2) d_S_init_92 (gho rfl rfl rfl) rfl rfl (gho rfl rfl rfl) (by decide) (by decide) (by decide) (by decide) rfl ?_
  refine sx_iinc (l' := [some (sx_p 25), some (sx_p 2), some (sx_p 20), some (sx_p 22), some (.inl 3)]) d_S_init_93 rfl (by decide) rfl rfl ?_
  refine sx_goto (tgt := 69) d_S_init_96 (by decide) ?_
  refine sx_iload d_S_init_69 rfl ?_
  refine sx_aload_n d_S_init_71 rfl ?_
  refine sx_getR (r := some (32)) d_S_init_72 fl_S_23 (gho rfl rfl rfl) rfl (by decide) (by decide) rfl ?_
  refine sx_alenR (t := 1) (n := 12) d_S_init_75 (gho rfl rfl rfl) rfl ?_
  show sx_V _ _ _ _ _ _ _ [.inl 12, .inl 3] _ _
  refine sx_icmp_ge (tgt := 99) d_S_init_76 (by decide) ⟨by decide, by decide⟩ ⟨by decide, by decide⟩ (fun c76_95 => absurd c76_95 (by decide)) (fun _ => ?_)
  refine sx_aload_n d_S_init_79 rfl ?_
  refine sx_getR (r := some (32)) d_S_init_80 fl_S_23 (gho rfl rfl rfl) rfl (by decide) (by decide) rfl ?_
  refine sx_iload d_S_init_83 rfl ?_
  refine gh_new (ci := 6) (cs2 := (13, 60)) (n2 := 38) d_S_init_85 rfl (by decide) tw_223 tw_172 tw_6 ⟨by decide, by decide⟩ rfl (hz.zb 37 rfl) rfl rfl rfl ?_
  refine sx_dup rfl d_S_init_88 ?_
  refine sx_callI (c_W_init 38) d_S_init_89 cd_W_init lk_S_45 im_W_init rfl rfl (st := [sx_p 38, .inl 3, sx_p 32]) rfl rfl (Nat.le_of_ble_eq_true rfl) ⟨by decide, by decide, by decide⟩ (fun _ _ hq => ?_)
  obtain ⟨rfl, rfl⟩ := hq
  show sx_V _ _ _ _ (13, 60) _ _ [sx_p 38, .inl 3, sx_p 32] (gh 38 M [(32, 2, 37), (32, 1, 36), (32, 0, 35), (25, 2, 22), (25, 1, 20), (25, 0, 2), (25, 7, 34), (25, 6, 33), (25, 5, 32), (25, 4, 29), (29, 1, 31), (29, 0, 30), (25, 3, 26), (26, 1, 28), (26, 0, 27), (1, 2, 22), (22, 1, 24), (22, 0, 23), (1, 1, 20), (20, 1, 3), (20, 0, 2), (20, 2, 21), (1, 0, 2), (8, 5, 19), (8, 4, 18), (8, 3, 17), (8, 2, 16), (8, 1, 15), (8, 0, 14), (2, 7, 13), (2, 6, 12), (2, 5, 11), (2, 4, 10), (2, 3, 9), (2, 2, 8), (2, 1, 7), (2, 0, 3), (3, 2, 6), (3, 1, 5), (3, 0, 4)]) _
  refine gh_aast (t := 1) (ci := 6) (i := 3) d_S_init_92 (gho rfl rfl rfl) rfl rfl (gho rfl rfl rfl) (by decide) (by decide) (by decide) (by decide) rfl ?_
  refine sx_iinc (l' := [some (sx_p 25), some (sx_p 2), some (sx_p 20), some (sx_p 22), some (.inl 4)]) d_S_init_93 rfl (by decide) rfl rfl ?_
  refine sx_goto (tgt := 69) d_S_init_96 (by decide) ?_
  refine sx_iload d_S_init_69 rfl ?_
  refine sx_aload_n d_S_init_71 rfl ?_
  refine sx_getR (r := some (32)) d_S_init_72 fl_S_23 (gho rfl rfl rfl) rfl (by decide) (by decide) rfl ?_
  refine sx_alenR (t := 1) (n := 12) d_S_init_75 (gho rfl rfl rfl) rfl ?_
  show sx_V _ _ _ _ _ _ _ [.inl 12, .inl 4] _ _
  refine sx_icmp_ge (tgt := 99) d_S_init_76 (by decide) ⟨by decide, by decide⟩ ⟨by decide, by decide⟩ (fun c76_112 => absurd c76_112 (by decide)) (fun _ => ?_)
  refine sx_aload_n d_S_init_79 rfl ?_
  refine sx_getR (r := some (32)) d_S_init_80 fl_S_23 (gho rfl rfl rfl) rfl (by decide) (by decide) rfl ?_
  refine sx_iload d_S_init_83 rfl ?_
  refine gh_new (ci := 6) (cs2 := (14, 62)) (n2 := 39) d_S_init_85 rfl (by decide) tw_223 tw_172 tw_6 ⟨by decide, by decide⟩ rfl (hz.zb 38 rfl) rfl rfl rfl ?_
  refine sx_dup rfl d_S_init_88 ?_
  refine sx_callI (c_W_init 39) d_S_init_89 cd_W_init lk_S_45 im_W_init rfl rfl (st := [sx_p 39, .inl 4, sx_p 32]) rfl rfl (Nat.le_of_ble_eq_true rfl) ⟨by decide, by decide, by decide⟩ (fun _ _ hq => ?_)
  obtain ⟨rfl, rfl⟩ := hq
  show sx_V _ _ _ _ (14, 62) _ _ [sx_p 39, .inl 4, sx_p 32] (gh 39 M [(32, 3, 38), (32, 2, 37), (32, 1, 36), (32, 0, 35), (25, 2, 22), (25, 1, 20), (25, 0, 2), (25, 7, 34), (25, 6, 33), (25, 5, 32), (25, 4, 29), (29, 1, 31), (29, 0, 30), (25, 3, 26), (26, 1, 28), (26, 0, 27), (1, 2, 22), (22, 1, 24), (22, 0, 23), (1, 1, 20), (20, 1, 3), (20, 0, 2), (20, 2, 21), (1, 0, 2), (8, 5, 19), (8, 4, 18), (8, 3, 17), (8, 2, 16), (8, 1, 15), (8, 0, 14), (2, 7, 13), (2, 6, 12), (2, 5, 11), (2, 4, 10), (2, 3, 9), (2, 2, 8), (2, 1, 7), (2, 0, 3), (3, 2, 6), (3, 1, 5), (3, 0, 4)]) _
  refine gh_aast (t := 1) (ci := 6) (i := 4) d_S_init_92 (gho rfl rfl rfl) rfl rfl (gho rfl rfl rfl) (by decide) (by decide) (by decide) (by decide) rfl ?_
  refine sx_iinc (l' := [some (sx_p 25), some (sx_p 2), some (sx_p 20), some (sx_p 22), some (.inl 5)]) d_S_init_93 rfl (by decide) rfl rfl ?_
  refine sx_goto (tgt := 69) d_S_init_96 (by decide) ?_
  refine sx_iload d_S_init_69 rfl ?_
  refine sx_aload_n d_S_init_71 rfl ?_
  refine sx_getR (r := some (32)) d_S_init_72 fl_S_23 (gho rfl rfl rfl) rfl (by decide) (by decide) rfl ?_
  refine sx_alenR (t := 1) (n := 12) d_S_init_75 (gho rfl rfl rfl) rfl ?_
  show sx_V _ _ _ _ _ _ _ [.inl 12, .inl 5] _ _
  refine sx_icmp_ge (tgt := 99) d_S_init_76 (by decide) ⟨by decide, by decide⟩ ⟨by decide, by decide⟩ (fun c76_129 => absurd c76_129 (by decide)) (fun _ => ?_)
  refine sx_aload_n d_S_init_79 rfl ?_
  refine sx_getR (r := some (32)) d_S_init_80 fl_S_23 (gho rfl rfl rfl) rfl (by decide) (by decide) rfl ?_
  refine sx_iload d_S_init_83 rfl ?_
  refine gh_new (ci := 6) (cs2 := (15, 64)) (n2 := 40) d_S_init_85 rfl (by decide) tw_223 tw_172 tw_6 ⟨by decide, by decide⟩ rfl (hz.zb 39 rfl) rfl rfl rfl ?_
  refine sx_dup rfl d_S_init_88 ?_
  refine sx_callI (c_W_init 40) d_S_init_89 cd_W_init lk_S_45 im_W_init rfl rfl (st := [sx_p 40, .inl 5, sx_p 32]) rfl rfl (Nat.le_of_ble_eq_true rfl) ⟨by decide, by decide, by decide⟩ (fun _ _ hq => ?_)
  obtain ⟨rfl, rfl⟩ := hq
  show sx_V _ _ _ _ (15, 64) _ _ [sx_p 40, .inl 5, sx_p 32] (gh 40 M [(32, 4, 39), (32, 3, 38), (32, 2, 37), (32, 1, 36), (32, 0, 35), (25, 2, 22), (25, 1, 20), (25, 0, 2), (25, 7, 34), (25, 6, 33), (25, 5, 32), (25, 4, 29), (29, 1, 31), (29, 0, 30), (25, 3, 26), (26, 1, 28), (26, 0, 27), (1, 2, 22), (22, 1, 24), (22, 0, 23), (1, 1, 20), (20, 1, 3), (20, 0, 2), (20, 2, 21), (1, 0, 2), (8, 5, 19), (8, 4, 18), (8, 3, 17), (8, 2, 16), (8, 1, 15), (8, 0, 14), (2, 7, 13), (2, 6, 12), (2, 5, 11), (2, 4, 10), (2, 3, 9), (2, 2, 8), (2, 1, 7), (2, 0, 3), (3, 2, 6), (3, 1, 5), (3, 0, 4)]) _
  refine gh_aast (t := 1) (ci := 6) (i := 5) d_S_init_92 (gho rfl rfl rfl) rfl rfl (gho rfl rfl rfl) (by decide) (by decide) (by decide) (by decide) rfl ?_
  refine sx_iinc (l' := [some (sx_p 25), some (sx_p 2), some (sx_p 20), some (sx_p 22), some (.inl 6)]) d_S_init_93 rfl (by decide) rfl rfl ?_
  refine sx_goto (tgt := 69) d_S_init_96 (by decide) ?_
  refine sx_iload d_S_init_69 rfl ?_
  refine sx_aload_n d_S_init_71 rfl ?_
  refine sx_getR (r := some (32)) d_S_init_72 fl_S_23 (gho rfl rfl rfl) rfl (by decide) (by decide) rfl ?_
  refine sx_alenR (t := 1) (n := 12) d_S_init_75 (gho rfl rfl rfl) rfl ?_
  show sx_V _ _ _ _ _ _ _ [.inl 12, .inl 6] _ _
  refine sx_icmp_ge (tgt := 99) d_S_init_76 (by decide) ⟨by decide, by decide⟩ ⟨by decide, by decide⟩ (fun c76_146 => absurd c76_146 (by decide)) (fun _ => ?_)
  refine sx_aload_n d_S_init_79 rfl ?_
  refine sx_getR (r := some (32)) d_S_init_80 fl_S_23 (gho rfl rfl rfl) rfl (by decide) (by decide) rfl ?_
  refine sx_iload d_S_init_83 rfl ?_
  refine gh_new (ci := 6) (cs2 := (16, 66)) (n2 := 41) d_S_init_85 rfl (by decide) tw_223 tw_172 tw_6 ⟨by decide, by decide⟩ rfl (hz.zb 40 rfl) rfl rfl rfl ?_
  refine sx_dup rfl d_S_init_88 ?_
  refine sx_callI (c_W_init 41) d_S_init_89 cd_W_init lk_S_45 im_W_init rfl rfl (st := [sx_p 41, .inl 6, sx_p 32]) rfl rfl (Nat.le_of_ble_eq_true rfl) ⟨by decide, by decide, by decide⟩ (fun _ _ hq => ?_)
  obtain ⟨rfl, rfl⟩ := hq
  show sx_V _ _ _ _ (16, 66) _ _ [sx_p 41, .inl 6, sx_p 32] (gh 41 M [(32, 5, 40), (32, 4, 39), (32, 3, 38), (32, 2, 37), (32, 1, 36), (32, 0, 35), (25, 2, 22), (25, 1, 20), (25, 0, 2), (25, 7, 34), (25, 6, 33), (25, 5, 32), (25, 4, 29), (29, 1, 31), (29, 0, 30), (25, 3, 26), (26, 1, 28), (26, 0, 27), (1, 2, 22), (22, 1, 24), (22, 0, 23), (1, 1, 20), (20, 1, 3), (20, 0, 2), (20, 2, 21), (1, 0, 2), (8, 5, 19), (8, 4, 18), (8, 3, 17), (8, 2, 16), (8, 1, 15), (8, 0, 14), (2, 7, 13), (2, 6, 12), (2, 5, 11), (2, 4, 10), (2, 3, 9), (2, 2, 8), (2, 1, 7), (2, 0, 3), (3, 2, 6), (3, 1, 5), (3, 0, 4)]) _
  refine gh_aast (t := 1) (ci := 6) (i := 6) d_S_init_92 (gho rfl rfl rfl) rfl rfl (gho rfl rfl rfl) (by decide) (by decide) (by decide) (by decide) rfl ?_
  refine sx_iinc (l' := [some (sx_p 25), some (sx_p 2), some (sx_p 20), some (sx_p 22), some (.inl 7)]) d_S_init_93 rfl (by decide) rfl rfl ?_
  refine sx_goto (tgt := 69) d_S_init_96 (by decide) ?_
  refine sx_iload d_S_init_69 rfl ?_
  refine sx_aload_n d_S_init_71 rfl ?_
  refine sx_getR (r := some (32)) d_S_init_72 fl_S_23 (gho rfl rfl rfl) rfl (by decide) (by decide) rfl ?_
  refine sx_alenR (t := 1) (n := 12) d_S_init_75 (gho rfl rfl rfl) rfl ?_
  show sx_V _ _ _ _ _ _ _ [.inl 12, .inl 7] _ _
  refine sx_icmp_ge (tgt := 99) d_S_init_76 (by decide) ⟨by decide, by decide⟩ ⟨by decide, by decide⟩ (fun c76_163 => absurd c76_163 (by decide)) (fun _ => ?_)
  refine sx_aload_n d_S_init_79 rfl ?_
  refine sx_getR (r := some (32)) d_S_init_80 fl_S_23 (gho rfl rfl rfl) rfl (by decide) (by decide) rfl ?_
  refine sx_iload d_S_init_83 rfl ?_
  refine gh_new (ci := 6) (cs2 := (17, 68)) (n2 := 42) d_S_init_85 rfl (by decide) tw_223 tw_172 tw_6 ⟨by decide, by decide⟩ rfl (hz.zb 41 rfl) rfl rfl rfl ?_
  refine sx_dup rfl d_S_init_88 ?_
  refine sx_callI (c_W_init 42) d_S_init_89 cd_W_init lk_S_45 im_W_init rfl rfl (st := [sx_p 42, .inl 7, sx_p 32]) rfl rfl (Nat.le_of_ble_eq_true rfl) ⟨by decide, by decide, by decide⟩ (fun _ _ hq => ?_)
  obtain ⟨rfl, rfl⟩ := hq
  show sx_V _ _ _ _ (17, 68) _ _ [sx_p 42, .inl 7, sx_p 32] (gh 42 M [(32, 6, 41), (32, 5, 40), (32, 4, 39), (32, 3, 38), (32, 2, 37), (32, 1, 36), (32, 0, 35), (25, 2, 22), (25, 1, 20), (25, 0, 2), (25, 7, 34), (25, 6, 33), (25, 5, 32), (25, 4, 29), (29, 1, 31), (29, 0, 30), (25, 3, 26), (26, 1, 28), (26, 0, 27), (1, 2, 22), (22, 1, 24), (22, 0, 23), (1, 1, 20), (20, 1, 3), (20, 0, 2), (20, 2, 21), (1, 0, 2), (8, 5, 19), (8, 4, 18), (8, 3, 17), (8, 2, 16), (8, 1, 15), (8, 0, 14), (2, 7, 13), (2, 6, 12), (2, 5, 11), (2, 4, 10), (2, 3, 9), (2, 2, 8), (2, 1, 7), (2, 0, 3), (3, 2, 6), (3, 1, 5), (3, 0, 4)]) _
  refine gh_aast (t := 1) (ci := 6) (i := 7) d_S_init_92 (gho rfl rfl rfl) rfl rfl (gho rfl rfl rfl) (by decide) (by decide) (by decide) (by decide) rfl ?_
  refine sx_iinc (l' := [some (sx_p 25), some (sx_p 2), some (sx_p 20), some (sx_p 22), some (.inl 8)]) d_S_init_93 rfl (by decide) rfl rfl ?_
  refine sx_goto (tgt := 69) d_S_init_96 (by decide) ?_
  refine sx_iload d_S_init_69 rfl ?_
  refine sx_aload_n d_S_init_71 rfl ?_
  refine sx_getR (r := some (32)) d_S_init_72 fl_S_23 (gho rfl rfl rfl) rfl (by decide) (by decide) rfl ?_
  refine sx_alenR (t := 1) (n := 12) d_S_init_75 (gho rfl rfl rfl) rfl ?_
  show sx_V _ _ _ _ _ _ _ [.inl 12, .inl 8] _ _
  refine sx_icmp_ge (tgt := 99) d_S_init_76 (by decide) ⟨by decide, by decide⟩ ⟨by decide, by decide⟩ (fun c76_180 => absurd c76_180 (by decide)) (fun _ => ?_)
  refine sx_aload_n d_S_init_79 rfl ?_
  refine sx_getR (r := some (32)) d_S_init_80 fl_S_23 (gho rfl rfl rfl) rfl (by decide) (by decide) rfl ?_
  refine sx_iload d_S_init_83 rfl ?_
  refine gh_new (ci := 6) (cs2 := (18, 70)) (n2 := 43) d_S_init_85 rfl (by decide) tw_223 tw_172 tw_6 ⟨by decide, by decide⟩ rfl (hz.zb 42 rfl) rfl rfl rfl ?_
  refine sx_dup rfl d_S_init_88 ?_
  refine sx_callI (c_W_init 43) d_S_init_89 cd_W_init lk_S_45 im_W_init rfl rfl (st := [sx_p 43, .inl 8, sx_p 32]) rfl rfl (Nat.le_of_ble_eq_true rfl) ⟨by decide, by decide, by decide⟩ (fun _ _ hq => ?_)
  obtain ⟨rfl, rfl⟩ := hq
  show sx_V _ _ _ _ (18, 70) _ _ [sx_p 43, .inl 8, sx_p 32] (gh 43 M [(32, 7, 42), (32, 6, 41), (32, 5, 40), (32, 4, 39), (32, 3, 38), (32, 2, 37), (32, 1, 36), (32, 0, 35), (25, 2, 22), (25, 1, 20), (25, 0, 2), (25, 7, 34), (25, 6, 33), (25, 5, 32), (25, 4, 29), (29, 1, 31), (29, 0, 30), (25, 3, 26), (26, 1, 28), (26, 0, 27), (1, 2, 22), (22, 1, 24), (22, 0, 23), (1, 1, 20), (20, 1, 3), (20, 0, 2), (20, 2, 21), (1, 0, 2), (8, 5, 19), (8, 4, 18), (8, 3, 17), (8, 2, 16), (8, 1, 15), (8, 0, 14), (2, 7, 13), (2, 6, 12), (2, 5, 11), (2, 4, 10), (2, 3, 9), (2, 2, 8), (2, 1, 7), (2, 0, 3), (3, 2, 6), (3, 1, 5), (3, 0, 4)]) _
  refine gh_aast (t := 1) (ci := 6) (i := 8) d_S_init_92 (gho rfl rfl rfl) rfl rfl (gho rfl rfl rfl) (by decide) (by decide) (by decide) (by decide) rfl ?_
  refine sx_iinc (l' := [some (sx_p 25), some (sx_p 2), some (sx_p 20), some (sx_p 22), some (.inl 9)]) d_S_init_93 rfl (by decide) rfl rfl ?_
  refine sx_goto (tgt := 69) d_S_init_96 (by decide) ?_
  refine sx_iload d_S_init_69 rfl ?_
  refine sx_aload_n d_S_init_71 rfl ?_
  refine sx_getR (r := some (32)) d_S_init_72 fl_S_23 (gho rfl rfl rfl) rfl (by decide) (by decide) rfl ?_
  refine sx_alenR (t := 1) (n := 12) d_S_init_75 (gho rfl rfl rfl) rfl ?_
  show sx_V _ _ _ _ _ _ _ [.inl 12, .inl 9] _ _
  refine sx_icmp_ge (tgt := 99) d_S_init_76 (by decide) ⟨by decide, by decide⟩ ⟨by decide, by decide⟩ (fun c76_197 => absurd c76_197 (by decide)) (fun _ => ?_)
  refine sx_aload_n d_S_init_79 rfl ?_
  refine sx_getR (r := some (32)) d_S_init_80 fl_S_23 (gho rfl rfl rfl) rfl (by decide) (by decide) rfl ?_
  refine sx_iload d_S_init_83 rfl ?_
  refine gh_new (ci := 6) (cs2 := (19, 72)) (n2 := 44) d_S_init_85 rfl (by decide) tw_223 tw_172 tw_6 ⟨by decide, by decide⟩ rfl (hz.zb 43 rfl) rfl rfl rfl ?_
  refine sx_dup rfl d_S_init_88 ?_
  refine sx_callI (c_W_init 44) d_S_init_89 cd_W_init lk_S_45 im_W_init rfl rfl (st := [sx_p 44, .inl 9, sx_p 32]) rfl rfl (Nat.le_of_ble_eq_true rfl) ⟨by decide, by decide, by decide⟩ (fun _ _ hq => ?_)
  obtain ⟨rfl, rfl⟩ := hq
  show sx_V _ _ _ _ (19, 72) _ _ [sx_p 44, .inl 9, sx_p 32] (gh 44 M [(32, 8, 43), (32, 7, 42), (32, 6, 41), (32, 5, 40), (32, 4, 39), (32, 3, 38), (32, 2, 37), (32, 1, 36), (32, 0, 35), (25, 2, 22), (25, 1, 20), (25, 0, 2), (25, 7, 34), (25, 6, 33), (25, 5, 32), (25, 4, 29), (29, 1, 31), (29, 0, 30), (25, 3, 26), (26, 1, 28), (26, 0, 27), (1, 2, 22), (22, 1, 24), (22, 0, 23), (1, 1, 20), (20, 1, 3), (20, 0, 2), (20, 2, 21), (1, 0, 2), (8, 5, 19), (8, 4, 18), (8, 3, 17), (8, 2, 16), (8, 1, 15), (8, 0, 14), (2, 7, 13), (2, 6, 12), (2, 5, 11), (2, 4, 10), (2, 3, 9), (2, 2, 8), (2, 1, 7), (2, 0, 3), (3, 2, 6), (3, 1, 5), (3, 0, 4)]) _
  refine gh_aast (t := 1) (ci := 6) (i := 9) d_S_init_92 (gho rfl rfl rfl) rfl rfl (gho rfl rfl rfl) (by decide) (by decide) (by decide) (by decide) rfl ?_
  refine sx_iinc (l' := [some (sx_p 25), some (sx_p 2), some (sx_p 20), some (sx_p 22), some (.inl 10)]) d_S_init_93 rfl (by decide) rfl rfl ?_
  refine sx_goto (tgt := 69) d_S_init_96 (by decide) ?_
  refine sx_iload d_S_init_69 rfl ?_
  refine sx_aload_n d_S_init_71 rfl ?_
  refine sx_getR (r := some (32)) d_S_init_72 fl_S_23 (gho rfl rfl rfl) rfl (by decide) (by decide) rfl ?_
  refine sx_alenR (t := 1) (n := 12) d_S_init_75 (gho rfl rfl rfl) rfl ?_
  show sx_V _ _ _ _ _ _ _ [.inl 12, .inl 10] _ _
  refine sx_icmp_ge (tgt := 99) d_S_init_76 (by decide) ⟨by decide, by decide⟩ ⟨by decide, by decide⟩ (fun c76_214 => absurd c76_214 (by decide)) (fun _ => ?_)
  refine sx_aload_n d_S_init_79 rfl ?_
  refine sx_getR (r := some (32)) d_S_init_80 fl_S_23 (gho rfl rfl rfl) rfl (by decide) (by decide) rfl ?_
  refine sx_iload d_S_init_83 rfl ?_
  refine gh_new (ci := 6) (cs2 := (20, 74)) (n2 := 45) d_S_init_85 rfl (by decide) tw_223 tw_172 tw_6 ⟨by decide, by decide⟩ rfl (hz.zb 44 rfl) rfl rfl rfl ?_
  refine sx_dup rfl d_S_init_88 ?_
  refine sx_callI (c_W_init 45) d_S_init_89 cd_W_init lk_S_45 im_W_init rfl rfl (st := [sx_p 45, .inl 10, sx_p 32]) rfl rfl (Nat.le_of_ble_eq_true rfl) ⟨by decide, by decide, by decide⟩ (fun _ _ hq => ?_)
  obtain ⟨rfl, rfl⟩ := hq
  show sx_V _ _ _ _ (20, 74) _ _ [sx_p 45, .inl 10, sx_p 32] (gh 45 M [(32, 9, 44), (32, 8, 43), (32, 7, 42), (32, 6, 41), (32, 5, 40), (32, 4, 39), (32, 3, 38), (32, 2, 37), (32, 1, 36), (32, 0, 35), (25, 2, 22), (25, 1, 20), (25, 0, 2), (25, 7, 34), (25, 6, 33), (25, 5, 32), (25, 4, 29), (29, 1, 31), (29, 0, 30), (25, 3, 26), (26, 1, 28), (26, 0, 27), (1, 2, 22), (22, 1, 24), (22, 0, 23), (1, 1, 20), (20, 1, 3), (20, 0, 2), (20, 2, 21), (1, 0, 2), (8, 5, 19), (8, 4, 18), (8, 3, 17), (8, 2, 16), (8, 1, 15), (8, 0, 14), (2, 7, 13), (2, 6, 12), (2, 5, 11), (2, 4, 10), (2, 3, 9), (2, 2, 8), (2, 1, 7), (2, 0, 3), (3, 2, 6), (3, 1, 5), (3, 0, 4)]) _
  refine gh_aast (t := 1) (ci := 6) (i := 10) d_S_init_92 (gho rfl rfl rfl) rfl rfl (gho rfl rfl rfl) (by decide) (by decide) (by decide) (by decide) rfl ?_
  refine sx_iinc (l' := [some (sx_p 25), some (sx_p 2), some (sx_p 20), some (sx_p 22), some (.inl 11)]) d_S_init_93 rfl (by decide) rfl rfl ?_
  refine sx_goto (tgt := 69) d_S_init_96 (by decide) ?_
  refine sx_iload d_S_init_69 rfl ?_
  refine sx_aload_n d_S_init_71 rfl ?_
  refine sx_getR (r := some (32)) d_S_init_72 fl_S_23 (gho rfl rfl rfl) rfl (by decide) (by decide) rfl ?_
  refine sx_alenR (t := 1) (n := 12) d_S_init_75 (gho rfl rfl rfl) rfl ?_
  show sx_V _ _ _ _ _ _ _ [.inl 12, .inl 11] _ _
  refine sx_icmp_ge (tgt := 99) d_S_init_76 (by decide) ⟨by decide, by decide⟩ ⟨by decide, by decide⟩ (fun c76_231 => absurd c76_231 (by decide)) (fun _ => ?_)
  refine sx_aload_n d_S_init_79 rfl ?_
  refine sx_getR (r := some (32)) d_S_init_80 fl_S_23 (gho rfl rfl rfl) rfl (by decide) (by decide) rfl ?_
  refine sx_iload d_S_init_83 rfl ?_
  refine gh_new (ci := 6) (cs2 := (21, 76)) (n2 := 46) d_S_init_85 rfl (by decide) tw_223 tw_172 tw_6 ⟨by decide, by decide⟩ rfl (hz.zb 45 rfl) rfl rfl rfl ?_
  refine sx_dup rfl d_S_init_88 ?_
  refine sx_callI (c_W_init 46) d_S_init_89 cd_W_init lk_S_45 im_W_init rfl rfl (st := [sx_p 46, .inl 11, sx_p 32]) rfl rfl (Nat.le_of_ble_eq_true rfl) ⟨by decide, by decide, by decide⟩ (fun _ _ hq => ?_)
  obtain ⟨rfl, rfl⟩ := hq
  show sx_V _ _ _ _ (21, 76) _ _ [sx_p 46, .inl 11, sx_p 32] (gh 46 M [(32, 10, 45), (32, 9, 44), (32, 8, 43), (32, 7, 42), (32, 6, 41), (32, 5, 40), (32, 4, 39), (32, 3, 38), (32, 2, 37), (32, 1, 36), (32, 0, 35), (25, 2, 22), (25, 1, 20), (25, 0, 2), (25, 7, 34), (25, 6, 33), (25, 5, 32), (25, 4, 29), (29, 1, 31), (29, 0, 30), (25, 3, 26), (26, 1, 28), (26, 0, 27), (1, 2, 22), (22, 1, 24), (22, 0, 23), (1, 1, 20), (20, 1, 3), (20, 0, 2), (20, 2, 21), (1, 0, 2), (8, 5, 19), (8, 4, 18), (8, 3, 17), (8, 2, 16), (8, 1, 15), (8, 0, 14), (2, 7, 13), (2, 6, 12), (2, 5, 11), (2, 4, 10), (2, 3, 9), (2, 2, 8), (2, 1, 7), (2, 0, 3), (3, 2, 6), (3, 1, 5), (3, 0, 4)]) _
  refine gh_aast (t := 1) (ci := 6) (i := 11) d_S_init_92 (gho rfl rfl rfl) rfl rfl (gho rfl rfl rfl) (by decide) (by decide) (by decide) (by decide) rfl ?_
  refine sx_iinc (l' := [some (sx_p 25), some (sx_p 2), some (sx_p 20), some (sx_p 22), some (.inl 12)]) d_S_init_93 rfl (by decide) rfl rfl ?_
  refine sx_goto (tgt := 69) d_S_init_96 (by decide) ?_
  refine sx_iload d_S_init_69 rfl ?_
  refine sx_aload_n d_S_init_71 rfl ?_
  refine sx_getR (r := some (32)) d_S_init_72 fl_S_23 (gho rfl rfl rfl) rfl (by decide) (by decide) rfl ?_
  refine sx_alenR (t := 1) (n := 12) d_S_init_75 (gho rfl rfl rfl) rfl ?_
  show sx_V _ _ _ _ _ _ _ [.inl 12, .inl 12] _ _
  refine sx_icmp_ge (tgt := 99) d_S_init_76 (by decide) ⟨by decide, by decide⟩ ⟨by decide, by decide⟩ (fun _ => ?_) (fun c76_248 => absurd c76_248 (by decide))
  refine sx_retV d_S_init_99 rfl ⟨by decide, by decide⟩ ?_
  exact ⟨rfl, rfl⟩
set_option maxRecDepth 100000 in
set_option maxHeartbeats 4000000 in
theorem c_H_init {L : Nat} {xs : Nat → Int32} {M : Nat → Nat → Int} (hz : LZ M) : sx_R y_H_init (1, 1, 6) L xs [sx_p 48, sx_p 2, sx_p 22] (gh 48 M [(1, 4, 47), (1, 3, 25), (32, 11, 46), (32, 10, 45), (32, 9, 44), (32, 8, 43), (32, 7, 42), (32, 6, 41), (32, 5, 40), (32, 4, 39), (32, 3, 38), (32, 2, 37), (32, 1, 36), (32, 0, 35), (25, 2, 22), (25, 1, 20), (25, 0, 2), (25, 7, 34), (25, 6, 33), (25, 5, 32), (25, 4, 29), (29, 1, 31), (29, 0, 30), (25, 3, 26), (26, 1, 28), (26, 0, 27), (1, 2, 22), (22, 1, 24), (22, 0, 23), (1, 1, 20), (20, 1, 3), (20, 0, 2), (20, 2, 21), (1, 0, 2), (8, 5, 19), (8, 4, 18), (8, 3, 17), (8, 2, 16), (8, 1, 15), (8, 0, 14), (2, 7, 13), (2, 6, 12), (2, 5, 11), (2, 4, 10), (2, 3, 9), (2, 2, 8), (2, 1, 7), (2, 0, 3), (3, 2, 6), (3, 1, 5), (3, 0, 4)]) (fun v h2 => v = none ∧ h2 = gh 49 M [(48, 1, 22), (48, 0, 2), (48, 2, 49), (1, 4, 47), (1, 3, 25), (32, 11, 46), (32, 10, 45), (32, 9, 44), (32, 8, 43), (32, 7, 42), (32, 6, 41), (32, 5, 40), (32, 4, 39), (32, 3, 38), (32, 2, 37), (32, 1, 36), (32, 0, 35), (25, 2, 22), (25, 1, 20), (25, 0, 2), (25, 7, 34), (25, 6, 33), (25, 5, 32), (25, 4, 29), (29, 1, 31), (29, 0, 30), (25, 3, 26), (26, 1, 28), (26, 0, 27), (1, 2, 22), (22, 1, 24), (22, 0, 23), (1, 1, 20), (20, 1, 3), (20, 0, 2), (20, 2, 21), (1, 0, 2), (8, 5, 19), (8, 4, 18), (8, 3, 17), (8, 2, 16), (8, 1, 15), (8, 0, 14), (2, 7, 13), (2, 6, 12), (2, 5, 11), (2, 4, 10), (2, 3, 9), (2, 2, 8), (2, 1, 7), (2, 0, 3), (3, 2, 6), (3, 1, 5), (3, 0, 4)]) := by
  refine sx_enter rfl (Nat.le_of_ble_eq_true rfl) rfl ?_
  show sx_V y_H_init (1, 1, 6) L xs (0, 0) 0 [some (sx_p 48), some (sx_p 2), some (sx_p 22)] [] (gh 48 M [(1, 4, 47), (1, 3, 25), (32, 11, 46), (32, 10, 45), (32, 9, 44), (32, 8, 43), (32, 7, 42), (32, 6, 41), (32, 5, 40), (32, 4, 39), (32, 3, 38), (32, 2, 37), (32, 1, 36), (32, 0, 35), (25, 2, 22), (25, 1, 20), (25, 0, 2), (25, 7, 34), (25, 6, 33), (25, 5, 32), (25, 4, 29), (29, 1, 31), (29, 0, 30), (25, 3, 26), (26, 1, 28), (26, 0, 27), (1, 2, 22), (22, 1, 24), (22, 0, 23), (1, 1, 20), (20, 1, 3), (20, 0, 2), (20, 2, 21), (1, 0, 2), (8, 5, 19), (8, 4, 18), (8, 3, 17), (8, 2, 16), (8, 1, 15), (8, 0, 14), (2, 7, 13), (2, 6, 12), (2, 5, 11), (2, 4, 10), (2, 3, 9), (2, 2, 8), (2, 1, 7), (2, 0, 3), (3, 2, 6), (3, 1, 5), (3, 0, 4)]) _
  refine sx_aload_n d_H_init_0 rfl ?_
  refine sx_oinit d_H_init_1 tw_285 tw_18 tw_19 (by decide) (Nat.le_of_ble_eq_true rfl) ?_
  refine sx_aload_n d_H_init_4 rfl ?_
  refine sx_bipush d_H_init_5 (by decide) ?_
  refine gh_newa (t := 0) (m := 6) (cs2 := (1, 6)) (n2 := 49) d_H_init_7 (Or.inl ⟨rfl, rfl⟩) tw_51 rfl (by decide) ⟨by decide, by decide⟩ rfl (hz.zb 48 rfl) rfl rfl rfl ?_
  refine gh_putR d_H_init_9 fl_H_9 (gho rfl rfl rfl) rfl (by decide) (by decide) (fun q hq => Or.inr ⟨(nf_H_2 q hq).1, rfl, (nf_H_2 q hq).2⟩) (Or.inr ⟨_, rfl⟩) ?_
  refine sx_aload_n d_H_init_12 rfl ?_
  refine sx_aload_n d_H_init_13 rfl ?_
  refine gh_putR d_H_init_14 fl_H_15 (gho rfl rfl rfl) rfl (by decide) (by decide) (fun q hq => Or.inr ⟨(nf_H_0 q hq).1, rfl, (nf_H_0 q hq).2⟩) (Or.inl ⟨_, rfl⟩) ?_
  refine sx_aload_n d_H_init_17 rfl ?_
  refine sx_aload_n d_H_init_18 rfl ?_
  refine gh_putR d_H_init_19 fl_H_19 (gho rfl rfl rfl) rfl (by decide) (by decide) (fun q hq => Or.inr ⟨(nf_H_1 q hq).1, rfl, (nf_H_1 q hq).2⟩) (Or.inl ⟨_, rfl⟩) ?_
  refine sx_retV d_H_init_22 rfl ⟨by decide, by decide⟩ ?_
  exact ⟨rfl, rfl⟩
set_option maxRecDepth 100000 in
set_option maxHeartbeats 4000000 in
theorem c_T_init {L : Nat} {xs : Nat → Int32} : sx_R y_T_init (3, 49, 939) L xs [sx_p 1] (gh 1 zM []) (fun v h2 => v = none ∧ ∃ M2, h2 = gh 50 M2 [(1, 6, 50), (1, 5, 48), (48, 1, 22), (48, 0, 2), (48, 2, 49), (1, 4, 47), (1, 3, 25), (32, 11, 46), (32, 10, 45), (32, 9, 44), (32, 8, 43), (32, 7, 42), (32, 6, 41), (32, 5, 40), (32, 4, 39), (32, 3, 38), (32, 2, 37), (32, 1, 36), (32, 0, 35), (25, 2, 22), (25, 1, 20), (25, 0, 2), (25, 7, 34), (25, 6, 33), (25, 5, 32), (25, 4, 29), (29, 1, 31), (29, 0, 30), (25, 3, 26), (26, 1, 28), (26, 0, 27), (1, 2, 22), (22, 1, 24), (22, 0, 23), (1, 1, 20), (20, 1, 3), (20, 0, 2), (20, 2, 21), (1, 0, 2), (8, 5, 19), (8, 4, 18), (8, 3, 17), (8, 2, 16), (8, 1, 15), (8, 0, 14), (2, 7, 13), (2, 6, 12), (2, 5, 11), (2, 4, 10), (2, 3, 9), (2, 2, 8), (2, 1, 7), (2, 0, 3), (3, 2, 6), (3, 1, 5), (3, 0, 4)] ∧ LZ M2) := by
  refine sx_enter rfl (Nat.le_of_ble_eq_true rfl) rfl ?_
  show sx_V y_T_init (3, 49, 939) L xs (0, 0) 0 [some (sx_p 1)] [] (gh 1 zM []) _
  refine sx_aload_n d_T_init_0 rfl ?_
  refine sx_oinit d_T_init_1 tw_17 tw_18 tw_19 (by decide) (Nat.le_of_ble_eq_true rfl) ?_
  refine sx_aload_n d_T_init_4 rfl ?_
  refine gh_new (ci := 1) (cs2 := (1, 11)) (n2 := 2) d_T_init_5 rfl (by decide) tw_20 tw_21 tw_2 ⟨by decide, by decide⟩ rfl (zM_zb 1) rfl rfl rfl ?_
  refine sx_dup rfl d_T_init_8 ?_
  refine sx_callI (c_L_init) d_T_init_9 cd_L_init lk_T_9 im_L_init rfl rfl (st := [sx_p 2, sx_p 1]) rfl rfl (Nat.le_of_ble_eq_true rfl) ⟨by decide, by decide, by decide⟩ (fun _ _ hq => ?_)
  obtain ⟨rfl, M2, rfl, hz⟩ := hq
  show sx_V _ _ _ _ (18, 811) _ _ [sx_p 2, sx_p 1] (gh 19 M2 [(8, 5, 19), (8, 4, 18), (8, 3, 17), (8, 2, 16), (8, 1, 15), (8, 0, 14), (2, 7, 13), (2, 6, 12), (2, 5, 11), (2, 4, 10), (2, 3, 9), (2, 2, 8), (2, 1, 7), (2, 0, 3), (3, 2, 6), (3, 1, 5), (3, 0, 4)]) _
  refine gh_putR d_T_init_12 fl_T_10 (gho rfl rfl rfl) rfl (by decide) (by decide) (fun q hq => Or.inr ⟨(nf_T_0 q hq).1, rfl, (nf_T_0 q hq).2⟩) (Or.inl ⟨_, rfl⟩) ?_
  refine sx_aload_n d_T_init_15 rfl ?_
  refine gh_new (ci := 3) (cs2 := (19, 814)) (n2 := 20) d_T_init_16 rfl (by decide) tw_165 tw_166 tw_5 ⟨by decide, by decide⟩ rfl (hz.zb 19 rfl) rfl rfl rfl ?_
  refine sx_dup rfl d_T_init_19 ?_
  refine sx_aload_n d_T_init_20 rfl ?_
  refine sx_getR (r := some (2)) d_T_init_21 fl_T_10 (gho rfl rfl rfl) rfl (by decide) (by decide) rfl ?_
  refine sx_callI (c_R_init hz) d_T_init_24 cd_R_init lk_T_18 im_R_init rfl rfl (st := [sx_p 20, sx_p 1]) rfl rfl (Nat.le_of_ble_eq_true rfl) ⟨by decide, by decide, by decide⟩ (fun _ _ hq => ?_)
  obtain ⟨rfl, rfl⟩ := hq
  show sx_V _ _ _ _ (20, 816) _ _ [sx_p 20, sx_p 1] (gh 21 M2 [(20, 1, 3), (20, 0, 2), (20, 2, 21), (1, 0, 2), (8, 5, 19), (8, 4, 18), (8, 3, 17), (8, 2, 16), (8, 1, 15), (8, 0, 14), (2, 7, 13), (2, 6, 12), (2, 5, 11), (2, 4, 10), (2, 3, 9), (2, 2, 8), (2, 1, 7), (2, 0, 3), (3, 2, 6), (3, 1, 5), (3, 0, 4)]) _
  refine gh_putR d_T_init_27 fl_T_21 (gho rfl rfl rfl) rfl (by decide) (by decide) (fun q hq => Or.inr ⟨(nf_T_1 q hq).1, rfl, (nf_T_1 q hq).2⟩) (Or.inl ⟨_, rfl⟩) ?_
  refine sx_aload_n d_T_init_30 rfl ?_
  refine gh_new (ci := 2) (cs2 := (21, 818)) (n2 := 22) d_T_init_31 rfl (by decide) tw_194 tw_195 tw_7 ⟨by decide, by decide⟩ rfl (hz.zb 21 rfl) rfl rfl rfl ?_
  refine sx_dup rfl d_T_init_34 ?_
  refine sx_callI (c_P_init22 (M := M2) (rl := [(1, 1, 20), (20, 1, 3), (20, 0, 2), (20, 2, 21), (1, 0, 2), (8, 5, 19), (8, 4, 18), (8, 3, 17), (8, 2, 16), (8, 1, 15), (8, 0, 14), (2, 7, 13), (2, 6, 12), (2, 5, 11), (2, 4, 10), (2, 3, 9), (2, 2, 8), (2, 1, 7), (2, 0, 3), (3, 2, 6), (3, 1, 5), (3, 0, 4)]) (hz.zb 22 rfl) rfl) d_T_init_35 cd_P_init lk_T_27 im_P_init rfl rfl (st := [sx_p 22, sx_p 1]) rfl rfl (Nat.le_of_ble_eq_true rfl) ⟨by decide, by decide, by decide⟩ (fun _ _ hq => ?_)
  obtain ⟨rfl, rfl⟩ := hq
  show sx_V _ _ _ _ (23, 830) _ _ [sx_p 22, sx_p 1] (gh 24 M2 [(22, 1, 24), (22, 0, 23), (1, 1, 20), (20, 1, 3), (20, 0, 2), (20, 2, 21), (1, 0, 2), (8, 5, 19), (8, 4, 18), (8, 3, 17), (8, 2, 16), (8, 1, 15), (8, 0, 14), (2, 7, 13), (2, 6, 12), (2, 5, 11), (2, 4, 10), (2, 3, 9), (2, 2, 8), (2, 1, 7), (2, 0, 3), (3, 2, 6), (3, 1, 5), (3, 0, 4)]) _
  refine gh_putR d_T_init_38 fl_T_28 (gho rfl rfl rfl) rfl (by decide) (by decide) (fun q hq => Or.inr ⟨(nf_T_2 q hq).1, rfl, (nf_T_2 q hq).2⟩) (Or.inl ⟨_, rfl⟩) ?_
  refine sx_aload_n d_T_init_41 rfl ?_
  refine gh_new (ci := 4) (cs2 := (24, 845)) (n2 := 25) d_T_init_42 rfl (by decide) tw_215 tw_216 tw_8 ⟨by decide, by decide⟩ rfl (hz.zb 24 rfl) rfl rfl rfl ?_
  refine sx_dup rfl d_T_init_45 ?_
  refine sx_aload_n d_T_init_46 rfl ?_
  refine sx_getR (r := some (2)) d_T_init_47 fl_T_10 (gho rfl rfl rfl) rfl (by decide) (by decide) rfl ?_
  refine sx_aload_n d_T_init_50 rfl ?_
  refine sx_getR (r := some (20)) d_T_init_51 fl_T_21 (gho rfl rfl rfl) rfl (by decide) (by decide) rfl ?_
  refine sx_aload_n d_T_init_54 rfl ?_
  refine sx_getR (r := some (22)) d_T_init_55 fl_T_28 (gho rfl rfl rfl) rfl (by decide) (by decide) rfl ?_
  refine sx_callI (c_S_init hz) d_T_init_58 cd_S_init lk_T_34 im_S_init rfl rfl (st := [sx_p 25, sx_p 1]) rfl rfl (Nat.le_of_ble_eq_true rfl) ⟨by decide, by decide, by decide⟩ (fun _ _ hq => ?_)
  obtain ⟨rfl, rfl⟩ := hq
  show sx_V _ _ _ _ (45, 921) _ _ [sx_p 25, sx_p 1] (gh 46 M2 [(32, 11, 46), (32, 10, 45), (32, 9, 44), (32, 8, 43), (32, 7, 42), (32, 6, 41), (32, 5, 40), (32, 4, 39), (32, 3, 38), (32, 2, 37), (32, 1, 36), (32, 0, 35), (25, 2, 22), (25, 1, 20), (25, 0, 2), (25, 7, 34), (25, 6, 33), (25, 5, 32), (25, 4, 29), (29, 1, 31), (29, 0, 30), (25, 3, 26), (26, 1, 28), (26, 0, 27), (1, 2, 22), (22, 1, 24), (22, 0, 23), (1, 1, 20), (20, 1, 3), (20, 0, 2), (20, 2, 21), (1, 0, 2), (8, 5, 19), (8, 4, 18), (8, 3, 17), (8, 2, 16), (8, 1, 15), (8, 0, 14), (2, 7, 13), (2, 6, 12), (2, 5, 11), (2, 4, 10), (2, 3, 9), (2, 2, 8), (2, 1, 7), (2, 0, 3), (3, 2, 6), (3, 1, 5), (3, 0, 4)]) _
  refine gh_putR d_T_init_61 fl_T_37 (gho rfl rfl rfl) rfl (by decide) (by decide) (fun q hq => Or.inr ⟨(nf_T_3 q hq).1, rfl, (nf_T_3 q hq).2⟩) (Or.inl ⟨_, rfl⟩) ?_
  refine sx_aload_n d_T_init_64 rfl ?_
  refine gh_new (ci := 6) (cs2 := (46, 923)) (n2 := 47) d_T_init_65 rfl (by decide) tw_278 tw_172 tw_6 ⟨by decide, by decide⟩ rfl (hz.zb 46 rfl) rfl rfl rfl ?_
  refine sx_dup rfl d_T_init_68 ?_
  refine sx_callI (c_W_init 47) d_T_init_69 cd_W_init lk_T_43 im_W_init rfl rfl (st := [sx_p 47, sx_p 1]) rfl rfl (Nat.le_of_ble_eq_true rfl) ⟨by decide, by decide, by decide⟩ (fun _ _ hq => ?_)
  obtain ⟨rfl, rfl⟩ := hq
  show sx_V _ _ _ _ (46, 923) _ _ [sx_p 47, sx_p 1] (gh 47 M2 [(1, 3, 25), (32, 11, 46), (32, 10, 45), (32, 9, 44), (32, 8, 43), (32, 7, 42), (32, 6, 41), (32, 5, 40), (32, 4, 39), (32, 3, 38), (32, 2, 37), (32, 1, 36), (32, 0, 35), (25, 2, 22), (25, 1, 20), (25, 0, 2), (25, 7, 34), (25, 6, 33), (25, 5, 32), (25, 4, 29), (29, 1, 31), (29, 0, 30), (25, 3, 26), (26, 1, 28), (26, 0, 27), (1, 2, 22), (22, 1, 24), (22, 0, 23), (1, 1, 20), (20, 1, 3), (20, 0, 2), (20, 2, 21), (1, 0, 2), (8, 5, 19), (8, 4, 18), (8, 3, 17), (8, 2, 16), (8, 1, 15), (8, 0, 14), (2, 7, 13), (2, 6, 12), (2, 5, 11), (2, 4, 10), (2, 3, 9), (2, 2, 8), (2, 1, 7), (2, 0, 3), (3, 2, 6), (3, 1, 5), (3, 0, 4)]) _
  refine gh_putR d_T_init_72 fl_T_44 (gho rfl rfl rfl) rfl (by decide) (by decide) (fun q hq => Or.inr ⟨(nf_T_4 q hq).1, rfl, (nf_T_4 q hq).2⟩) (Or.inl ⟨_, rfl⟩) ?_
  refine sx_aload_n d_T_init_75 rfl ?_
  refine gh_new (ci := 5) (cs2 := (47, 927)) (n2 := 48) d_T_init_76 rfl (by decide) tw_280 tw_281 tw_9 ⟨by decide, by decide⟩ rfl (hz.zb 47 rfl) rfl rfl rfl ?_
  refine sx_dup rfl d_T_init_79 ?_
  refine sx_aload_n d_T_init_80 rfl ?_
  refine sx_getR (r := some (2)) d_T_init_81 fl_T_10 (gho rfl rfl rfl) rfl (by decide) (by decide) rfl ?_
  refine sx_aload_n d_T_init_84 rfl ?_
  refine sx_getR (r := some (22)) d_T_init_85 fl_T_28 (gho rfl rfl rfl) rfl (by decide) (by decide) rfl ?_
  refine sx_callI (c_H_init hz) d_T_init_88 cd_H_init lk_T_50 im_H_init rfl rfl (st := [sx_p 48, sx_p 1]) rfl rfl (Nat.le_of_ble_eq_true rfl) ⟨by decide, by decide, by decide⟩ (fun _ _ hq => ?_)
  obtain ⟨rfl, rfl⟩ := hq
  show sx_V _ _ _ _ (48, 933) _ _ [sx_p 48, sx_p 1] (gh 49 M2 [(48, 1, 22), (48, 0, 2), (48, 2, 49), (1, 4, 47), (1, 3, 25), (32, 11, 46), (32, 10, 45), (32, 9, 44), (32, 8, 43), (32, 7, 42), (32, 6, 41), (32, 5, 40), (32, 4, 39), (32, 3, 38), (32, 2, 37), (32, 1, 36), (32, 0, 35), (25, 2, 22), (25, 1, 20), (25, 0, 2), (25, 7, 34), (25, 6, 33), (25, 5, 32), (25, 4, 29), (29, 1, 31), (29, 0, 30), (25, 3, 26), (26, 1, 28), (26, 0, 27), (1, 2, 22), (22, 1, 24), (22, 0, 23), (1, 1, 20), (20, 1, 3), (20, 0, 2), (20, 2, 21), (1, 0, 2), (8, 5, 19), (8, 4, 18), (8, 3, 17), (8, 2, 16), (8, 1, 15), (8, 0, 14), (2, 7, 13), (2, 6, 12), (2, 5, 11), (2, 4, 10), (2, 3, 9), (2, 2, 8), (2, 1, 7), (2, 0, 3), (3, 2, 6), (3, 1, 5), (3, 0, 4)]) _
  refine gh_putR d_T_init_91 fl_T_53 (gho rfl rfl rfl) rfl (by decide) (by decide) (fun q hq => Or.inr ⟨(nf_T_5 q hq).1, rfl, (nf_T_5 q hq).2⟩) (Or.inl ⟨_, rfl⟩) ?_
  refine sx_aload_n d_T_init_94 rfl ?_
  refine sx_bipush d_T_init_95 (by decide) ?_
  refine gh_newa (t := 1) (m := 6) (cs2 := (49, 939)) (n2 := 50) d_T_init_97 (Or.inr ⟨rfl, rfl⟩) tw_50 rfl (by decide) ⟨by decide, by decide⟩ rfl (hz.zb 49 rfl) rfl rfl rfl ?_
  refine gh_putR d_T_init_99 fl_T_57 (gho rfl rfl rfl) rfl (by decide) (by decide) (fun q hq => Or.inr ⟨(nf_T_6 q hq).1, rfl, (nf_T_6 q hq).2⟩) (Or.inr ⟨_, rfl⟩) ?_
  refine sx_retV d_T_init_102 rfl ⟨by decide, by decide⟩ ?_
  exact ⟨rfl, M2, rfl, hz⟩
def rl_M : List (Nat × Nat × Nat) := [(51, 37, 79), (51, 36, 78), (51, 32, 77), (51, 31, 76), (51, 30, 75), (51, 29, 74), (51, 28, 73), (51, 27, 72), (51, 24, 71), (51, 23, 70), (51, 22, 69), (51, 21, 68), (51, 20, 67), (51, 18, 66), (51, 17, 65), (51, 16, 64), (51, 14, 63), (51, 13, 62), (51, 12, 61), (51, 10, 60), (51, 9, 59), (51, 8, 58), (51, 7, 57), (51, 6, 56), (51, 5, 55), (51, 4, 54), (51, 3, 53), (51, 1, 52), (1, 6, 50), (1, 5, 48), (48, 1, 22), (48, 0, 2), (48, 2, 49), (1, 4, 47), (1, 3, 25), (32, 11, 46), (32, 10, 45), (32, 9, 44), (32, 8, 43), (32, 7, 42), (32, 6, 41), (32, 5, 40), (32, 4, 39), (32, 3, 38), (32, 2, 37), (32, 1, 36), (32, 0, 35), (25, 2, 22), (25, 1, 20), (25, 0, 2), (25, 7, 34), (25, 6, 33), (25, 5, 32), (25, 4, 29), (29, 1, 31), (29, 0, 30), (25, 3, 26), (26, 1, 28), (26, 0, 27), (1, 2, 22), (22, 1, 24), (22, 0, 23), (1, 1, 20), (20, 1, 3), (20, 0, 2), (20, 2, 21), (1, 0, 2), (8, 5, 19), (8, 4, 18), (8, 3, 17), (8, 2, 16), (8, 1, 15), (8, 0, 14), (2, 7, 13), (2, 6, 12), (2, 5, 11), (2, 4, 10), (2, 3, 9), (2, 2, 8), (2, 1, 7), (2, 0, 3), (3, 2, 6), (3, 1, 5), (3, 0, 4)]
set_option maxRecDepth 100000 in
set_option maxHeartbeats 4000000 in
theorem c_M_init {L : Nat} {xs : Nat → Int32} {M : Nat → Nat → Int} (hz : LZ M) : sx_R y_M_init (1, 28, 3593) L xs [sx_p 51] (gh 51 M [(1, 6, 50), (1, 5, 48), (48, 1, 22), (48, 0, 2), (48, 2, 49), (1, 4, 47), (1, 3, 25), (32, 11, 46), (32, 10, 45), (32, 9, 44), (32, 8, 43), (32, 7, 42), (32, 6, 41), (32, 5, 40), (32, 4, 39), (32, 3, 38), (32, 2, 37), (32, 1, 36), (32, 0, 35), (25, 2, 22), (25, 1, 20), (25, 0, 2), (25, 7, 34), (25, 6, 33), (25, 5, 32), (25, 4, 29), (29, 1, 31), (29, 0, 30), (25, 3, 26), (26, 1, 28), (26, 0, 27), (1, 2, 22), (22, 1, 24), (22, 0, 23), (1, 1, 20), (20, 1, 3), (20, 0, 2), (20, 2, 21), (1, 0, 2), (8, 5, 19), (8, 4, 18), (8, 3, 17), (8, 2, 16), (8, 1, 15), (8, 0, 14), (2, 7, 13), (2, 6, 12), (2, 5, 11), (2, 4, 10), (2, 3, 9), (2, 2, 8), (2, 1, 7), (2, 0, 3), (3, 2, 6), (3, 1, 5), (3, 0, 4)]) (fun v h2 => v = none ∧ h2 = gh 79 (sx_u (sx_u (sx_u (sx_u M 66 0 4) 66 1 4) 66 2 4) 66 3 4) rl_M) := by
  refine sx_enter rfl (Nat.le_of_ble_eq_true rfl) rfl ?_
  show sx_V y_M_init (1, 28, 3593) L xs (0, 0) 0 [some (sx_p 51), none] [] (gh 51 M [(1, 6, 50), (1, 5, 48), (48, 1, 22), (48, 0, 2), (48, 2, 49), (1, 4, 47), (1, 3, 25), (32, 11, 46), (32, 10, 45), (32, 9, 44), (32, 8, 43), (32, 7, 42), (32, 6, 41), (32, 5, 40), (32, 4, 39), (32, 3, 38), (32, 2, 37), (32, 1, 36), (32, 0, 35), (25, 2, 22), (25, 1, 20), (25, 0, 2), (25, 7, 34), (25, 6, 33), (25, 5, 32), (25, 4, 29), (29, 1, 31), (29, 0, 30), (25, 3, 26), (26, 1, 28), (26, 0, 27), (1, 2, 22), (22, 1, 24), (22, 0, 23), (1, 1, 20), (20, 1, 3), (20, 0, 2), (20, 2, 21), (1, 0, 2), (8, 5, 19), (8, 4, 18), (8, 3, 17), (8, 2, 16), (8, 1, 15), (8, 0, 14), (2, 7, 13), (2, 6, 12), (2, 5, 11), (2, 4, 10), (2, 3, 9), (2, 2, 8), (2, 1, 7), (2, 0, 3), (3, 2, 6), (3, 1, 5), (3, 0, 4)]) _
  refine sx_aload_n d_M_init_0 rfl ?_
  refine sx_oinit d_M_init_1 tw_693 tw_18 tw_19 (by decide) (Nat.le_of_ble_eq_true rfl) ?_
  refine sx_aload_n d_M_init_4 rfl ?_
  refine sx_iconst d_M_init_5 ?_
  refine gh_newa (t := 0) (m := 4) (cs2 := (1, 4)) (n2 := 52) d_M_init_6 (Or.inl ⟨rfl, rfl⟩) tw_51 rfl (by decide) ⟨by decide, by decide⟩ rfl (hz.zb 51 rfl) rfl rfl rfl ?_
  refine gh_putR d_M_init_8 fl_M_7 (gho rfl rfl rfl) rfl (by decide) (by decide) (fun q hq => Or.inr ⟨(nf_M_1 q hq).1, rfl, (nf_M_1 q hq).2⟩) (Or.inr ⟨_, rfl⟩) ?_
  refine sx_aload_n d_M_init_11 rfl ?_
  refine sx_bipush d_M_init_12 (by decide) ?_
  refine gh_newa (t := 0) (m := 6) (cs2 := (2, 10)) (n2 := 53) d_M_init_14 (Or.inl ⟨rfl, rfl⟩) tw_51 rfl (by decide) ⟨by decide, by decide⟩ rfl (hz.zb 52 rfl) rfl rfl rfl ?_
  refine gh_putR d_M_init_16 fl_M_13 (gho rfl rfl rfl) rfl (by decide) (by decide) (fun q hq => Or.inr ⟨(nf_M_3 q hq).1, rfl, (nf_M_3 q hq).2⟩) (Or.inr ⟨_, rfl⟩) ?_
  refine sx_aload_n d_M_init_19 rfl ?_
  refine sx_bipush d_M_init_20 (by decide) ?_
  refine gh_newa (t := 0) (m := 6) (cs2 := (3, 16)) (n2 := 54) d_M_init_22 (Or.inl ⟨rfl, rfl⟩) tw_51 rfl (by decide) ⟨by decide, by decide⟩ rfl (hz.zb 53 rfl) rfl rfl rfl ?_
  refine gh_putR d_M_init_24 fl_M_16 (gho rfl rfl rfl) rfl (by decide) (by decide) (fun q hq => Or.inr ⟨(nf_M_4 q hq).1, rfl, (nf_M_4 q hq).2⟩) (Or.inr ⟨_, rfl⟩) ?_
  refine sx_aload_n d_M_init_27 rfl ?_
  refine sx_bipush d_M_init_28 (by decide) ?_
  refine gh_newa (t := 0) (m := 6) (cs2 := (4, 22)) (n2 := 55) d_M_init_30 (Or.inl ⟨rfl, rfl⟩) tw_51 rfl (by decide) ⟨by decide, by decide⟩ rfl (hz.zb 54 rfl) rfl rfl rfl ?_
  refine gh_putR d_M_init_32 fl_M_19 (gho rfl rfl rfl) rfl (by decide) (by decide) (fun q hq => Or.inr ⟨(nf_M_5 q hq).1, rfl, (nf_M_5 q hq).2⟩) (Or.inr ⟨_, rfl⟩) ?_
  refine sx_aload_n d_M_init_35 rfl ?_
  refine sx_bipush d_M_init_36 (by decide) ?_
  refine gh_newa (t := 0) (m := 6) (cs2 := (5, 28)) (n2 := 56) d_M_init_38 (Or.inl ⟨rfl, rfl⟩) tw_51 rfl (by decide) ⟨by decide, by decide⟩ rfl (hz.zb 55 rfl) rfl rfl rfl ?_
  refine gh_putR d_M_init_40 fl_M_22 (gho rfl rfl rfl) rfl (by decide) (by decide) (fun q hq => Or.inr ⟨(nf_M_6 q hq).1, rfl, (nf_M_6 q hq).2⟩) (Or.inr ⟨_, rfl⟩) ?_
  refine sx_aload_n d_M_init_43 rfl ?_
  refine sx_bipush d_M_init_44 (by decide) ?_
  refine gh_newa (t := 1) (m := 6) (cs2 := (6, 34)) (n2 := 57) d_M_init_46 (Or.inr ⟨rfl, rfl⟩) tw_50 rfl (by decide) ⟨by decide, by decide⟩ rfl (hz.zb 56 rfl) rfl rfl rfl ?_
  refine gh_putR d_M_init_48 fl_M_25 (gho rfl rfl rfl) rfl (by decide) (by decide) (fun q hq => Or.inr ⟨(nf_M_7 q hq).1, rfl, (nf_M_7 q hq).2⟩) (Or.inr ⟨_, rfl⟩) ?_
  refine sx_aload_n d_M_init_51 rfl ?_
  refine sx_bipush d_M_init_52 (by decide) ?_
  refine gh_newa (t := 0) (m := 36) (cs2 := (7, 70)) (n2 := 58) d_M_init_54 (Or.inl ⟨rfl, rfl⟩) tw_51 rfl (by decide) ⟨by decide, by decide⟩ rfl (hz.zb 57 rfl) rfl rfl rfl ?_
  refine gh_putR d_M_init_56 fl_M_29 (gho rfl rfl rfl) rfl (by decide) (by decide) (fun q hq => Or.inr ⟨(nf_M_8 q hq).1, rfl, (nf_M_8 q hq).2⟩) (Or.inr ⟨_, rfl⟩) ?_
  refine sx_aload_n d_M_init_59 rfl ?_
  refine sx_bipush d_M_init_60 (by decide) ?_
  refine gh_newa (t := 0) (m := 6) (cs2 := (8, 76)) (n2 := 59) d_M_init_62 (Or.inl ⟨rfl, rfl⟩) tw_51 rfl (by decide) ⟨by decide, by decide⟩ rfl (hz.zb 58 rfl) rfl rfl rfl ?_
  refine gh_putR d_M_init_64 fl_M_32 (gho rfl rfl rfl) rfl (by decide) (by decide) (fun q hq => Or.inr ⟨(nf_M_9 q hq).1, rfl, (nf_M_9 q hq).2⟩) (Or.inr ⟨_, rfl⟩) ?_
  refine sx_aload_n d_M_init_67 rfl ?_
  refine sx_bipush d_M_init_68 (by decide) ?_
  refine gh_newa (t := 0) (m := 6) (cs2 := (9, 82)) (n2 := 60) d_M_init_70 (Or.inl ⟨rfl, rfl⟩) tw_51 rfl (by decide) ⟨by decide, by decide⟩ rfl (hz.zb 59 rfl) rfl rfl rfl ?_
  refine gh_putR d_M_init_72 fl_M_35 (gho rfl rfl rfl) rfl (by decide) (by decide) (fun q hq => Or.inr ⟨(nf_M_10 q hq).1, rfl, (nf_M_10 q hq).2⟩) (Or.inr ⟨_, rfl⟩) ?_
  refine sx_aload_n d_M_init_75 rfl ?_
  refine sx_bipush d_M_init_76 (by decide) ?_
  refine gh_newa (t := 0) (m := 8) (cs2 := (10, 90)) (n2 := 61) d_M_init_78 (Or.inl ⟨rfl, rfl⟩) tw_51 rfl (by decide) ⟨by decide, by decide⟩ rfl (hz.zb 60 rfl) rfl rfl rfl ?_
  refine gh_putR d_M_init_80 fl_M_38 (gho rfl rfl rfl) rfl (by decide) (by decide) (fun q hq => Or.inr ⟨(nf_M_12 q hq).1, rfl, (nf_M_12 q hq).2⟩) (Or.inr ⟨_, rfl⟩) ?_
  refine sx_aload_n d_M_init_83 rfl ?_
  refine sx_bipush d_M_init_84 (by decide) ?_
  refine gh_newa (t := 0) (m := 8) (cs2 := (11, 98)) (n2 := 62) d_M_init_86 (Or.inl ⟨rfl, rfl⟩) tw_51 rfl (by decide) ⟨by decide, by decide⟩ rfl (hz.zb 61 rfl) rfl rfl rfl ?_
  refine gh_putR d_M_init_88 fl_M_41 (gho rfl rfl rfl) rfl (by decide) (by decide) (fun q hq => Or.inr ⟨(nf_M_13 q hq).1, rfl, (nf_M_13 q hq).2⟩) (Or.inr ⟨_, rfl⟩) ?_
  refine sx_aload_n d_M_init_91 rfl ?_
  refine sx_bipush d_M_init_92 (by decide) ?_
  refine gh_newa (t := 0) (m := 8) (cs2 := (12, 106)) (n2 := 63) d_M_init_94 (Or.inl ⟨rfl, rfl⟩) tw_51 rfl (by decide) ⟨by decide, by decide⟩ rfl (hz.zb 62 rfl) rfl rfl rfl ?_
  refine gh_putR d_M_init_96 fl_M_44 (gho rfl rfl rfl) rfl (by decide) (by decide) (fun q hq => Or.inr ⟨(nf_M_14 q hq).1, rfl, (nf_M_14 q hq).2⟩) (Or.inr ⟨_, rfl⟩) ?_
  refine sx_aload_n d_M_init_99 rfl ?_
  refine sx_sipush d_M_init_100 (by decide) ?_
  refine gh_newa (t := 1) (m := 200) (cs2 := (13, 306)) (n2 := 64) d_M_init_103 (Or.inr ⟨rfl, rfl⟩) tw_50 rfl (by decide) ⟨by decide, by decide⟩ rfl (hz.zb 63 rfl) rfl rfl rfl ?_
  refine gh_putR d_M_init_105 fl_M_47 (gho rfl rfl rfl) rfl (by decide) (by decide) (fun q hq => Or.inr ⟨(nf_M_16 q hq).1, rfl, (nf_M_16 q hq).2⟩) (Or.inr ⟨_, rfl⟩) ?_
  refine sx_aload_n d_M_init_108 rfl ?_
  refine sx_sipush d_M_init_109 (by decide) ?_
  refine gh_newa (t := 1) (m := 400) (cs2 := (14, 706)) (n2 := 65) d_M_init_112 (Or.inr ⟨rfl, rfl⟩) tw_50 rfl (by decide) ⟨by decide, by decide⟩ rfl (hz.zb 64 rfl) rfl rfl rfl ?_
  refine gh_putR d_M_init_114 fl_M_50 (gho rfl rfl rfl) rfl (by decide) (by decide) (fun q hq => Or.inr ⟨(nf_M_17 q hq).1, rfl, (nf_M_17 q hq).2⟩) (Or.inr ⟨_, rfl⟩) ?_
  refine sx_aload_n d_M_init_117 rfl ?_
  refine sx_iconst d_M_init_118 ?_
  refine gh_newa (t := 0) (m := 4) (cs2 := (15, 710)) (n2 := 66) d_M_init_119 (Or.inl ⟨rfl, rfl⟩) tw_51 rfl (by decide) ⟨by decide, by decide⟩ rfl (hz.zb 65 rfl) rfl rfl rfl ?_
  refine gh_putR d_M_init_121 fl_M_53 (gho rfl rfl rfl) rfl (by decide) (by decide) (fun q hq => Or.inr ⟨(nf_M_18 q hq).1, rfl, (nf_M_18 q hq).2⟩) (Or.inr ⟨_, rfl⟩) ?_
  refine sx_aload_n d_M_init_124 rfl ?_
  refine sx_bipush d_M_init_125 (by decide) ?_
  refine gh_newa (t := 0) (m := 6) (cs2 := (16, 716)) (n2 := 67) d_M_init_127 (Or.inl ⟨rfl, rfl⟩) tw_51 rfl (by decide) ⟨by decide, by decide⟩ rfl (hz.zb 66 rfl) rfl rfl rfl ?_
  refine gh_putR d_M_init_129 fl_M_56 (gho rfl rfl rfl) rfl (by decide) (by decide) (fun q hq => Or.inr ⟨(nf_M_20 q hq).1, rfl, (nf_M_20 q hq).2⟩) (Or.inr ⟨_, rfl⟩) ?_
  refine sx_aload_n d_M_init_132 rfl ?_
  refine sx_bipush d_M_init_133 (by decide) ?_
  refine gh_newa (t := 0) (m := 6) (cs2 := (17, 722)) (n2 := 68) d_M_init_135 (Or.inl ⟨rfl, rfl⟩) tw_51 rfl (by decide) ⟨by decide, by decide⟩ rfl (hz.zb 67 rfl) rfl rfl rfl ?_
  refine gh_putR d_M_init_137 fl_M_59 (gho rfl rfl rfl) rfl (by decide) (by decide) (fun q hq => Or.inr ⟨(nf_M_21 q hq).1, rfl, (nf_M_21 q hq).2⟩) (Or.inr ⟨_, rfl⟩) ?_
  refine sx_aload_n d_M_init_140 rfl ?_
  refine sx_bipush d_M_init_141 (by decide) ?_
  refine gh_newa (t := 1) (m := 6) (cs2 := (18, 728)) (n2 := 69) d_M_init_143 (Or.inr ⟨rfl, rfl⟩) tw_50 rfl (by decide) ⟨by decide, by decide⟩ rfl (hz.zb 68 rfl) rfl rfl rfl ?_
  refine gh_putR d_M_init_145 fl_M_62 (gho rfl rfl rfl) rfl (by decide) (by decide) (fun q hq => Or.inr ⟨(nf_M_22 q hq).1, rfl, (nf_M_22 q hq).2⟩) (Or.inr ⟨_, rfl⟩) ?_
  refine sx_aload_n d_M_init_148 rfl ?_
  refine sx_bipush d_M_init_149 (by decide) ?_
  refine gh_newa (t := 0) (m := 6) (cs2 := (19, 734)) (n2 := 70) d_M_init_151 (Or.inl ⟨rfl, rfl⟩) tw_51 rfl (by decide) ⟨by decide, by decide⟩ rfl (hz.zb 69 rfl) rfl rfl rfl ?_
  refine gh_putR d_M_init_153 fl_M_65 (gho rfl rfl rfl) rfl (by decide) (by decide) (fun q hq => Or.inr ⟨(nf_M_23 q hq).1, rfl, (nf_M_23 q hq).2⟩) (Or.inr ⟨_, rfl⟩) ?_
  refine sx_aload_n d_M_init_156 rfl ?_
  refine sx_bipush d_M_init_157 (by decide) ?_
  refine gh_newa (t := 1) (m := 6) (cs2 := (20, 740)) (n2 := 71) d_M_init_159 (Or.inr ⟨rfl, rfl⟩) tw_50 rfl (by decide) ⟨by decide, by decide⟩ rfl (hz.zb 70 rfl) rfl rfl rfl ?_
  refine gh_putR d_M_init_161 fl_M_68 (gho rfl rfl rfl) rfl (by decide) (by decide) (fun q hq => Or.inr ⟨(nf_M_24 q hq).1, rfl, (nf_M_24 q hq).2⟩) (Or.inr ⟨_, rfl⟩) ?_
  refine sx_aload_n d_M_init_164 rfl ?_
  refine sx_bipush d_M_init_165 (by decide) ?_
  refine gh_newa (t := 0) (m := 7) (cs2 := (21, 747)) (n2 := 72) d_M_init_167 (Or.inl ⟨rfl, rfl⟩) tw_51 rfl (by decide) ⟨by decide, by decide⟩ rfl (hz.zb 71 rfl) rfl rfl rfl ?_
  refine gh_putR d_M_init_169 fl_M_71 (gho rfl rfl rfl) rfl (by decide) (by decide) (fun q hq => Or.inr ⟨(nf_M_27 q hq).1, rfl, (nf_M_27 q hq).2⟩) (Or.inr ⟨_, rfl⟩) ?_
  refine sx_aload_n d_M_init_172 rfl ?_
  refine sx_bipush d_M_init_173 (by decide) ?_
  refine gh_newa (t := 0) (m := 7) (cs2 := (22, 754)) (n2 := 73) d_M_init_175 (Or.inl ⟨rfl, rfl⟩) tw_51 rfl (by decide) ⟨by decide, by decide⟩ rfl (hz.zb 72 rfl) rfl rfl rfl ?_
  refine gh_putR d_M_init_177 fl_M_74 (gho rfl rfl rfl) rfl (by decide) (by decide) (fun q hq => Or.inr ⟨(nf_M_28 q hq).1, rfl, (nf_M_28 q hq).2⟩) (Or.inr ⟨_, rfl⟩) ?_
  refine sx_aload_n d_M_init_180 rfl ?_
  refine sx_bipush d_M_init_181 (by decide) ?_
  refine gh_newa (t := 0) (m := 7) (cs2 := (23, 761)) (n2 := 74) d_M_init_183 (Or.inl ⟨rfl, rfl⟩) tw_51 rfl (by decide) ⟨by decide, by decide⟩ rfl (hz.zb 73 rfl) rfl rfl rfl ?_
  refine gh_putR d_M_init_185 fl_M_77 (gho rfl rfl rfl) rfl (by decide) (by decide) (fun q hq => Or.inr ⟨(nf_M_29 q hq).1, rfl, (nf_M_29 q hq).2⟩) (Or.inr ⟨_, rfl⟩) ?_
  refine sx_aload_n d_M_init_188 rfl ?_
  refine sx_sipush d_M_init_189 (by decide) ?_
  refine gh_newa (t := 0) (m := 1407) (cs2 := (24, 2168)) (n2 := 75) d_M_init_192 (Or.inl ⟨rfl, rfl⟩) tw_51 rfl (by decide) ⟨by decide, by decide⟩ rfl (hz.zb 74 rfl) rfl rfl rfl ?_
  refine gh_putR d_M_init_194 fl_M_80 (gho rfl rfl rfl) rfl (by decide) (by decide) (fun q hq => Or.inr ⟨(nf_M_30 q hq).1, rfl, (nf_M_30 q hq).2⟩) (Or.inr ⟨_, rfl⟩) ?_
  refine sx_aload_n d_M_init_197 rfl ?_
  refine sx_sipush d_M_init_198 (by decide) ?_
  refine gh_newa (t := 0) (m := 1407) (cs2 := (25, 3575)) (n2 := 76) d_M_init_201 (Or.inl ⟨rfl, rfl⟩) tw_51 rfl (by decide) ⟨by decide, by decide⟩ rfl (hz.zb 75 rfl) rfl rfl rfl ?_
  refine gh_putR d_M_init_203 fl_M_83 (gho rfl rfl rfl) rfl (by decide) (by decide) (fun q hq => Or.inr ⟨(nf_M_31 q hq).1, rfl, (nf_M_31 q hq).2⟩) (Or.inr ⟨_, rfl⟩) ?_
  refine sx_aload_n d_M_init_206 rfl ?_
  refine sx_bipush d_M_init_207 (by decide) ?_
  refine gh_newa (t := 0) (m := 6) (cs2 := (26, 3581)) (n2 := 77) d_M_init_209 (Or.inl ⟨rfl, rfl⟩) tw_51 rfl (by decide) ⟨by decide, by decide⟩ rfl (hz.zb 76 rfl) rfl rfl rfl ?_
  refine gh_putR d_M_init_211 fl_M_86 (gho rfl rfl rfl) rfl (by decide) (by decide) (fun q hq => Or.inr ⟨(nf_M_32 q hq).1, rfl, (nf_M_32 q hq).2⟩) (Or.inr ⟨_, rfl⟩) ?_
  refine sx_aload_n d_M_init_214 rfl ?_
  refine sx_bipush d_M_init_215 (by decide) ?_
  refine gh_newa (t := 0) (m := 6) (cs2 := (27, 3587)) (n2 := 78) d_M_init_217 (Or.inl ⟨rfl, rfl⟩) tw_51 rfl (by decide) ⟨by decide, by decide⟩ rfl (hz.zb 77 rfl) rfl rfl rfl ?_
  refine gh_putR d_M_init_219 fl_M_89 (gho rfl rfl rfl) rfl (by decide) (by decide) (fun q hq => Or.inr ⟨(nf_M_36 q hq).1, rfl, (nf_M_36 q hq).2⟩) (Or.inr ⟨_, rfl⟩) ?_
  refine sx_aload_n d_M_init_222 rfl ?_
  refine sx_bipush d_M_init_223 (by decide) ?_
  refine gh_newa (t := 0) (m := 6) (cs2 := (28, 3593)) (n2 := 79) d_M_init_225 (Or.inl ⟨rfl, rfl⟩) tw_51 rfl (by decide) ⟨by decide, by decide⟩ rfl (hz.zb 78 rfl) rfl rfl rfl ?_
  refine gh_putR d_M_init_227 fl_M_92 (gho rfl rfl rfl) rfl (by decide) (by decide) (fun q hq => Or.inr ⟨(nf_M_37 q hq).1, rfl, (nf_M_37 q hq).2⟩) (Or.inr ⟨_, rfl⟩) ?_
  refine sx_iconst d_M_init_230 ?_
  refine sx_istore_n (l' := [some (sx_p 51), some (.inl 0)]) d_M_init_231 (by decide) rfl rfl ?_
  refine sx_iload_n d_M_init_232 rfl ?_
  refine sx_iconst d_M_init_233 ?_
  refine sx_icmp_ge (tgt := 250) d_M_init_234 (by decide) ⟨by decide, by decide⟩ ⟨by decide, by decide⟩ (fun c234_118 => absurd c234_118 (by decide)) (fun _ => ?_)
  refine sx_aload_n d_M_init_237 rfl ?_
  refine sx_getR (r := some (66)) d_M_init_238 fl_M_53 (gho rfl rfl rfl) rfl (by decide) (by decide) rfl ?_
  refine sx_iload_n d_M_init_241 rfl ?_
  refine sx_iconst d_M_init_242 ?_
  refine sx_iast (h2 := gh 79 (sx_u M 66 0 4) [(51, 37, 79), (51, 36, 78), (51, 32, 77), (51, 31, 76), (51, 30, 75), (51, 29, 74), (51, 28, 73), (51, 27, 72), (51, 24, 71), (51, 23, 70), (51, 22, 69), (51, 21, 68), (51, 20, 67), (51, 18, 66), (51, 17, 65), (51, 16, 64), (51, 14, 63), (51, 13, 62), (51, 12, 61), (51, 10, 60), (51, 9, 59), (51, 8, 58), (51, 7, 57), (51, 6, 56), (51, 5, 55), (51, 4, 54), (51, 3, 53), (51, 1, 52), (1, 6, 50), (1, 5, 48), (48, 1, 22), (48, 0, 2), (48, 2, 49), (1, 4, 47), (1, 3, 25), (32, 11, 46), (32, 10, 45), (32, 9, 44), (32, 8, 43), (32, 7, 42), (32, 6, 41), (32, 5, 40), (32, 4, 39), (32, 3, 38), (32, 2, 37), (32, 1, 36), (32, 0, 35), (25, 2, 22), (25, 1, 20), (25, 0, 2), (25, 7, 34), (25, 6, 33), (25, 5, 32), (25, 4, 29), (29, 1, 31), (29, 0, 30), (25, 3, 26), (26, 1, 28), (26, 0, 27), (1, 2, 22), (22, 1, 24), (22, 0, 23), (1, 1, 20), (20, 1, 3), (20, 0, 2), (20, 2, 21), (1, 0, 2), (8, 5, 19), (8, 4, 18), (8, 3, 17), (8, 2, 16), (8, 1, 15), (8, 0, 14), (2, 7, 13), (2, 6, 12), (2, 5, 11), (2, 4, 10), (2, 3, 9), (2, 2, 8), (2, 1, 7), (2, 0, 3), (3, 2, 6), (3, 1, 5), (3, 0, 4)]) d_M_init_243 (gho rfl rfl rfl) (by omega) (by omega) (by decide) rfl ?_
  refine sx_iinc (l' := [some (sx_p 51), some (.inl 1)]) d_M_init_244 rfl (by decide) rfl rfl ?_
  refine sx_goto (tgt := 232) d_M_init_247 (by decide) ?_
  refine sx_iload_n d_M_init_232 rfl ?_
  refine sx_iconst d_M_init_233 ?_
  refine sx_icmp_ge (tgt := 250) d_M_init_234 (by decide) ⟨by decide, by decide⟩ ⟨by decide, by decide⟩ (fun c234_128 => absurd c234_128 (by decide)) (fun _ => ?_)
  refine sx_aload_n d_M_init_237 rfl ?_
  refine sx_getR (r := some (66)) d_M_init_238 fl_M_53 (gho rfl rfl rfl) rfl (by decide) (by decide) rfl ?_
  refine sx_iload_n d_M_init_241 rfl ?_
  refine sx_iconst d_M_init_242 ?_
  refine sx_iast (h2 := gh 79 (sx_u (sx_u M 66 0 4) 66 1 4) [(51, 37, 79), (51, 36, 78), (51, 32, 77), (51, 31, 76), (51, 30, 75), (51, 29, 74), (51, 28, 73), (51, 27, 72), (51, 24, 71), (51, 23, 70), (51, 22, 69), (51, 21, 68), (51, 20, 67), (51, 18, 66), (51, 17, 65), (51, 16, 64), (51, 14, 63), (51, 13, 62), (51, 12, 61), (51, 10, 60), (51, 9, 59), (51, 8, 58), (51, 7, 57), (51, 6, 56), (51, 5, 55), (51, 4, 54), (51, 3, 53), (51, 1, 52), (1, 6, 50), (1, 5, 48), (48, 1, 22), (48, 0, 2), (48, 2, 49), (1, 4, 47), (1, 3, 25), (32, 11, 46), (32, 10, 45), (32, 9, 44), (32, 8, 43), (32, 7, 42), (32, 6, 41), (32, 5, 40), (32, 4, 39), (32, 3, 38), (32, 2, 37), (32, 1, 36), (32, 0, 35), (25, 2, 22), (25, 1, 20), (25, 0, 2), (25, 7, 34), (25, 6, 33), (25, 5, 32), (25, 4, 29), (29, 1, 31), (29, 0, 30), (25, 3, 26), (26, 1, 28), (26, 0, 27), (1, 2, 22), (22, 1, 24), (22, 0, 23), (1, 1, 20), (20, 1, 3), (20, 0, 2), (20, 2, 21), (1, 0, 2), (8, 5, 19), (8, 4, 18), (8, 3, 17), (8, 2, 16), (8, 1, 15), (8, 0, 14), (2, 7, 13), (2, 6, 12), (2, 5, 11), (2, 4, 10), (2, 3, 9), (2, 2, 8), (2, 1, 7), (2, 0, 3), (3, 2, 6), (3, 1, 5), (3, 0, 4)]) d_M_init_243 (gho rfl rfl rfl) (by omega) (by omega) (by decide) rfl ?_
  refine sx_iinc (l' := [some (sx_p 51), some (.inl 2)]) d_M_init_244 rfl (by decide) rfl rfl ?_
  refine sx_goto (tgt := 232) d_M_init_247 (by decide) ?_
  refine sx_iload_n d_M_init_232 rfl ?_
  refine sx_iconst d_M_init_233 ?_
  refine sx_icmp_ge (tgt := 250) d_M_init_234 (by decide) ⟨by decide, by decide⟩ ⟨by decide, by decide⟩ (fun c234_138 => absurd c234_138 (by decide)) (fun _ => ?_)
  refine sx_aload_n d_M_init_237 rfl ?_
  refine sx_getR (r := some (66)) d_M_init_238 fl_M_53 (gho rfl rfl rfl) rfl (by decide) (by decide) rfl ?_
  refine sx_iload_n d_M_init_241 rfl ?_
  refine sx_iconst d_M_init_242 ?_
  refine sx_iast (h2 := gh 79 (sx_u (sx_u (sx_u M 66 0 4) 66 1 4) 66 2 4) [(51, 37, 79), (51, 36, 78), (51, 32, 77), (51, 31, 76), (51, 30, 75), (51, 29, 74), (51, 28, 73), (51, 27, 72), (51, 24, 71), (51, 23, 70), (51, 22, 69), (51, 21, 68), (51, 20, 67), (51, 18, 66), (51, 17, 65), (51, 16, 64), (51, 14, 63), (51, 13, 62), (51, 12, 61), (51, 10, 60), (51, 9, 59), (51, 8, 58), (51, 7, 57), (51, 6, 56), (51, 5, 55), (51, 4, 54), (51, 3, 53), (51, 1, 52), (1, 6, 50), (1, 5, 48), (48, 1, 22), (48, 0, 2), (48, 2, 49), (1, 4, 47), (1, 3, 25), (32, 11, 46), (32, 10, 45), (32, 9, 44), (32, 8, 43), (32, 7, 42), (32, 6, 41), (32, 5, 40), (32, 4, 39), (32, 3, 38), (32, 2, 37), (32, 1, 36), (32, 0, 35), (25, 2, 22), (25, 1, 20), (25, 0, 2), (25, 7, 34), (25, 6, 33), (25, 5, 32), (25, 4, 29), (29, 1, 31), (29, 0, 30), (25, 3, 26), (26, 1, 28), (26, 0, 27), (1, 2, 22), (22, 1, 24), (22, 0, 23), (1, 1, 20), (20, 1, 3), (20, 0, 2), (20, 2, 21), (1, 0, 2), (8, 5, 19), (8, 4, 18), (8, 3, 17), (8, 2, 16), (8, 1, 15), (8, 0, 14), (2, 7, 13), (2, 6, 12), (2, 5, 11), (2, 4, 10), (2, 3, 9), (2, 2, 8), (2, 1, 7), (2, 0, 3), (3, 2, 6), (3, 1, 5), (3, 0, 4)]) d_M_init_243 (gho rfl rfl rfl) (by omega) (by omega) (by decide) rfl ?_
  refine sx_iinc (l' := [some (sx_p 51), some (.inl 3)]) d_M_init_244 rfl (by decide) rfl rfl ?_
  refine sx_goto (tgt := 232) d_M_init_247 (by decide) ?_
  refine sx_iload_n d_M_init_232 rfl ?_
  refine sx_iconst d_M_init_233 ?_
  refine sx_icmp_ge (tgt := 250) d_M_init_234 (by decide) ⟨by decide, by decide⟩ ⟨by decide, by decide⟩ (fun c234_148 => absurd c234_148 (by decide)) (fun _ => ?_)
  refine sx_aload_n d_M_init_237 rfl ?_
  refine sx_getR (r := some (66)) d_M_init_238 fl_M_53 (gho rfl rfl rfl) rfl (by decide) (by decide) rfl ?_
  refine sx_iload_n d_M_init_241 rfl ?_
  refine sx_iconst d_M_init_242 ?_
  refine sx_iast (h2 := gh 79 (sx_u (sx_u (sx_u (sx_u M 66 0 4) 66 1 4) 66 2 4) 66 3 4) [(51, 37, 79), (51, 36, 78), (51, 32, 77), (51, 31, 76), (51, 30, 75), (51, 29, 74), (51, 28, 73), (51, 27, 72), (51, 24, 71), (51, 23, 70), (51, 22, 69), (51, 21, 68), (51, 20, 67), (51, 18, 66), (51, 17, 65), (51, 16, 64), (51, 14, 63), (51, 13, 62), (51, 12, 61), (51, 10, 60), (51, 9, 59), (51, 8, 58), (51, 7, 57), (51, 6, 56), (51, 5, 55), (51, 4, 54), (51, 3, 53), (51, 1, 52), (1, 6, 50), (1, 5, 48), (48, 1, 22), (48, 0, 2), (48, 2, 49), (1, 4, 47), (1, 3, 25), (32, 11, 46), (32, 10, 45), (32, 9, 44), (32, 8, 43), (32, 7, 42), (32, 6, 41), (32, 5, 40), (32, 4, 39), (32, 3, 38), (32, 2, 37), (32, 1, 36), (32, 0, 35), (25, 2, 22), (25, 1, 20), (25, 0, 2), (25, 7, 34), (25, 6, 33), (25, 5, 32), (25, 4, 29), (29, 1, 31), (29, 0, 30), (25, 3, 26), (26, 1, 28), (26, 0, 27), (1, 2, 22), (22, 1, 24), (22, 0, 23), (1, 1, 20), (20, 1, 3), (20, 0, 2), (20, 2, 21), (1, 0, 2), (8, 5, 19), (8, 4, 18), (8, 3, 17), (8, 2, 16), (8, 1, 15), (8, 0, 14), (2, 7, 13), (2, 6, 12), (2, 5, 11), (2, 4, 10), (2, 3, 9), (2, 2, 8), (2, 1, 7), (2, 0, 3), (3, 2, 6), (3, 1, 5), (3, 0, 4)]) d_M_init_243 (gho rfl rfl rfl) (by omega) (by omega) (by decide) rfl ?_
  refine sx_iinc (l' := [some (sx_p 51), some (.inl 4)]) d_M_init_244 rfl (by decide) rfl rfl ?_
  refine sx_goto (tgt := 232) d_M_init_247 (by decide) ?_
  refine sx_iload_n d_M_init_232 rfl ?_
  refine sx_iconst d_M_init_233 ?_
  refine sx_icmp_ge (tgt := 250) d_M_init_234 (by decide) ⟨by decide, by decide⟩ ⟨by decide, by decide⟩ (fun _ => ?_) (fun c234_158 => absurd c234_158 (by decide))
  refine sx_retV d_M_init_250 rfl ⟨by decide, by decide⟩ ?_
  exact ⟨rfl, rfl⟩
theorem rl_in : ∀ a, a < 80 → ∀ k, k < 40 → asgR rl_M a k = (g_rfl.getD a []).getD k none := by decide +kernel
theorem asg_hi {rl : List (Nat × Nat × Nat)} {n m : Nat} (h : rl.all (fun e => Nat.ble e.1 n && Nat.ble e.2.1 m) = true) {a k : Nat} (hq : n < a ∨ m < k) : asgR rl a k = none := by
  induction rl with
  | nil => rfl
  | cons e t ih =>
    simp only [List.all_cons, Bool.and_eq_true] at h
    have h1 := Nat.le_of_ble_eq_true h.1.1
    have h2 := Nat.le_of_ble_eq_true h.1.2
    show sx_ur (asgR t) e.1 e.2.1 (some e.2.2) a k = none
    unfold sx_ur
    rw [if_neg (by omega)]
    exact ih h.2
theorem rl_eq : asgR rl_M = (fun a k => (g_rfl.getD a []).getD k none) := by
  funext a k
  by_cases q : a < 80
  · by_cases q2 : k < 40
    · exact rl_in a q k q2
    · rw [asg_hi (n := 79) (m := 39) rfl (Or.inr (by omega))]
      have hl : ∀ a, a < 80 → (g_rfl.getD a []).length ≤ 40 := by decide +kernel
      have := hl a q
      rw [List.getD_eq_getElem?_getD, List.getElem?_eq_none (by omega)]
      rfl
  · rw [asg_hi (n := 79) (m := 39) rfl (Or.inl (by omega))]
    have hl : g_rfl.length = 80 := by decide +kernel
    rw [List.getD_eq_getElem?_getD (l := g_rfl), List.getElem?_eq_none (by omega)]
    rfl
theorem gh_gm (M : Nat → Nat → Int) : gh 79 M rl_M = gm M := by
  unfold gh gm
  rw [rl_eq]
theorem MR0 {M : Nat → Nat → Int} (h : LZ M) : MRE (sx_u (sx_u (sx_u (sx_u M 66 0 4) 66 1 4) 66 2 4) 66 3 4) := by
  obtain ⟨h1, h2, h3, h4, h5, h6⟩ := h
  have e0 : ∀ a k, a ≠ 66 → (sx_u (sx_u (sx_u (sx_u M 66 0 4) 66 1 4) 66 2 4) 66 3 4) a k = M a k := fun a k q => by rw [sx_un (by omega), sx_un (by omega), sx_un (by omega), sx_un (by omega)]
  have z : ∀ a k, a ≠ 66 → a ≠ 5 → a ≠ 6 → a ≠ 9 → a ≠ 10 → ¬ (14 ≤ a ∧ a < 20 ∧ (k = 4 ∨ k = 8)) → (sx_u (sx_u (sx_u (sx_u M 66 0 4) 66 1 4) 66 2 4) 66 3 4) a k = 0 := fun a k q q1 q2 q3 q4 q5 => by rw [e0 a k q]; exact h6 a k q1 q2 q3 q4 q5
  have z17 : (sx_u (sx_u (sx_u (sx_u M 66 0 4) 66 1 4) 66 2 4) 66 3 4) 1 7 = 0 := z 1 7 (by omega) (by omega) (by omega) (by omega) (by omega) (by omega)
  have hdr : dr (sx_u (sx_u (sx_u (sx_u M 66 0 4) 66 1 4) 66 2 4) 66 3 4) = dr M := by
    funext d
    unfold dr
    rw [e0 4 d (by omega)]
  refine ⟨0, 0, 0, ?_⟩
  exact ⟨(by unfold IDy; rw [hdr]; simp (disch := omega) only [e0]; exact h1),
    ((((h2.u _ _ (by omega)).u _ _ (by omega)).u _ _ (by omega)).u _ _ (by omega)),
    (by simp (disch := omega) only [z]; rfl), by omega, (by simp (disch := omega) only [z]; rfl), by omega, (by simp (disch := omega) only [z]; rfl), by omega,
    (fun w hw => absurd hw (Nat.not_lt_zero _)), (fun j hj => by rw [e0 9 j (by omega), h3 j hj]; omega),
    (by simp (disch := omega) only [z]; rfl), (by simp (disch := omega) only [z]; rfl), (by simp (disch := omega) only [z]; rfl), (by simp (disch := omega) only [z]),
    (fun w hw => absurd hw (Nat.not_lt_zero _)), (fun w hw => absurd hw (Nat.not_lt_zero _)), (fun w hw => absurd hw (Nat.not_lt_zero _)), (fun w hw => absurd hw (Nat.not_lt_zero _)), (fun w hw => absurd hw (Nat.not_lt_zero _)), (fun w hw => absurd hw (Nat.not_lt_zero _)), (fun w _ hw => absurd hw (Nat.not_lt_zero _)), (fun w hw => absurd hw (Nat.not_lt_zero _)), (fun w hw => absurd hw (Nat.not_lt_zero _)), (fun w hw => absurd hw (Nat.not_lt_zero _)), (fun w hw => absurd hw (Nat.not_lt_zero _)), (fun w hw => absurd hw (Nat.not_lt_zero _)),
    (fun d hd => by rw [z 64 d (by omega) (by omega) (by omega) (by omega) (by omega) (by omega), z 4 d (by omega) (by omega) (by omega) (by omega) (by omega) (by omega)]),
    (fun k hk => by rw [e0 10 k (by omega), h4 k hk]; rcases (show k = 0 ∨ k = 1 ∨ k = 2 ∨ k = 3 by omega) with rfl | rfl | rfl | rfl <;> rfl),
    (fun w hw => absurd hw (Nat.not_lt_zero _)), (fun w hw => absurd hw (Nat.not_lt_zero _)), Or.inl z17, (by rw [z17]; simp (disch := omega) only [z]),
    (fun q => absurd z17 q), (fun q => absurd z17 q), (fun q => absurd z17 q), (fun q => absurd z17 q), (fun _ w hw => absurd hw (Nat.not_lt_zero _)), (fun q => absurd z17 q),
    ⟨(by simp (disch := omega) only [z]), Or.inl (by simp (disch := omega) only [z])⟩, (by simp (disch := omega) only [z]),
    (fun w _ hw => ⟨by simp (disch := omega) only [z], by rw [e0 _ _ (by omega)]; exact h5 w hw, by simp (disch := omega) only [z], by simp (disch := omega) only [z], by simp (disch := omega) only [z], by simp (disch := omega) only [z]⟩),
    (fun a b ha hb _ => by rw [e0 9 _ (by omega)]; exact h3 _ (by omega)), (fun a ha => by rw [e0 9 _ (by omega)]; exact h3 _ (by omega)),
    (fun k hk => by rw [e0 10 k (by omega), h4 k hk]; omega), (fun w hw => absurd hw (Nat.not_lt_zero _)), (fun q => absurd z17 q)⟩
