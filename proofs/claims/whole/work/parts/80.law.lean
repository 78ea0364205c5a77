set_option maxRecDepth 100000 in
set_option maxHeartbeats 4000000 in
theorem z_loop {L : Nat} {xs : Nat → Int32} (hL : L ≤ 3072) : ∀ (n i : Nat) (M : Nat → Nat → Int), L - i < n → i ≤ L → MRE M → sx_V y_Z_law (100, 1000, 100000) L xs (79, 4581) 18 [some (sx_p 0), some (sx_p 1), some (sx_p 51), some (.inl (i : Int))] [] (gm M) (fun v _ => v = some (.inl 1)) := by
  intro n
  induction n with
  | zero => intro i M h; omega
  | succ n ih =>
    intro i M hn hiL hE
    refine sx_iload_n d_Z_law_18 rfl ?_
    refine sx_aload_n d_Z_law_19 rfl ?_
    refine sx_slen d_Z_law_20 ?_
    refine sx_bipush d_Z_law_21 (by decide) ?_
    refine sx_isub d_Z_law_23 ?_
    refine sx_icmp_gt (tgt := 971) d_Z_law_24 (by decide) (by omega) (by omega) (fun hg => ?_) (fun hg => ?_)
    · refine sx_iconst d_Z_law_971 ?_
      exact sx_retI d_Z_law_972 (Or.inr ⟨rfl, Or.inr rfl⟩) ⟨Nat.le_of_ble_eq_true rfl, Nat.le_of_ble_eq_true rfl⟩ rfl
    · have hi : i + 6 ≤ L := by omega
      have hK : ∀ M, MRE M → sx_V y_Z_law (100, 1000, 100000) L xs (79, 4581) 965 [some (sx_p 0), some (sx_p 1), some (sx_p 51), some (.inl (i : Int))] [] (gm M) (fun v _ => v = some (.inl 1)) := by
        intro M2 hE2
        refine sx_iinc (l' := [some (sx_p 0), some (sx_p 1), some (sx_p 51), some (.inl ((i : Int) + 6))]) d_Z_law_965 rfl (by decide) rfl rfl ?_
        refine sx_goto (tgt := 18) d_Z_law_968 (by decide) ?_
        have e : ((i : Int) + 6) = ((i + 6 : Nat) : Int) := by omega
        rw [e]
        exact ih (i + 6) M2 (by omega) (by omega) hE2
      refine sx_aload_n d_Z_law_27 rfl ?_
      refine sx_iload_n d_Z_law_28 rfl ?_
      refine sx_sld d_Z_law_29 (by omega) (by omega) (by omega) ?_
      refine sx_bipush d_Z_law_30 (by decide) ?_
      refine sx_iand d_Z_law_32 ?_
      have vr := sx_i32 (Int32.ofInt (xs (Int.toNat (i : Int))).toInt &&& Int32.ofInt 31)
      generalize (Int32.ofInt (xs (Int.toNat (i : Int))).toInt &&& Int32.ofInt 31).toInt = v at vr ⊢
      rcases (show (v < 0 ∨ 24 < v) ∨ v = 0 ∨ v = 1 ∨ v = 2 ∨ v = 3 ∨ v = 4 ∨ v = 5 ∨ v = 6 ∨ v = 7 ∨ v = 8 ∨ v = 9 ∨ v = 10 ∨ v = 11 ∨ v = 12 ∨ v = 13 ∨ v = 14 ∨ v = 15 ∨ v = 16 ∨ v = 17 ∨ v = 18 ∨ v = 19 ∨ v = 20 ∨ v = 21 ∨ v = 22 ∨ v = 23 ∨ v = 24 by omega) with h | h | h | h | h | h | h | h | h | h | h | h | h | h | h | h | h | h | h | h | h | h | h | h | h | h
      · exact sx_tswOut (tgt := 965) d_Z_law_33 vr h (by decide) (hK M hE)
      · exact sx_tswIn (off := 115) (tgt := 148) d_Z_law_33 vr (by omega) (by omega) (by rw [h]; rfl) (by decide) (z_crew hL i hi hK M hE)
      · exact sx_tswIn (off := 138) (tgt := 171) d_Z_law_33 vr (by omega) (by omega) (by rw [h]; rfl) (by decide) (z_work hL i hi hK M hE)
      · exact sx_tswIn (off := 217) (tgt := 250) d_Z_law_33 vr (by omega) (by omega) (by rw [h]; rfl) (by decide) (z_after hL i hi hK M hE)
      · exact sx_tswIn (off := 260) (tgt := 293) d_Z_law_33 vr (by omega) (by omega) (by rw [h]; rfl) (by decide) (z_season hL i hi hK M hE)
      · exact sx_tswIn (off := 303) (tgt := 336) d_Z_law_33 vr (by omega) (by omega) (by rw [h]; rfl) (by decide) (z_bar hL i hi hK M hE)
      · exact sx_tswIn (off := 346) (tgt := 379) d_Z_law_33 vr (by omega) (by omega) (by rw [h]; rfl) (by decide) (z_rest hL i hi hK M hE)
      · exact sx_tswIn (off := 369) (tgt := 402) d_Z_law_33 vr (by omega) (by omega) (by rw [h]; rfl) (by decide) (z_most hL i hi hK M hE)
      · exact sx_tswIn (off := 402) (tgt := 435) d_Z_law_33 vr (by omega) (by omega) (by rw [h]; rfl) (by decide) (z_learned hL i hi hK M hE)
      · exact sx_tswIn (off := 445) (tgt := 478) d_Z_law_33 vr (by omega) (by omega) (by rw [h]; rfl) (by decide) (z_run hL i hi hK M hE)
      · exact sx_tswIn (off := 468) (tgt := 501) d_Z_law_33 vr (by omega) (by omega) (by rw [h]; rfl) (by decide) (z_proved hL i hi hK M hE)
      · exact sx_tswIn (off := 481) (tgt := 514) d_Z_law_33 vr (by omega) (by omega) (by rw [h]; rfl) (by decide) (z_tried hL i hi hK M hE)
      · exact sx_tswIn (off := 494) (tgt := 527) d_Z_law_33 vr (by omega) (by omega) (by rw [h]; rfl) (by decide) (z_told hL i hi hK M hE)
      · exact sx_tswIn (off := 527) (tgt := 560) d_Z_law_33 vr (by omega) (by omega) (by rw [h]; rfl) (by decide) (z_at hL i hi hK M hE)
      · exact sx_tswIn (off := 560) (tgt := 593) d_Z_law_33 vr (by omega) (by omega) (by rw [h]; rfl) (by decide) (z_passes hL i hi hK M hE)
      · exact sx_tswIn (off := 629) (tgt := 662) d_Z_law_33 vr (by omega) (by omega) (by rw [h]; rfl) (by decide) (z_crosses hL i hi hK M hE)
      · exact sx_tswIn (off := 662) (tgt := 695) d_Z_law_33 vr (by omega) (by omega) (by rw [h]; rfl) (by decide) (z_under hL i hi hK M hE)
      · exact sx_tswIn (off := 695) (tgt := 728) d_Z_law_33 vr (by omega) (by omega) (by rw [h]; rfl) (by decide) (z_bound hL i hi hK M hE)
      · exact sx_tswIn (off := 708) (tgt := 741) d_Z_law_33 vr (by omega) (by omega) (by rw [h]; rfl) (by decide) (z_lone hL i hi hK M hE)
      · exact sx_tswIn (off := 731) (tgt := 764) d_Z_law_33 vr (by omega) (by omega) (by rw [h]; rfl) (by decide) (z_late hL i hi hK M hE)
      · exact sx_tswIn (off := 764) (tgt := 797) d_Z_law_33 vr (by omega) (by omega) (by rw [h]; rfl) (by decide) (z_freeze hL i hi hK M hE)
      · exact sx_tswIn (off := 787) (tgt := 820) d_Z_law_33 vr (by omega) (by omega) (by rw [h]; rfl) (by decide) (z_replan hL i hi hK M hE)
      · exact sx_tswIn (off := 810) (tgt := 843) d_Z_law_33 vr (by omega) (by omega) (by rw [h]; rfl) (by decide) (z_moved hL i hi hK M hE)
      · exact sx_tswIn (off := 833) (tgt := 866) d_Z_law_33 vr (by omega) (by omega) (by rw [h]; rfl) (by decide) (z_slack hL i hi hK M hE)
      · exact sx_tswIn (off := 856) (tgt := 889) d_Z_law_33 vr (by omega) (by omega) (by rw [h]; rfl) (by decide) (z_odds hL i hi hK M hE)
      · exact sx_tswIn (off := 909) (tgt := 942) d_Z_law_33 vr (by omega) (by omega) (by rw [h]; rfl) (by decide) (z_count hL i hi hK M hE)
set_option maxRecDepth 100000 in
set_option maxHeartbeats 4000000 in
theorem zz_law (L : Nat) (xs : Nat → Int32) (hL : L ≤ 3072) : sx_V y_Z_law (100, 1000, 100000) L xs (0, 0) 0 [some (sx_p 0), none, none, none] [] sx_h0 (fun v _ => v = some (.inl 1)) := by
  show sx_V y_Z_law (100, 1000, 100000) L xs (0, 0) 0 [some (sx_p 0), none, none, none] [] (gh 0 zM []) _
  refine gh_new (ci := 8) (cs2 := (1, 11)) (n2 := 1) d_Z_law_0 rfl (by decide) tw_12 tw_13 tw_1 ⟨by decide, by decide⟩ rfl (zM_zb 0) rfl rfl rfl ?_
  refine sx_dup rfl d_Z_law_3 ?_
  refine sx_callI (c_T_init) d_Z_law_4 cd_T_init lk_Z_9 im_T_init rfl rfl (st := [sx_p 1]) rfl rfl (Nat.le_of_ble_eq_true rfl) ⟨by decide, by decide, by decide⟩ (fun _ _ hq => ?_)
  obtain ⟨rfl, M2, rfl, hz⟩ := hq
  show sx_V _ _ _ _ (50, 950) _ _ [sx_p 1] (gh 50 M2 [(1, 6, 50), (1, 5, 48), (48, 1, 22), (48, 0, 2), (48, 2, 49), (1, 4, 47), (1, 3, 25), (32, 11, 46), (32, 10, 45), (32, 9, 44), (32, 8, 43), (32, 7, 42), (32, 6, 41), (32, 5, 40), (32, 4, 39), (32, 3, 38), (32, 2, 37), (32, 1, 36), (32, 0, 35), (25, 2, 22), (25, 1, 20), (25, 0, 2), (25, 7, 34), (25, 6, 33), (25, 5, 32), (25, 4, 29), (29, 1, 31), (29, 0, 30), (25, 3, 26), (26, 1, 28), (26, 0, 27), (1, 2, 22), (22, 1, 24), (22, 0, 23), (1, 1, 20), (20, 1, 3), (20, 0, 2), (20, 2, 21), (1, 0, 2), (8, 5, 19), (8, 4, 18), (8, 3, 17), (8, 2, 16), (8, 1, 15), (8, 0, 14), (2, 7, 13), (2, 6, 12), (2, 5, 11), (2, 4, 10), (2, 3, 9), (2, 2, 8), (2, 1, 7), (2, 0, 3), (3, 2, 6), (3, 1, 5), (3, 0, 4)]) _
  refine sx_astore_n (l' := [some (sx_p 0), some (sx_p 1), none, none]) d_Z_law_7 (by decide) rfl rfl ?_
  refine gh_new (ci := 9) (cs2 := (51, 988)) (n2 := 51) d_Z_law_8 rfl (by decide) tw_688 tw_689 tw_10 ⟨by decide, by decide⟩ rfl (hz.zb 50 rfl) rfl rfl rfl ?_
  refine sx_dup rfl d_Z_law_11 ?_
  refine sx_callI (c_M_init hz) d_Z_law_12 cd_M_init lk_Z_12 im_M_init rfl rfl (st := [sx_p 51]) rfl rfl (Nat.le_of_ble_eq_true rfl) ⟨by decide, by decide, by decide⟩ (fun _ _ hq => ?_)
  obtain ⟨rfl, rfl⟩ := hq
  show sx_V _ _ _ _ (79, 4581) _ _ [sx_p 51] (gh 79 (sx_u (sx_u (sx_u (sx_u M2 66 0 4) 66 1 4) 66 2 4) 66 3 4) [(51, 37, 79), (51, 36, 78), (51, 32, 77), (51, 31, 76), (51, 30, 75), (51, 29, 74), (51, 28, 73), (51, 27, 72), (51, 24, 71), (51, 23, 70), (51, 22, 69), (51, 21, 68), (51, 20, 67), (51, 18, 66), (51, 17, 65), (51, 16, 64), (51, 14, 63), (51, 13, 62), (51, 12, 61), (51, 10, 60), (51, 9, 59), (51, 8, 58), (51, 7, 57), (51, 6, 56), (51, 5, 55), (51, 4, 54), (51, 3, 53), (51, 1, 52), (1, 6, 50), (1, 5, 48), (48, 1, 22), (48, 0, 2), (48, 2, 49), (1, 4, 47), (1, 3, 25), (32, 11, 46), (32, 10, 45), (32, 9, 44), (32, 8, 43), (32, 7, 42), (32, 6, 41), (32, 5, 40), (32, 4, 39), (32, 3, 38), (32, 2, 37), (32, 1, 36), (32, 0, 35), (25, 2, 22), (25, 1, 20), (25, 0, 2), (25, 7, 34), (25, 6, 33), (25, 5, 32), (25, 4, 29), (29, 1, 31), (29, 0, 30), (25, 3, 26), (26, 1, 28), (26, 0, 27), (1, 2, 22), (22, 1, 24), (22, 0, 23), (1, 1, 20), (20, 1, 3), (20, 0, 2), (20, 2, 21), (1, 0, 2), (8, 5, 19), (8, 4, 18), (8, 3, 17), (8, 2, 16), (8, 1, 15), (8, 0, 14), (2, 7, 13), (2, 6, 12), (2, 5, 11), (2, 4, 10), (2, 3, 9), (2, 2, 8), (2, 1, 7), (2, 0, 3), (3, 2, 6), (3, 1, 5), (3, 0, 4)]) _
  refine sx_astore_n (l' := [some (sx_p 0), some (sx_p 1), some (sx_p 51), none]) d_Z_law_15 (by decide) rfl rfl ?_
  refine sx_iconst d_Z_law_16 ?_
  refine sx_istore_n (l' := [some (sx_p 0), some (sx_p 1), some (sx_p 51), some (.inl 0)]) d_Z_law_17 (by decide) rfl rfl ?_
  show sx_V _ _ _ _ (79, 4581) 18 [some (sx_p 0), some (sx_p 1), some (sx_p 51), some (.inl ((0 : Nat) : Int))] [] (gh 79 (sx_u (sx_u (sx_u (sx_u M2 66 0 4) 66 1 4) 66 2 4) 66 3 4) rl_M) _
  rw [gh_gm]
  exact z_loop hL (L + 1) 0 _ (by omega) (by omega) (MR0 hz)
