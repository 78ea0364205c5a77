/-- a later start of a work is good, by the reference's reckoning -/
def mSl (M : Nat → Nat → Int) (nw nb w : Nat) (s : Int) : Prop := eT M w s ≤ gE M (M 23) nw ∧ mA M nb w nw (M 23) (M 24) s (M 24 w)
theorem mSl_iff {M : Nat → Nat → Int} {nc nw nb w : Nat} (hM : MR M nc nw nb) (h7 : M 1 7 ≠ 0) (hw : w < nw) {s : Int} (hs : 0 ≤ s ∧ s ≤ 99) (hsw : dr M s.toNat = false) : cSl M nw nb w s ↔ mSl M nw nb w s := by
  have h := rules_iff (S := M 23) (D := M 24) (cnt := nw) hM.w6 hM.ws hM.gp hw (Nat.le_refl _) (fun o ho _ => ⟨(hM.pl h7 o ho).1.1, hM.plw h7 o ho⟩) (d := M 24 w) hs hsw
  unfold cSl mSl
  rw [hM.pen h7, ← h]
  constructor
  · rintro ⟨⟨a, b⟩, c, d⟩
    exact ⟨c, a, b, d⟩
  · rintro ⟨c, a, b, d⟩
    exact ⟨⟨a, b⟩, c, d⟩
set_option maxRecDepth 100000 in
set_option maxHeartbeats 4000000 in
theorem m_slack_bad {L : Nat} {xs : Nat → Int32} (M : Nat → Nat → Int) (nc nw nb : Nat) (hM : MR M nc nw nb) (M1 : Nat → Nat → Int) (M1s : sf M M1) (M1R : IR M1) (w : Int) (hw : sx_r w) (hbd : ¬ (M 1 7 ≠ 0 ∧ 0 ≤ w ∧ w < nw)) : sx_R y_M_slack (1, 0, 0) L xs [sx_p 51, .inl w] (gm M1) (fun v h2 => v = some (.inl (-1)) ∧ h2 = gm M1) := by
  have w6 := hM.w6
  have c4 := hM.c4
  have b8 := hM.b8
  have r33 : 0 ≤ M 3 3 ∧ M 3 3 ≤ 200 := by (have := hM.dy.2.2.2; have := dy_le (dr M) 200; omega)
  refine sx_enter rfl (Nat.le_of_ble_eq_true rfl) rfl ?_
  show sx_V y_M_slack (1, 0, 0) L xs (0, 0) 0 [some (sx_p 51), some (.inl w), none, none, none] [] (gm M1) _
  refine sx_aload_n d_M_slack_0 rfl ?_
  refine sx_getI (z := (M 1 7)) d_M_slack_1 fl_M_99 (go rfl rfl rfl) (by decide) (by decide) (by decide) ((M1s 51 19 (by decide) (by decide) (by omega)).trans hM.mha) ?_
  refine sx_if_eq (tgt := 15) d_M_slack_4 (by decide) (by first | omega | exact hM.ir _ _) (fun c4_11 => ?_) (fun c4_11 => ?_)
  · refine sx_iconst d_M_slack_15 ?_
    refine sx_retI d_M_slack_16 (Or.inl rfl) ⟨Nat.zero_le _, Nat.zero_le _⟩ ?_
    exact ⟨rfl, rfl⟩
  · refine sx_aload_n d_M_slack_7 rfl ?_
    refine sx_iload_n d_M_slack_8 rfl ?_
    refine sx_callV (c_M_isWork M nc nw nb hM M1 M1s w (by omega)) d_M_slack_9 cd_M_isWork lk_M_113 im_M_isWork se_M_isWork (go rfl rfl rfl) rfl rfl (by decide) (st := []) rfl rfl (Nat.le_of_ble_eq_true rfl) ⟨by decide, Nat.le_refl _, Nat.le_refl _⟩ (fun _ _ hq => ?_)
    obtain ⟨z156, rfl, z156b, z156i, rfl⟩ := hq
    show sx_V _ _ _ _ (0, 0) _ _ [.inl z156] (gm M1) _
    refine sx_if_ne (tgt := 17) d_M_slack_12 (by decide) (by first | omega | exact hM.ir _ _) (fun c12_20 => ?_) (fun c12_20 => ?_)
    · omega
    · refine sx_iconst d_M_slack_15 ?_
      refine sx_retI d_M_slack_16 (Or.inl rfl) ⟨Nat.zero_le _, Nat.zero_le _⟩ ?_
      exact ⟨rfl, rfl⟩
set_option maxRecDepth 100000 in
set_option maxHeartbeats 4000000 in
theorem l_M_slack {L : Nat} {xs : Nat → Int32} (M : Nat → Nat → Int) (nc nw nb : Nat) (hM : MR M nc nw nb) (M1 : Nat → Nat → Int) (M1s : sf M M1) (M1R : IR M1) (h7 : M 1 7 ≠ 0) (w : Nat) (hw : w < nw) : ∀ (n : Nat) (s l : Int) (M2 : Nat → Nat → Int), s + n = 100 → 0 ≤ s → (0 ≤ l ∧ l ≤ 1000 - n) → mq M1 M2 → sf M M2 → IR M2 → SLt M nw (M 23) (M 24) M2 → sx_V y_M_slack (4, 0, 0) L xs (0, 0) 42 [some (sx_p 51), some (.inl (w : Int)), some (.inl (gE M (M 23) nw)), some (.inl l), some (.inl s)] [] (gm M2) (fun v h2 => v = some (.inl (l + skf (fun s => dr M s.toNat = false) (mSl M nw nb w) n s)) ∧ ∃ M2, h2 = gm M2 ∧ mq M1 M2 ∧ IR M2) := by
  have w6 := hM.w6
  have c4 := hM.c4
  have b8 := hM.b8
  have r33 : 0 ≤ M 3 3 ∧ M 3 3 ≤ 200 := by (have := hM.dy.2.2.2; have := dy_le (dr M) 200; omega)
  have ger := gE_r (M := M) (S := M 23) nw (fun i hi => ⟨(hM.ws i hi).1, (hM.pl h7 i hi).1.1, by have := (hM.pl h7 i hi).1.2; omega⟩)
  intro n
  induction n with
  | zero =>
    intro s l M2 hn h0 hl M2q M2s M2R hS
    refine sx_iload d_M_slack_42 rfl ?_
    refine sx_bipush d_M_slack_44 (by decide) ?_
    refine sx_icmp_ge (tgt := 109) d_M_slack_46 (by decide) (by first | omega | exact hM.ir _ _) ⟨by decide, by decide⟩ (fun c46_2 => ?_) (fun c46_2 => ?_)
    · refine sx_iload_n d_M_slack_109 rfl ?_
      refine sx_retI d_M_slack_110 (Or.inl rfl) ⟨Nat.zero_le _, Nat.zero_le _⟩ ?_
      refine ⟨?_, M2, rfl, M2q, M2R⟩
      simp only [skf, Int.add_zero]
    · omega
  | succ n ih =>
    intro s l M2 hn h0 hl M2q M2s M2R hS
    refine sx_iload d_M_slack_42 rfl ?_
    refine sx_bipush d_M_slack_44 (by decide) ?_
    refine sx_icmp_ge (tgt := 109) d_M_slack_46 (by decide) (by first | omega | exact hM.ir _ _) ⟨by decide, by decide⟩ (fun c46_17 => ?_) (fun c46_17 => ?_)
    · refine sx_iload_n d_M_slack_109 rfl ?_
      refine sx_retI d_M_slack_110 (Or.inl rfl) ⟨Nat.zero_le _, Nat.zero_le _⟩ ?_
      exfalso; omega
    · refine sx_aload_n d_M_slack_49 rfl ?_
      refine sx_iload d_M_slack_50 rfl ?_
      refine sx_callV (c_M_isRest M nc nw nb hM M2 M2s s (by omega)) d_M_slack_52 cd_M_isRest lk_M_123 im_M_isRest se_M_isRest (go rfl rfl rfl) rfl rfl (by decide) (st := []) rfl rfl (Nat.le_of_ble_eq_true rfl) ⟨by decide, Nat.le_refl _, Nat.le_refl _⟩ (fun _ _ hq => ?_)
      obtain ⟨zr, rfl, zrb, zri, rfl⟩ := hq
      show sx_V _ _ _ _ (0, 0) _ _ [.inl zr] (gm M2) _
      refine sx_if_ne (tgt := 103) d_M_slack_55 (by decide) (by first | omega | exact hM.ir _ _) (fun c55_26 => ?_) (fun c55_26 => ?_)
      · refine sx_iinc (l' := [some (sx_p 51), some (.inl (w : Int)), some (.inl (gE M (M 23) nw)), some (.inl l), some (.inl (s + 1))]) d_M_slack_103 rfl (by decide) rfl rfl ?_
        refine sx_goto (tgt := 42) d_M_slack_106 (by decide) ?_
        rw [skf_no (fun q => by have := (zri.mp (by omega)).2; rw [q] at this; exact absurd this (by decide))]
        exact ih (s + 1) l M2 (by omega) (by omega) (by omega) M2q M2s M2R hS
      · have sdr : dr M s.toNat = false := by (cases q : dr M s.toNat; rfl; exact absurd (zri.mpr ⟨by omega, q⟩) (by omega))
        refine sx_aload_n d_M_slack_58 rfl ?_
        refine sx_bipush d_M_slack_59 (by decide) ?_
        refine sx_iload_n d_M_slack_61 rfl ?_
        refine sx_iload d_M_slack_62 rfl ?_
        refine sx_aload_n d_M_slack_64 rfl ?_
        refine sx_getR (r := some (68)) d_M_slack_65 fl_M_59 (go rfl rfl rfl) (by decide) (by decide) (by decide) rfl ?_
        refine sx_iload_n d_M_slack_68 rfl ?_
        refine sx_iald (z := (M 24 w)) d_M_slack_69 (go rfl rfl rfl) (by omega) (by omega) (by decide) ((M2s 68 w (by decide) (by decide) (by omega)).trans (hM.mst (by omega) w (by omega)).2) ?_
        refine sx_callV (c_M_lay M nc nw nb hM M2 M2s M2R 6 (by decide) w hw s (M 24 w) (by omega) sdr (hM.pl h7 w hw).2) d_M_slack_70 cd_M_lay lk_M_159 im_M_lay se_M_lay (go rfl rfl rfl) rfl rfl (by decide) (st := []) rfl rfl (Nat.le_of_ble_eq_true rfl) ⟨by decide, Nat.le_refl _, Nat.le_refl _⟩ (fun _ _ hq => ?_)
        obtain ⟨rfl, M3, rfl, M3f, M3R, M3s, hL⟩ := hq
        have hS3 : SLt M nw (M 23) (M 24) M3 := fun j hj => laid_c (hM.ws j hj).1 (hS j hj) M3f (by omega)
        have er := eT_r (hM.ws w hw).1 (s := s) (by omega)
        show sx_V _ _ _ _ (0, 0) _ _ [] (gm M3) _
        refine sx_aload_n d_M_slack_73 rfl ?_
        refine sx_getR (r := some (74)) d_M_slack_74 fl_M_77 (go rfl rfl rfl) (by decide) (by decide) (by decide) rfl ?_
        refine sx_bipush d_M_slack_77 (by decide) ?_
        refine sx_iald (z := (eT M w s)) d_M_slack_79 (go rfl rfl rfl) (by omega) (by omega) (by decide) hL.2.2.1 ?_
        refine sx_iload_n d_M_slack_80 rfl ?_
        refine sx_icmp_gt (tgt := 98) d_M_slack_81 (by decide) (by first | omega | exact hM.ir _ _) (by first | omega | exact hM.ir _ _) (fun c81_50 => ?_) (fun c81_50 => ?_)
        · refine sx_iload_n d_M_slack_98 rfl ?_
          refine sx_retI d_M_slack_99 (Or.inl rfl) ⟨Nat.zero_le _, Nat.zero_le _⟩ ?_
          refine ⟨?_, M3, rfl, lyf.mq M2q M3f, M3R⟩
          rw [skf_end sdr (fun q => by first | (have := q.1; omega) | (have := zki.mpr q.2; omega)), Int.add_zero]
        · refine sx_aload_n d_M_slack_84 rfl ?_
          refine sx_bipush d_M_slack_85 (by decide) ?_
          refine sx_iload_n d_M_slack_87 rfl ?_
          refine sx_aload_n d_M_slack_88 rfl ?_
          refine sx_getI (z := (nw : Int)) d_M_slack_89 fl_M_95 (go rfl rfl rfl) (by decide) (by decide) (by decide) ((M3s 51 2 (by decide) (by decide) (by omega)).trans hM.mwn) ?_
          refine sx_callV (c_M_ka M nc nw nb hM M3 M3s M3R 6 (by decide) w hw s (M 24 w) (by omega) hL nw (Nat.le_refl _) (M 23) (M 24) (fun j hj _ => ⟨hS3 j hj, by have := (hM.pl h7 j hj).1; omega, (hM.pl h7 j hj).2⟩)) d_M_slack_92 cd_M_keepsAll lk_M_163 im_M_keepsAll se_M_keepsAll (go rfl rfl rfl) rfl rfl (by decide) (st := []) rfl rfl (Nat.le_of_ble_eq_true rfl) ⟨by decide, Nat.le_refl _, Nat.le_refl _⟩ (fun _ _ hq => ?_)
          obtain ⟨zk, rfl, zkb, zki, rfl⟩ := hq
          show sx_V _ _ _ _ (0, 0) _ _ [.inl zk] (gm M3) _
          refine sx_if_ne (tgt := 100) d_M_slack_95 (by decide) (by first | omega | exact hM.ir _ _) (fun c95_63 => ?_) (fun c95_63 => ?_)
          · refine sx_iinc (l' := [some (sx_p 51), some (.inl (w : Int)), some (.inl (gE M (M 23) nw)), some (.inl (l + 1)), some (.inl s)]) d_M_slack_100 rfl (by decide) rfl rfl ?_
            refine sx_iinc (l' := [some (sx_p 51), some (.inl (w : Int)), some (.inl (gE M (M 23) nw)), some (.inl (l + 1)), some (.inl (s + 1))]) d_M_slack_103 rfl (by decide) rfl rfl ?_
            refine sx_goto (tgt := 42) d_M_slack_106 (by decide) ?_
            rw [skf_go sdr ⟨by omega, zki.mp (by omega)⟩]
            rw [show l + (1 + skf (fun s => dr M s.toNat = false) (mSl M nw nb w) n (s + 1)) = (l + 1) + skf (fun s => dr M s.toNat = false) (mSl M nw nb w) n (s + 1) by omega]
            exact ih (s + 1) (l + 1) M3 (by omega) (by omega) (by omega) (lyf.mq M2q M3f) M3s M3R hS3
          · refine sx_iload_n d_M_slack_98 rfl ?_
            refine sx_retI d_M_slack_99 (Or.inl rfl) ⟨Nat.zero_le _, Nat.zero_le _⟩ ?_
            refine ⟨?_, M3, rfl, lyf.mq M2q M3f, M3R⟩
            rw [skf_end sdr (fun q => by first | (have := q.1; omega) | (have := zki.mpr q.2; omega)), Int.add_zero]
set_option maxRecDepth 100000 in
set_option maxHeartbeats 4000000 in
theorem m_slack_ok {L : Nat} {xs : Nat → Int32} (M : Nat → Nat → Int) (nc nw nb : Nat) (hM : MR M nc nw nb) (M1 : Nat → Nat → Int) (M1s : sf M M1) (M1R : IR M1) (h7 : M 1 7 ≠ 0) (w : Nat) (hw : w < nw) : sx_R y_M_slack (4, 0, 0) L xs [sx_p 51, .inl (w : Int)] (gm M1) (fun v h2 => v = some (.inl (skf (fun s => dr M s.toNat = false) (mSl M nw nb w) (99 - M 23 w).toNat (M 23 w + 1))) ∧ ∃ M2, h2 = gm M2 ∧ mq M1 M2 ∧ IR M2) := by
  have w6 := hM.w6
  have c4 := hM.c4
  have b8 := hM.b8
  have r33 : 0 ≤ M 3 3 ∧ M 3 3 ≤ 200 := by (have := hM.dy.2.2.2; have := dy_le (dr M) 200; omega)
  refine sx_enter rfl (Nat.le_of_ble_eq_true rfl) rfl ?_
  show sx_V y_M_slack (4, 0, 0) L xs (0, 0) 0 [some (sx_p 51), some (.inl (w : Int)), none, none, none] [] (gm M1) _
  refine sx_aload_n d_M_slack_0 rfl ?_
  refine sx_getI (z := (M 1 7)) d_M_slack_1 fl_M_99 (go rfl rfl rfl) (by decide) (by decide) (by decide) ((M1s 51 19 (by decide) (by decide) (by omega)).trans hM.mha) ?_
  refine sx_if_eq (tgt := 15) d_M_slack_4 (by decide) (by first | omega | exact hM.ir _ _) (fun c4_11 => ?_) (fun c4_11 => ?_)
  · omega
  · refine sx_aload_n d_M_slack_7 rfl ?_
    refine sx_iload_n d_M_slack_8 rfl ?_
    refine sx_callV (c_M_isWork M nc nw nb hM M1 M1s (w : Int) (by omega)) d_M_slack_9 cd_M_isWork lk_M_113 im_M_isWork se_M_isWork (go rfl rfl rfl) rfl rfl (by decide) (st := []) rfl rfl (Nat.le_of_ble_eq_true rfl) ⟨by decide, Nat.le_refl _, Nat.le_refl _⟩ (fun _ _ hq => ?_)
    obtain ⟨z157, rfl, z157b, z157i, rfl⟩ := hq
    show sx_V _ _ _ _ (0, 0) _ _ [.inl z157] (gm M1) _
    refine sx_if_ne (tgt := 17) d_M_slack_12 (by decide) (by first | omega | exact hM.ir _ _) (fun c12_18 => ?_) (fun c12_18 => ?_)
    · refine sx_aload_n d_M_slack_17 rfl ?_
      refine sx_callV (c_M_lp M nc nw nb hM M1 M1s M1R h7) d_M_slack_18 cd_M_layPlan lk_M_191 im_M_layPlan se_M_layPlan (go rfl rfl rfl) rfl rfl (by decide) (st := []) rfl rfl (Nat.le_of_ble_eq_true rfl) ⟨by decide, Nat.le_refl _, Nat.le_refl _⟩ (fun _ _ hq => ?_)
      obtain ⟨rfl, M3, rfl, M3q, M3s, M3R, hS⟩ := hq
      have hV := hM.VS h7
      show sx_V _ _ _ _ (0, 0) _ _ [] (gm M3) _
      refine sx_aload_n d_M_slack_21 rfl ?_
      refine sx_aload_n d_M_slack_22 rfl ?_
      refine sx_getI (z := (nw : Int)) d_M_slack_23 fl_M_95 (go rfl rfl rfl) (by decide) (by decide) (by decide) ((M3s 51 2 (by decide) (by decide) (by omega)).trans hM.mwn) ?_
      refine sx_callV (c_M_ge M nc nw nb hM M3 M3s M3R nw (by omega) (M 23) (M 24) hV hS) d_M_slack_26 cd_M_greatestEnd lk_M_147 im_M_greatestEnd se_M_greatestEnd (go rfl rfl rfl) rfl rfl (by decide) (st := []) rfl rfl (Nat.le_of_ble_eq_true rfl) ⟨by decide, Nat.le_refl _, Nat.le_refl _⟩ (fun _ _ hq => ?_)
      obtain ⟨rfl, rfl⟩ := hq
      show sx_V _ _ _ _ (0, 0) _ _ [.inl (gE M (M 23) nw)] (gm M3) _
      refine sx_istore_n (l' := [some (sx_p 51), some (.inl (w : Int)), some (.inl (gE M (M 23) nw)), none, none]) d_M_slack_29 (by decide) rfl rfl ?_
      refine sx_iconst d_M_slack_30 ?_
      refine sx_istore_n (l' := [some (sx_p 51), some (.inl (w : Int)), some (.inl (gE M (M 23) nw)), some (.inl 0), none]) d_M_slack_31 (by decide) rfl rfl ?_
      refine sx_aload_n d_M_slack_32 rfl ?_
      refine sx_getR (r := some (67)) d_M_slack_33 fl_M_56 (go rfl rfl rfl) (by decide) (by decide) (by decide) rfl ?_
      refine sx_iload_n d_M_slack_36 rfl ?_
      refine sx_iald (z := (M 23 w)) d_M_slack_37 (go rfl rfl rfl) (by omega) (by omega) (by decide) ((M3s 67 w (by decide) (by decide) (by omega)).trans (hM.mst (by omega) w (by omega)).1) ?_
      refine sx_iconst d_M_slack_38 ?_
      refine sx_iadd d_M_slack_39 ?_
      refine sx_istore (l' := [some (sx_p 51), some (.inl (w : Int)), some (.inl (gE M (M 23) nw)), some (.inl 0), some (.inl ((M 23 w) + 1))]) d_M_slack_40 (by decide) rfl rfl ?_
      have hpw := (hM.pl h7 w hw).1
      have q := l_M_slack (L := L) (xs := xs) M nc nw nb hM M1 M1s M1R h7 w hw (99 - M 23 w).toNat (M 23 w + 1) 0 M3 (by omega) (by omega) (by omega) M3q M3s M3R hS
      rw [Int.zero_add] at q
      exact q
    · omega
theorem bf_of {b : Bool} (h : b = true → False) : b = false := by
  cases b
  · rfl
  · exact absurd rfl h
theorem wr_f {M : Nat → Nat → Int} {x ch : Int} {d : Nat} (h1 : dr M d = false) (h2 : 400 ≤ d ∨ wt x ch d = false) : wr M x ch d = false := by
  unfold wr
  rw [h1]
  rcases h2 with q | q
  · rw [decide_eq_false (show ¬ d < 400 by omega)]; rfl
  · rw [q]; simp
theorem wr_t1 {M : Nat → Nat → Int} {x ch : Int} {d : Nat} (h1 : dr M d = true) : wr M x ch d = true ∧ d < 400 := by
  unfold wr
  rw [h1]
  refine ⟨rfl, ?_⟩
  rcases Nat.lt_or_ge d 200 with q | q
  · omega
  · rw [dr_far M d q] at h1; exact absurd h1 (by decide)
theorem wr_t2 {M : Nat → Nat → Int} {x ch : Int} {d : Nat} (h1 : (d : Int) ≤ 399) (h2 : wt x ch d = true) : wr M x ch d = true ∧ d < 400 := by
  unfold wr
  rw [decide_eq_true (show d < 400 by omega), h2]
  exact ⟨by simp, by omega⟩
theorem wt_0 {x ch : Int} {d : Nat} (h : (if wt x ch d = true then (1 : Int) else 0) = 0) : wt x ch d = false := bf_of (fun q => by rw [if_pos q] at h; exact absurd h (by decide))
theorem wt_1 {x ch : Int} {d : Nat} (h : (if wt x ch d = true then (1 : Int) else 0) ≠ 0) : wt x ch d = true := Classical.byContradiction (fun q => h (if_neg q))
theorem wE_go {r : Nat → Bool} {s n d : Nat} (h : r d = false) (h2 : dy_b r d = dy_b r s + n - 1) : wE r s n = (d : Int) + 1 := by
  unfold wE
  rw [dn_eq h h2]
set_option maxRecDepth 100000 in
set_option maxHeartbeats 4000000 in
theorem l_M_wet {L : Nat} {xs : Nat → Int32} (M : Nat → Nat → Int) (nc nw nb : Nat) (hM : MR M nc nw nb) (M1 : Nat → Nat → Int) (M1s : sf M M1) (M1R : IR M1) (h7 : M 1 7 ≠ 0) (w : Nat) (hw : w < nw) (x ch : Int) (hwet : ∀ d, d < 400 → M1 65 d = if wt x ch d = true then 1 else 0) : ∀ (n d : Nat) (left : Int) (x4 : Option sx_v), (400 - d) + left.toNat < n → 0 ≤ left → (d : Int) + left ≤ 700 → (M 23 w).toNat ≤ d → left = (M (14 + w) 5) - ((dy_b (wr M x ch) d : Int) - (dy_b (wr M x ch) (M 23 w).toNat : Int)) → (0 < left ∨ wE (wr M x ch) (M 23 w).toNat (M (14 + w) 5).toNat = (d : Int)) → sx_V y_M_wetEnd (1, 0, 0) L xs (0, 0) 13 [some (sx_p 51), some (.inl (w : Int)), some (.inl left), some (.inl (d : Int)), x4] [] (gm M1) (fun v h2 => v = some (.inl (wE (wr M x ch) (M 23 w).toNat (M (14 + w) 5).toNat)) ∧ h2 = gm M1) := by
  have w6 := hM.w6
  have c4 := hM.c4
  have b8 := hM.b8
  have r33 : 0 ≤ M 3 3 ∧ M 3 3 ≤ 200 := by (have := hM.dy.2.2.2; have := dy_le (dr M) 200; omega)
  have nq := (hM.ws w hw).1.need
  have hpw := (hM.pl h7 w hw).1
  intro n
  induction n with
  | zero => intro d left x4 h1 h2; omega
  | succ n ih =>
    intro d left x4 hn hl0 hdl hsd hlf hfin
    refine sx_iload_n d_M_wetEnd_13 rfl ?_
    refine sx_if_le (tgt := 67) d_M_wetEnd_14 (by decide) (by first | omega | (split <;> omega)) (fun c14_15 => ?_) (fun c14_15 => ?_)
    · refine sx_iload_n d_M_wetEnd_67 rfl ?_
      refine sx_retI d_M_wetEnd_68 (Or.inl rfl) ⟨Nat.zero_le _, Nat.zero_le _⟩ ?_
      refine ⟨?_, rfl⟩
      rcases hfin with q | q
      · omega
      · rw [q]
    · refine sx_aload_n d_M_wetEnd_17 rfl ?_
      refine sx_iload_n d_M_wetEnd_18 rfl ?_
      refine sx_callV (c_M_isRest M nc nw nb hM M1 M1s (d : Int) (by omega)) d_M_wetEnd_19 cd_M_isRest lk_M_123 im_M_isRest se_M_isRest (go rfl rfl rfl) rfl rfl (by decide) (st := []) rfl rfl (Nat.le_of_ble_eq_true rfl) ⟨by decide, Nat.le_refl _, Nat.le_refl _⟩ (fun _ _ hq => ?_)
      obtain ⟨zr, rfl, zrb, zri, rfl⟩ := hq
      rw [Int.toNat_natCast] at zri
      show sx_V _ _ _ _ (0, 0) _ _ [.inl zr] (gm M1) _
      refine sx_if_ne (tgt := 45) d_M_wetEnd_22 (by decide) (by first | omega | (split <;> omega)) (fun c22_28 => ?_) (fun c22_28 => ?_)
      · refine sx_iconst d_M_wetEnd_45 ?_
        refine sx_istore (l' := [some (sx_p 51), some (.inl (w : Int)), some (.inl left), some (.inl (d : Int)), some (.inl 0)]) d_M_wetEnd_46 (by decide) rfl rfl ?_
        refine sx_iload_n d_M_wetEnd_48 rfl ?_
        refine sx_iload d_M_wetEnd_49 rfl ?_
        refine sx_if_eq (tgt := 58) d_M_wetEnd_51 (by decide) ⟨by decide, by decide⟩ (fun c51_33 => ?_) (fun c51_33 => ?_)
        · refine sx_iconst d_M_wetEnd_58 ?_
          refine sx_isub d_M_wetEnd_59 ?_
          refine sx_istore_n (l' := [some (sx_p 51), some (.inl (w : Int)), some (.inl (left - 0)), some (.inl (d : Int)), some (.inl 0)]) d_M_wetEnd_60 (by decide) rfl rfl ?_
          refine sx_iinc (l' := [some (sx_p 51), some (.inl (w : Int)), some (.inl (left - 0)), some (.inl ((d : Int) + 1)), some (.inl 0)]) d_M_wetEnd_61 rfl (by decide) rfl rfl ?_
          refine sx_goto (tgt := 13) d_M_wetEnd_64 (by decide) ?_
          have e1 : ((d : Int) + 1) = ((d + 1 : Nat) : Int) := by omega
          have rd : wr M x ch d = true ∧ d < 400 := by first | exact wr_t1 (zri.mp (by omega)).2 | exact wr_t2 (by omega) (wt_1 (by assumption))
          have dq := dy_s (wr M x ch) d
          rw [rd.1] at dq
          simp only [if_true] at dq
          have dm := dy_mono (r := (wr M x ch)) hsd
          rw [e1]
          have e3 : (left - 0) = left := by omega
          rw [e3]
          exact ih (d + 1) _ _ (by omega) (by omega) (by omega) (by omega) (by omega) (Or.inl (by omega))
        · omega
      · refine sx_iload_n d_M_wetEnd_25 rfl ?_
        refine sx_sipush d_M_wetEnd_26 (by decide) ?_
        refine sx_icmp_gt (tgt := 41) d_M_wetEnd_29 (by decide) (by first | omega | (split <;> omega)) ⟨by decide, by decide⟩ (fun c29_52 => ?_) (fun c29_52 => ?_)
        · refine sx_iconst d_M_wetEnd_41 ?_
          refine sx_goto (tgt := 46) d_M_wetEnd_42 (by decide) ?_
          refine sx_istore (l' := [some (sx_p 51), some (.inl (w : Int)), some (.inl left), some (.inl (d : Int)), some (.inl 1)]) d_M_wetEnd_46 (by decide) rfl rfl ?_
          refine sx_iload_n d_M_wetEnd_48 rfl ?_
          refine sx_iload d_M_wetEnd_49 rfl ?_
          refine sx_if_eq (tgt := 58) d_M_wetEnd_51 (by decide) ⟨by decide, by decide⟩ (fun c51_58 => ?_) (fun c51_58 => ?_)
          · omega
          · refine sx_iconst d_M_wetEnd_54 ?_
            refine sx_goto (tgt := 59) d_M_wetEnd_55 (by decide) ?_
            refine sx_isub d_M_wetEnd_59 ?_
            refine sx_istore_n (l' := [some (sx_p 51), some (.inl (w : Int)), some (.inl (left - 1)), some (.inl (d : Int)), some (.inl 1)]) d_M_wetEnd_60 (by decide) rfl rfl ?_
            refine sx_iinc (l' := [some (sx_p 51), some (.inl (w : Int)), some (.inl (left - 1)), some (.inl ((d : Int) + 1)), some (.inl 1)]) d_M_wetEnd_61 rfl (by decide) rfl rfl ?_
            refine sx_goto (tgt := 13) d_M_wetEnd_64 (by decide) ?_
            have e1 : ((d : Int) + 1) = ((d + 1 : Nat) : Int) := by omega
            have rd : wr M x ch d = false := wr_f (bf_of (fun q => by have := zri.mpr ⟨by omega, q⟩; omega)) (by first | (left; omega) | (right; exact wt_0 (by assumption)))
            have dq := dy_s (wr M x ch) d
            rw [rd] at dq
            simp only [Bool.false_eq_true, if_false] at dq
            have dm := dy_mono (r := (wr M x ch)) hsd
            rw [e1]
            refine ih (d + 1) _ _ (by omega) (by omega) (by omega) (by omega) (by omega) ?_
            rcases (show 0 < left - 1 ∨ left = 1 by omega) with q | q
            · exact Or.inl q
            · exact Or.inr (by rw [wE_go rd (by omega)]; omega)
        · refine sx_aload_n d_M_wetEnd_32 rfl ?_
          refine sx_getR (r := some (65)) d_M_wetEnd_33 fl_M_50 (go rfl rfl rfl) (by decide) (by decide) (by decide) rfl ?_
          refine sx_iload_n d_M_wetEnd_36 rfl ?_
          refine sx_zald (z := (if wt x ch d = true then 1 else 0)) d_M_wetEnd_37 (go rfl rfl rfl) (by omega) (by omega) (by decide) (hwet d (by omega)) ?_
          refine sx_if_ne (tgt := 45) d_M_wetEnd_38 (by decide) (by first | omega | (split <;> omega)) (fun c38_81 => ?_) (fun c38_81 => ?_)
          · refine sx_iconst d_M_wetEnd_45 ?_
            refine sx_istore (l' := [some (sx_p 51), some (.inl (w : Int)), some (.inl left), some (.inl (d : Int)), some (.inl 0)]) d_M_wetEnd_46 (by decide) rfl rfl ?_
            refine sx_iload_n d_M_wetEnd_48 rfl ?_
            refine sx_iload d_M_wetEnd_49 rfl ?_
            refine sx_if_eq (tgt := 58) d_M_wetEnd_51 (by decide) ⟨by decide, by decide⟩ (fun c51_86 => ?_) (fun c51_86 => ?_)
            · refine sx_iconst d_M_wetEnd_58 ?_
              refine sx_isub d_M_wetEnd_59 ?_
              refine sx_istore_n (l' := [some (sx_p 51), some (.inl (w : Int)), some (.inl (left - 0)), some (.inl (d : Int)), some (.inl 0)]) d_M_wetEnd_60 (by decide) rfl rfl ?_
              refine sx_iinc (l' := [some (sx_p 51), some (.inl (w : Int)), some (.inl (left - 0)), some (.inl ((d : Int) + 1)), some (.inl 0)]) d_M_wetEnd_61 rfl (by decide) rfl rfl ?_
              refine sx_goto (tgt := 13) d_M_wetEnd_64 (by decide) ?_
              have e1 : ((d : Int) + 1) = ((d + 1 : Nat) : Int) := by omega
              have rd : wr M x ch d = true ∧ d < 400 := by first | exact wr_t1 (zri.mp (by omega)).2 | exact wr_t2 (by omega) (wt_1 (by assumption))
              have dq := dy_s (wr M x ch) d
              rw [rd.1] at dq
              simp only [if_true] at dq
              have dm := dy_mono (r := (wr M x ch)) hsd
              rw [e1]
              have e3 : (left - 0) = left := by omega
              rw [e3]
              exact ih (d + 1) _ _ (by omega) (by omega) (by omega) (by omega) (by omega) (Or.inl (by omega))
            · omega
          · refine sx_iconst d_M_wetEnd_41 ?_
            refine sx_goto (tgt := 46) d_M_wetEnd_42 (by decide) ?_
            refine sx_istore (l' := [some (sx_p 51), some (.inl (w : Int)), some (.inl left), some (.inl (d : Int)), some (.inl 1)]) d_M_wetEnd_46 (by decide) rfl rfl ?_
            refine sx_iload_n d_M_wetEnd_48 rfl ?_
            refine sx_iload d_M_wetEnd_49 rfl ?_
            refine sx_if_eq (tgt := 58) d_M_wetEnd_51 (by decide) ⟨by decide, by decide⟩ (fun c51_108 => ?_) (fun c51_108 => ?_)
            · omega
            · refine sx_iconst d_M_wetEnd_54 ?_
              refine sx_goto (tgt := 59) d_M_wetEnd_55 (by decide) ?_
              refine sx_isub d_M_wetEnd_59 ?_
              refine sx_istore_n (l' := [some (sx_p 51), some (.inl (w : Int)), some (.inl (left - 1)), some (.inl (d : Int)), some (.inl 1)]) d_M_wetEnd_60 (by decide) rfl rfl ?_
              refine sx_iinc (l' := [some (sx_p 51), some (.inl (w : Int)), some (.inl (left - 1)), some (.inl ((d : Int) + 1)), some (.inl 1)]) d_M_wetEnd_61 rfl (by decide) rfl rfl ?_
              refine sx_goto (tgt := 13) d_M_wetEnd_64 (by decide) ?_
              have e1 : ((d : Int) + 1) = ((d + 1 : Nat) : Int) := by omega
              have rd : wr M x ch d = false := wr_f (bf_of (fun q => by have := zri.mpr ⟨by omega, q⟩; omega)) (by first | (left; omega) | (right; exact wt_0 (by assumption)))
              have dq := dy_s (wr M x ch) d
              rw [rd] at dq
              simp only [Bool.false_eq_true, if_false] at dq
              have dm := dy_mono (r := (wr M x ch)) hsd
              rw [e1]
              refine ih (d + 1) _ _ (by omega) (by omega) (by omega) (by omega) (by omega) ?_
              rcases (show 0 < left - 1 ∨ left = 1 by omega) with q | q
              · exact Or.inl q
              · exact Or.inr (by rw [wE_go rd (by omega)]; omega)
set_option maxRecDepth 100000 in
set_option maxHeartbeats 4000000 in
theorem c_M_wet {L : Nat} {xs : Nat → Int32} (M : Nat → Nat → Int) (nc nw nb : Nat) (hM : MR M nc nw nb) (M1 : Nat → Nat → Int) (M1s : sf M M1) (M1R : IR M1) (h7 : M 1 7 ≠ 0) (w : Nat) (hw : w < nw) (x ch : Int) (hwet : ∀ d, d < 400 → M1 65 d = if wt x ch d = true then 1 else 0) : sx_R y_M_wetEnd (1, 0, 0) L xs [sx_p 51, .inl (w : Int)] (gm M1) (fun v h2 => v = some (.inl (wE (wr M x ch) (M 23 w).toNat (M (14 + w) 5).toNat)) ∧ h2 = gm M1) := by
  have w6 := hM.w6
  have c4 := hM.c4
  have b8 := hM.b8
  have r33 : 0 ≤ M 3 3 ∧ M 3 3 ≤ 200 := by (have := hM.dy.2.2.2; have := dy_le (dr M) 200; omega)
  refine sx_enter rfl (Nat.le_of_ble_eq_true rfl) rfl ?_
  show sx_V y_M_wetEnd (1, 0, 0) L xs (0, 0) 0 [some (sx_p 51), some (.inl (w : Int)), none, none, none] [] (gm M1) _
  refine sx_aload_n d_M_wetEnd_0 rfl ?_
  refine sx_iload_n d_M_wetEnd_1 rfl ?_
  refine sx_callV (c_M_do M nc nw nb hM M1 M1s M1R w (by omega)) d_M_wetEnd_2 cd_M_daysOf lk_M_198 im_M_daysOf se_M_daysOf (go rfl rfl rfl) rfl rfl (by decide) (st := []) rfl rfl (Nat.le_of_ble_eq_true rfl) ⟨by decide, Nat.le_refl _, Nat.le_refl _⟩ (fun _ _ hq => ?_)
  obtain ⟨rfl, rfl⟩ := hq
  show sx_V _ _ _ _ (0, 0) _ _ [.inl (M (14 + w) 5)] (gm M1) _
  refine sx_istore_n (l' := [some (sx_p 51), some (.inl (w : Int)), some (.inl (M (14 + w) 5)), none, none]) d_M_wetEnd_5 (by decide) rfl rfl ?_
  refine sx_aload_n d_M_wetEnd_6 rfl ?_
  refine sx_getR (r := some (67)) d_M_wetEnd_7 fl_M_56 (go rfl rfl rfl) (by decide) (by decide) (by decide) rfl ?_
  refine sx_iload_n d_M_wetEnd_10 rfl ?_
  refine sx_iald (z := (M 23 w)) d_M_wetEnd_11 (go rfl rfl rfl) (by omega) (by omega) (by decide) ((M1s 67 w (by decide) (by decide) (by omega)).trans (hM.mst (by omega) w (by omega)).1) ?_
  refine sx_istore_n (l' := [some (sx_p 51), some (.inl (w : Int)), some (.inl (M (14 + w) 5)), some (.inl (M 23 w)), none]) d_M_wetEnd_12 (by decide) rfl rfl ?_
  have nq := (hM.ws w hw).1.need
  have hpw := (hM.pl h7 w hw).1
  have q := l_M_wet (L := L) (xs := xs) M nc nw nb hM M1 M1s M1R h7 w hw x ch hwet 1000 (M 23 w).toNat (M (14 + w) 5) none (by omega) (by omega) (by omega) (Nat.le_refl _) (by omega) (Or.inl (by omega))
  rw [show (((M 23 w).toNat : Nat) : Int) = M 23 w by omega] at q
  exact q
