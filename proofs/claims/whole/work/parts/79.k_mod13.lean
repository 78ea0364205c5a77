theorem wE_r {r : Nat → Bool} (hr : ∀ d, 400 ≤ d → r d = false) {s n : Nat} (hs : s ≤ 99) (hn : n ≤ 200) : 0 ≤ wE r s n ∧ wE r s n ≤ 1000 := by
  have h := dn_ok hr (dy_b r s + n - 1)
  have h1 := dy_ge hr (dn r (dy_b r s + n - 1))
  have h2 := dy_le r s
  unfold wE
  omega
theorem odP_s {M : Nat → Nat → Int} {x ch T : Int} {i : Nat} : odP M (i + 1) x ch T ↔ odP M i x ch T ∧ wE (wr M x ch) (M 23 i).toNat (M (14 + i) 5).toNat ≤ T := by
  unfold odP
  constructor
  · intro h
    exact ⟨fun j hj => h j (by omega), h i (by omega)⟩
  · rintro ⟨h1, h2⟩ j hj
    by_cases e : j = i
    · subst e; exact h2
    · exact h1 j (by omega)
set_option maxRecDepth 100000 in
set_option maxHeartbeats 4000000 in
theorem m_odds_bad {L : Nat} {xs : Nat → Int32} (M : Nat → Nat → Int) (nc nw nb : Nat) (hM : MR M nc nw nb) (M1 : Nat → Nat → Int) (M1s : sf M M1) (M1R : IR M1) (day dw ch x : Int) (hday : sx_r day) (hdw : sx_r dw) (hch : sx_r ch) (hx : sx_r x) (hbd : ¬ (M 1 7 ≠ 0 ∧ 0 ≤ day ∧ 1 ≤ dw ∧ dw ≤ 50 ∧ 0 ≤ ch ∧ ch ≤ 90)) : sx_R y_M_odds (1, 0, 0) L xs [sx_p 51, .inl day, .inl dw, .inl ch, .inl x] (gm M1) (fun v h2 => v = some (.inl (-1)) ∧ h2 = gm M1) := by
  have w6 := hM.w6
  have c4 := hM.c4
  have b8 := hM.b8
  have r33 : 0 ≤ M 3 3 ∧ M 3 3 ≤ 200 := by (have := hM.dy.2.2.2; have := dy_le (dr M) 200; omega)
  refine sx_enter rfl (Nat.le_of_ble_eq_true rfl) rfl ?_
  show sx_V y_M_odds (1, 0, 0) L xs (0, 0) 0 [some (sx_p 51), some (.inl day), some (.inl dw), some (.inl ch), some (.inl x), none, none, none, none, none] [] (gm M1) _
  refine sx_aload_n d_M_odds_0 rfl ?_
  refine sx_getI (z := (M 1 7)) d_M_odds_1 fl_M_99 (go rfl rfl rfl) (by decide) (by decide) (by decide) ((M1s 51 19 (by decide) (by decide) (by omega)).trans hM.mha) ?_
  refine sx_if_eq (tgt := 31) d_M_odds_4 (by decide) (by first | omega | exact hM.ir _ _) (fun c4_11 => ?_) (fun c4_11 => ?_)
  · refine sx_iconst d_M_odds_31 ?_
    refine sx_retI d_M_odds_32 (Or.inl rfl) ⟨Nat.zero_le _, Nat.zero_le _⟩ ?_
    exact ⟨rfl, rfl⟩
  · refine sx_iload_n d_M_odds_7 rfl ?_
    refine sx_if_lt (tgt := 31) d_M_odds_8 (by decide) (by first | omega | exact hM.ir _ _) (fun c8_16 => ?_) (fun c8_16 => ?_)
    · refine sx_iconst d_M_odds_31 ?_
      refine sx_retI d_M_odds_32 (Or.inl rfl) ⟨Nat.zero_le _, Nat.zero_le _⟩ ?_
      exact ⟨rfl, rfl⟩
    · refine sx_iload_n d_M_odds_11 rfl ?_
      refine sx_iconst d_M_odds_12 ?_
      refine sx_bipush d_M_odds_13 (by decide) ?_
      refine sx_callS (c_M_within M1 dw 1 50 (by omega) (by omega) (by omega)) d_M_odds_15 cd_M_within lk_M_103 st_M_within (st := []) rfl rfl (Nat.le_of_ble_eq_true rfl) ⟨by decide, Nat.le_refl _, Nat.le_refl _⟩ (fun _ _ hq => ?_)
      obtain ⟨z158, rfl, z158b, z158i, rfl⟩ := hq
      show sx_V _ _ _ _ (0, 0) _ _ [.inl z158] (gm M1) _
      refine sx_if_eq (tgt := 31) d_M_odds_18 (by decide) (by first | omega | exact hM.ir _ _) (fun c18_26 => ?_) (fun c18_26 => ?_)
      · refine sx_iconst d_M_odds_31 ?_
        refine sx_retI d_M_odds_32 (Or.inl rfl) ⟨Nat.zero_le _, Nat.zero_le _⟩ ?_
        exact ⟨rfl, rfl⟩
      · refine sx_iload_n d_M_odds_21 rfl ?_
        refine sx_iconst d_M_odds_22 ?_
        refine sx_bipush d_M_odds_23 (by decide) ?_
        refine sx_callS (c_M_within M1 ch 0 90 (by omega) (by omega) (by omega)) d_M_odds_25 cd_M_within lk_M_103 st_M_within (st := []) rfl rfl (Nat.le_of_ble_eq_true rfl) ⟨by decide, Nat.le_refl _, Nat.le_refl _⟩ (fun _ _ hq => ?_)
        obtain ⟨z159, rfl, z159b, z159i, rfl⟩ := hq
        show sx_V _ _ _ _ (0, 0) _ _ [.inl z159] (gm M1) _
        refine sx_if_ne (tgt := 33) d_M_odds_28 (by decide) (by first | omega | exact hM.ir _ _) (fun c28_36 => ?_) (fun c28_36 => ?_)
        · omega
        · refine sx_iconst d_M_odds_31 ?_
          refine sx_retI d_M_odds_32 (Or.inl rfl) ⟨Nat.zero_le _, Nat.zero_le _⟩ ?_
          exact ⟨rfl, rfl⟩
set_option maxRecDepth 100000 in
set_option maxHeartbeats 4000000 in
theorem l_M_od1 {L : Nat} {xs : Nat → Int32} (M : Nat → Nat → Int) (nc nw nb : Nat) (hM : MR M nc nw nb) (M1 : Nat → Nat → Int) (M1s : sf M M1) (M1R : IR M1) (h7 : M 1 7 ≠ 0) (day : Int) (hday : sx_r day) (h0 : 0 ≤ day) (dw : Nat) (hdw : dw ≤ 50) (ch x : Int) (hch : sx_r ch) (hx : sx_r x) (X cnt kk : Int) (hX : sx_r X) (x9 : Option sx_v) (post : Option sx_v → sx_h → Prop) (hc : ∀ (M3 : Nat → Nat → Int) (x8 x9 : Option sx_v), mq M1 M3 → sf M M3 → IR M3 → (∀ j, j < 400 → M3 65 j = if wt X ch j = true then 1 else 0) → sx_V y_M_odds (2, 0, 0) L xs (0, 0) 104 [some (sx_p 51), some (.inl day), some (.inl (dw : Int)), some (.inl ch), some (.inl x), some (.inl (lcg X 400)), some (.inl (cnt)), some (.inl (kk)), some (.inl (400 : Int)), x9] [] (gm M3) post) : ∀ (n d : Nat) (M2 : Nat → Nat → Int), 400 - d < n → d ≤ 400 → mq M1 M2 → sf M M2 → IR M2 → (∀ j, j < d → M2 65 j = if wt X ch j = true then 1 else 0) → sx_V y_M_odds (2, 0, 0) L xs (0, 0) 52 [some (sx_p 51), some (.inl day), some (.inl (dw : Int)), some (.inl ch), some (.inl x), some (.inl (lcg X d)), some (.inl cnt), some (.inl kk), some (.inl (d : Int)), x9] [] (gm M2) (post) := by
  intro n
  induction n with
  | zero => intro d M2 h1 h2; omega
  | succ n ih =>
    intro d M2 hn hd M2q M2s M2R hwt
    refine sx_iload d_M_odds_52 rfl ?_
    refine sx_sipush d_M_odds_54 (by decide) ?_
    refine sx_icmp_ge (tgt := 104) d_M_odds_57 (by decide) (by first | omega | exact nx_r (lcg X d) | exact td_r (nx_r (lcg X d)) | exact tm_r _) ⟨by decide, by decide⟩ (fun c57_10 => ?_) (fun c57_10 => ?_)
    · have e0 : d = 400 := by omega
      subst e0
      exact hc M2 none x9 M2q M2s M2R hwt
    · refine sx_iload d_M_odds_60 rfl ?_
      refine sx_ldc (n := 1103515245) d_M_odds_62 tw_991 ?_
      refine sx_imul d_M_odds_64 ?_
      refine sx_sipush d_M_odds_65 (by decide) ?_
      refine sx_iadd d_M_odds_68 ?_
      refine sx_ldc (n := 2147483647) d_M_odds_69 tw_992 ?_
      refine sx_iand d_M_odds_71 ?_
      refine sx_istore (l' := [some (sx_p 51), some (.inl day), some (.inl (dw : Int)), some (.inl ch), some (.inl x), some (.inl (Int32.ofInt (((lcg X d) * 1103515245) + 12345) &&& Int32.ofInt 2147483647).toInt), some (.inl cnt), some (.inl kk), some (.inl (d : Int)), x9]) d_M_odds_72 (by decide) rfl rfl ?_
      refine sx_aload_n d_M_odds_74 rfl ?_
      refine sx_getR (r := some (65)) d_M_odds_75 fl_M_50 (go rfl rfl rfl) (by decide) (by decide) (by decide) rfl ?_
      refine sx_iload d_M_odds_78 rfl ?_
      refine sx_iload d_M_odds_80 rfl ?_
      refine sx_ldc (n := 65536) d_M_odds_82 tw_993 ?_
      refine sx_idiv d_M_odds_84 (by first | omega | exact nx_r (lcg X d) | exact td_r (nx_r (lcg X d)) | exact tm_r _) ⟨by decide, by decide⟩ (by omega) ?_
      refine sx_bipush d_M_odds_85 (by decide) ?_
      refine sx_irem d_M_odds_87 (by first | omega | exact nx_r (lcg X d) | exact td_r (nx_r (lcg X d)) | exact tm_r _) ⟨by decide, by decide⟩ (by omega) ?_
      refine sx_iload_n d_M_odds_88 rfl ?_
      refine sx_icmp_ge (tgt := 96) d_M_odds_89 (by decide) (by first | omega | exact nx_r (lcg X d) | exact td_r (nx_r (lcg X d)) | exact tm_r _) (by first | omega | exact nx_r (lcg X d) | exact td_r (nx_r (lcg X d)) | exact tm_r _) (fun c89_31 => ?_) (fun c89_31 => ?_)
      · refine sx_iconst d_M_odds_96 ?_
        refine sx_zast (h2 := gm (sx_u M2 65 d 0)) d_M_odds_97 (go rfl rfl rfl) (by omega) (by omega) (by decide) (Or.inl rfl) rfl ?_
        refine sx_iinc (l' := [some (sx_p 51), some (.inl day), some (.inl (dw : Int)), some (.inl ch), some (.inl x), some (.inl (Int32.ofInt (((lcg X d) * 1103515245) + 12345) &&& Int32.ofInt 2147483647).toInt), some (.inl cnt), some (.inl kk), some (.inl ((d : Int) + 1)), x9]) d_M_odds_98 rfl (by decide) rfl rfl ?_
        refine sx_goto (tgt := 52) d_M_odds_101 (by decide) ?_
        have e1 : ((d : Int) + 1) = ((d + 1 : Nat) : Int) := by omega
        have e2 : (Int32.ofInt (((lcg X d) * 1103515245) + 12345) &&& Int32.ofInt 2147483647).toInt = lcg X (d + 1) := rfl
        rw [e1, e2]
        refine ih (d + 1) _ (by omega) (by omega) (fun a k q1 q2 => by rw [sx_u_ne q2]; exact M2q a k q1 q2) (fun a k q1 q2 q3 => by rw [sx_u_ne q2]; exact M2s a k q1 q2 q3) (M2R.u _ _ (by omega)) (fun j hj => ?_)
        by_cases q : j = d
        · subst q; rw [sx_us]; first | exact (if_pos (show wt X ch j = true from decide_eq_true (by assumption))).symm | exact (if_neg (fun z => absurd (of_decide_eq_true z) (Int.not_lt.mpr (by assumption)))).symm
        · rw [sx_uk q]; exact hwt j (by omega)
      · refine sx_iconst d_M_odds_92 ?_
        refine sx_goto (tgt := 97) d_M_odds_93 (by decide) ?_
        refine sx_zast (h2 := gm (sx_u M2 65 d 1)) d_M_odds_97 (go rfl rfl rfl) (by omega) (by omega) (by decide) (Or.inr rfl) rfl ?_
        refine sx_iinc (l' := [some (sx_p 51), some (.inl day), some (.inl (dw : Int)), some (.inl ch), some (.inl x), some (.inl (Int32.ofInt (((lcg X d) * 1103515245) + 12345) &&& Int32.ofInt 2147483647).toInt), some (.inl cnt), some (.inl kk), some (.inl ((d : Int) + 1)), x9]) d_M_odds_98 rfl (by decide) rfl rfl ?_
        refine sx_goto (tgt := 52) d_M_odds_101 (by decide) ?_
        have e1 : ((d : Int) + 1) = ((d + 1 : Nat) : Int) := by omega
        have e2 : (Int32.ofInt (((lcg X d) * 1103515245) + 12345) &&& Int32.ofInt 2147483647).toInt = lcg X (d + 1) := rfl
        rw [e1, e2]
        refine ih (d + 1) _ (by omega) (by omega) (fun a k q1 q2 => by rw [sx_u_ne q2]; exact M2q a k q1 q2) (fun a k q1 q2 q3 => by rw [sx_u_ne q2]; exact M2s a k q1 q2 q3) (M2R.u _ _ (by omega)) (fun j hj => ?_)
        by_cases q : j = d
        · subst q; rw [sx_us]; first | exact (if_pos (show wt X ch j = true from decide_eq_true (by assumption))).symm | exact (if_neg (fun z => absurd (of_decide_eq_true z) (Int.not_lt.mpr (by assumption)))).symm
        · rw [sx_uk q]; exact hwt j (by omega)
set_option maxRecDepth 100000 in
set_option maxHeartbeats 4000000 in
theorem l_M_od2 {L : Nat} {xs : Nat → Int32} (M : Nat → Nat → Int) (nc nw nb : Nat) (hM : MR M nc nw nb) (M1 : Nat → Nat → Int) (M1s : sf M M1) (M1R : IR M1) (h7 : M 1 7 ≠ 0) (day : Int) (hday : sx_r day) (h0 : 0 ≤ day) (dw : Nat) (hdw : dw ≤ 50) (ch x : Int) (hch : sx_r ch) (hx : sx_r x) (X st cnt kk : Int) (M2 : Nat → Nat → Int) (M2s : sf M M2) (M2R : IR M2) (hwt : (∀ j, j < 400 → M2 65 j = if wt X ch j = true then 1 else 0)) (post : Option sx_v → sx_h → Prop) (hc : ∀ (gd : Int), (gd = 0 ∨ gd = 1) → (gd = 1 ↔ odP M nw X ch day) → sx_V y_M_odds (2, 0, 0) L xs (0, 0) 147 [some (sx_p 51), some (.inl day), some (.inl (dw : Int)), some (.inl ch), some (.inl x), some (.inl (st)), some (.inl (cnt)), some (.inl (kk)), some (.inl gd), some (.inl (nw : Int))] [] (gm M2) post) : ∀ (n i : Nat) (gd : Int), nw - i < n → i ≤ nw → (gd = 0 ∨ gd = 1) → (gd = 1 ↔ odP M i X ch day) → sx_V y_M_odds (2, 0, 0) L xs (0, 0) 110 [some (sx_p 51), some (.inl day), some (.inl (dw : Int)), some (.inl ch), some (.inl x), some (.inl st), some (.inl cnt), some (.inl kk), some (.inl gd), some (.inl (i : Int))] [] (gm M2) (post) := by
  have w6 := hM.w6
  have c4 := hM.c4
  have b8 := hM.b8
  have r33 : 0 ≤ M 3 3 ∧ M 3 3 ≤ 200 := by (have := hM.dy.2.2.2; have := dy_le (dr M) 200; omega)
  intro n
  induction n with
  | zero => intro i gd h1 h2; omega
  | succ n ih =>
    intro i gd hn hi hg01 hgi
    refine sx_iload d_M_odds_110 rfl ?_
    refine sx_aload_n d_M_odds_112 rfl ?_
    refine sx_getI (z := (nw : Int)) d_M_odds_113 fl_M_95 (go rfl rfl rfl) (by decide) (by decide) (by decide) ((M2s 51 2 (by decide) (by decide) (by omega)).trans hM.mwn) ?_
    refine sx_icmp_ge (tgt := 147) d_M_odds_116 (by decide) (by omega) (by omega) (fun c116_15 => ?_) (fun c116_15 => ?_)
    · have e0 : i = nw := by omega
      subst e0
      exact hc gd hg01 hgi
    · refine sx_iload d_M_odds_119 rfl ?_
      refine sx_if_eq (tgt := 138) d_M_odds_121 (by decide) (by omega) (fun c121_20 => ?_) (fun c121_20 => ?_)
      · refine sx_iconst d_M_odds_138 ?_
        refine sx_istore (l' := [some (sx_p 51), some (.inl day), some (.inl (dw : Int)), some (.inl ch), some (.inl x), some (.inl st), some (.inl cnt), some (.inl kk), some (.inl 0), some (.inl (i : Int))]) d_M_odds_139 (by decide) rfl rfl ?_
        refine sx_iinc (l' := [some (sx_p 51), some (.inl day), some (.inl (dw : Int)), some (.inl ch), some (.inl x), some (.inl st), some (.inl cnt), some (.inl kk), some (.inl 0), some (.inl ((i : Int) + 1))]) d_M_odds_141 rfl (by decide) rfl rfl ?_
        refine sx_goto (tgt := 110) d_M_odds_144 (by decide) ?_
        have e1 : ((i : Int) + 1) = ((i + 1 : Nat) : Int) := by omega
        rw [e1]
        refine ih (i + 1) 0 (by omega) (by omega) (by omega) ?_
        rw [odP_s, ← hgi]
        omega
      · refine sx_aload_n d_M_odds_124 rfl ?_
        refine sx_iload d_M_odds_125 rfl ?_
        refine sx_callV (c_M_wet M nc nw nb hM M2 M2s M2R h7 i (by omega) X ch hwt) d_M_odds_127 cd_M_wetEnd lk_M_207 im_M_wetEnd se_M_wetEnd (go rfl rfl rfl) rfl rfl (by decide) (st := []) rfl rfl (Nat.le_of_ble_eq_true rfl) ⟨by decide, Nat.le_refl _, Nat.le_refl _⟩ (fun _ _ hq => ?_)
        obtain ⟨rfl, rfl⟩ := hq
        show sx_V _ _ _ _ (0, 0) _ _ [.inl (wE (wr M X ch) (M 23 i).toNat (M (14 + i) 5).toNat)] (gm M2) _
        have wer := wE_r (wr_far M X ch) (s := (M 23 i).toNat) (n := (M (14 + i) 5).toNat) (by have := (hM.pl h7 i (by omega)).1; omega) (by have := (hM.ws i (by omega)).1.need; omega)
        refine sx_iload_n d_M_odds_130 rfl ?_
        refine sx_icmp_gt (tgt := 138) d_M_odds_131 (by decide) (by omega) (by omega) (fun c131_37 => ?_) (fun c131_37 => ?_)
        · refine sx_iconst d_M_odds_138 ?_
          refine sx_istore (l' := [some (sx_p 51), some (.inl day), some (.inl (dw : Int)), some (.inl ch), some (.inl x), some (.inl st), some (.inl cnt), some (.inl kk), some (.inl 0), some (.inl (i : Int))]) d_M_odds_139 (by decide) rfl rfl ?_
          refine sx_iinc (l' := [some (sx_p 51), some (.inl day), some (.inl (dw : Int)), some (.inl ch), some (.inl x), some (.inl st), some (.inl cnt), some (.inl kk), some (.inl 0), some (.inl ((i : Int) + 1))]) d_M_odds_141 rfl (by decide) rfl rfl ?_
          refine sx_goto (tgt := 110) d_M_odds_144 (by decide) ?_
          have e1 : ((i : Int) + 1) = ((i + 1 : Nat) : Int) := by omega
          rw [e1]
          refine ih (i + 1) 0 (by omega) (by omega) (by omega) ?_
          rw [odP_s, ← hgi]
          omega
        · refine sx_iconst d_M_odds_134 ?_
          refine sx_goto (tgt := 139) d_M_odds_135 (by decide) ?_
          refine sx_istore (l' := [some (sx_p 51), some (.inl day), some (.inl (dw : Int)), some (.inl ch), some (.inl x), some (.inl st), some (.inl cnt), some (.inl kk), some (.inl 1), some (.inl (i : Int))]) d_M_odds_139 (by decide) rfl rfl ?_
          refine sx_iinc (l' := [some (sx_p 51), some (.inl day), some (.inl (dw : Int)), some (.inl ch), some (.inl x), some (.inl st), some (.inl cnt), some (.inl kk), some (.inl 1), some (.inl ((i : Int) + 1))]) d_M_odds_141 rfl (by decide) rfl rfl ?_
          refine sx_goto (tgt := 110) d_M_odds_144 (by decide) ?_
          have e1 : ((i : Int) + 1) = ((i + 1 : Nat) : Int) := by omega
          rw [e1]
          refine ih (i + 1) 1 (by omega) (by omega) (by omega) ?_
          rw [odP_s, ← hgi]
          omega
set_option maxRecDepth 100000 in
set_option maxHeartbeats 4000000 in
theorem l_M_od {L : Nat} {xs : Nat → Int32} (M : Nat → Nat → Int) (nc nw nb : Nat) (hM : MR M nc nw nb) (M1 : Nat → Nat → Int) (M1s : sf M M1) (M1R : IR M1) (h7 : M 1 7 ≠ 0) (day : Int) (hday : sx_r day) (h0 : 0 ≤ day) (dw : Nat) (hdw : dw ≤ 50) (ch x : Int) (hch : sx_r ch) (hx : sx_r x) : ∀ (n i : Nat) (x8 x9 : Option sx_v) (M2 : Nat → Nat → Int), dw - i < n → i ≤ dw → mq M1 M2 → sf M M2 → IR M2 → sx_V y_M_odds (2, 0, 0) L xs (0, 0) 43 [some (sx_p 51), some (.inl day), some (.inl (dw : Int)), some (.inl ch), some (.inl x), some (.inl (sd x i)), some (.inl (sm (fun k => b01 (odP M nw (sd x k) ch day)) i)), some (.inl (i : Int)), x8, x9] [] (gm M2) (fun v h2 => v = some (.inl (sm (fun k => b01 (odP M nw (sd x k) ch day)) dw)) ∧ ∃ M2, h2 = gm M2 ∧ mq M1 M2 ∧ IR M2) := by
  have w6 := hM.w6
  have c4 := hM.c4
  have b8 := hM.b8
  have r33 : 0 ≤ M 3 3 ∧ M 3 3 ≤ 200 := by (have := hM.dy.2.2.2; have := dy_le (dr M) 200; omega)
  intro n
  induction n with
  | zero => intro i x8 x9 M2 h1 h2; omega
  | succ n ih =>
    intro i x8 x9 M2 hn hi M2q M2s M2R
    have smq := sm_r2 (f := (fun k => b01 (odP M nw (sd x k) ch day))) (c := 1) i (fun j _ => b01_r _)
    refine sx_iload d_M_odds_43 rfl ?_
    refine sx_iload_n d_M_odds_45 rfl ?_
    refine sx_icmp_ge (tgt := 168) d_M_odds_46 (by decide) (by omega) (by omega) (fun c46_15 => ?_) (fun c46_15 => ?_)
    · refine sx_iload d_M_odds_168 rfl ?_
      refine sx_retI d_M_odds_170 (Or.inl rfl) ⟨Nat.zero_le _, Nat.zero_le _⟩ ?_
      have e0 : i = dw := by omega
      subst e0
      exact ⟨rfl, M2, rfl, M2q, M2R⟩
    · refine sx_iconst d_M_odds_49 ?_
      refine sx_istore (l' := [some (sx_p 51), some (.inl day), some (.inl (dw : Int)), some (.inl ch), some (.inl x), some (.inl (sd x i)), some (.inl (sm (fun k => b01 (odP M nw (sd x k) ch day)) i)), some (.inl (i : Int)), some (.inl 0), x9]) d_M_odds_50 (by decide) rfl rfl ?_
      refine l_M_od1 M nc nw nb hM M1 M1s M1R h7 day hday h0 dw hdw ch x hch hx (sd x i) _ _ (sd_r hx i) x9 _ (fun M3 x8b x9 q1 q2 q3 q4 => ?_) 401 0 M2 (by omega) (by omega) M2q M2s M2R (fun j hj => absurd hj (Nat.not_lt_zero _))
      refine sx_iconst d_M_odds_104 ?_
      refine sx_istore (l' := [some (sx_p 51), some (.inl day), some (.inl (dw : Int)), some (.inl ch), some (.inl x), some (.inl (lcg (sd x i) 400)), some (.inl (sm (fun k => b01 (odP M nw (sd x k) ch day)) i)), some (.inl (i : Int)), some (.inl 1), x9]) d_M_odds_105 (by decide) rfl rfl ?_
      refine sx_iconst d_M_odds_107 ?_
      refine sx_istore (l' := [some (sx_p 51), some (.inl day), some (.inl (dw : Int)), some (.inl ch), some (.inl x), some (.inl (lcg (sd x i) 400)), some (.inl (sm (fun k => b01 (odP M nw (sd x k) ch day)) i)), some (.inl (i : Int)), some (.inl 1), some (.inl 0)]) d_M_odds_108 (by decide) rfl rfl ?_
      refine l_M_od2 M nc nw nb hM M1 M1s M1R h7 day hday h0 dw hdw ch x hch hx (sd x i) _ _ _ M3 q2 q3 q4 _ (fun gd hg01 hgi => ?_) (nw + 1) 0 1 (by omega) (by omega) (Or.inr rfl) ⟨fun _ j hj => absurd hj (Nat.not_lt_zero _), fun _ => rfl⟩
      refine sx_iload d_M_odds_147 rfl ?_
      refine sx_iload d_M_odds_149 rfl ?_
      refine sx_if_eq (tgt := 158) d_M_odds_151 (by decide) (by omega) (fun c151_2 => ?_) (fun c151_2 => ?_)
      · refine sx_iconst d_M_odds_158 ?_
        refine sx_iadd d_M_odds_159 ?_
        refine sx_istore (l' := [some (sx_p 51), some (.inl day), some (.inl (dw : Int)), some (.inl ch), some (.inl x), some (.inl (lcg (sd x i) 400)), some (.inl ((sm (fun k => b01 (odP M nw (sd x k) ch day)) i) + 0)), some (.inl (i : Int)), some (.inl gd), some (.inl (nw : Int))]) d_M_odds_160 (by decide) rfl rfl ?_
        refine sx_iinc (l' := [some (sx_p 51), some (.inl day), some (.inl (dw : Int)), some (.inl ch), some (.inl x), some (.inl (lcg (sd x i) 400)), some (.inl ((sm (fun k => b01 (odP M nw (sd x k) ch day)) i) + 0)), some (.inl ((i : Int) + 1)), some (.inl gd), some (.inl (nw : Int))]) d_M_odds_162 rfl (by decide) rfl rfl ?_
        refine sx_goto (tgt := 43) d_M_odds_165 (by decide) ?_
        have e1 : ((i : Int) + 1) = ((i + 1 : Nat) : Int) := by omega
        have e2 : ((sm (fun k => b01 (odP M nw (sd x k) ch day)) i) + 0) = sm (fun k => b01 (odP M nw (sd x k) ch day)) (i + 1) := by (show _ = sm (fun k => b01 (odP M nw (sd x k) ch day)) i + b01 _; rw [b01_f (fun q => by have := hgi.mpr q; omega)])
        rw [e1, e2]
        exact ih (i + 1) _ _ M3 (by omega) (by omega) q1 q2 q3
      · refine sx_iconst d_M_odds_154 ?_
        refine sx_goto (tgt := 159) d_M_odds_155 (by decide) ?_
        refine sx_iadd d_M_odds_159 ?_
        refine sx_istore (l' := [some (sx_p 51), some (.inl day), some (.inl (dw : Int)), some (.inl ch), some (.inl x), some (.inl (lcg (sd x i) 400)), some (.inl ((sm (fun k => b01 (odP M nw (sd x k) ch day)) i) + 1)), some (.inl (i : Int)), some (.inl gd), some (.inl (nw : Int))]) d_M_odds_160 (by decide) rfl rfl ?_
        refine sx_iinc (l' := [some (sx_p 51), some (.inl day), some (.inl (dw : Int)), some (.inl ch), some (.inl x), some (.inl (lcg (sd x i) 400)), some (.inl ((sm (fun k => b01 (odP M nw (sd x k) ch day)) i) + 1)), some (.inl ((i : Int) + 1)), some (.inl gd), some (.inl (nw : Int))]) d_M_odds_162 rfl (by decide) rfl rfl ?_
        refine sx_goto (tgt := 43) d_M_odds_165 (by decide) ?_
        have e1 : ((i : Int) + 1) = ((i + 1 : Nat) : Int) := by omega
        have e2 : ((sm (fun k => b01 (odP M nw (sd x k) ch day)) i) + 1) = sm (fun k => b01 (odP M nw (sd x k) ch day)) (i + 1) := by (show _ = sm (fun k => b01 (odP M nw (sd x k) ch day)) i + b01 _; rw [b01_t (hgi.mp (by omega))])
        rw [e1, e2]
        exact ih (i + 1) _ _ M3 (by omega) (by omega) q1 q2 q3
set_option maxRecDepth 100000 in
set_option maxHeartbeats 4000000 in
theorem m_odds_ok {L : Nat} {xs : Nat → Int32} (M : Nat → Nat → Int) (nc nw nb : Nat) (hM : MR M nc nw nb) (M1 : Nat → Nat → Int) (M1s : sf M M1) (M1R : IR M1) (h7 : M 1 7 ≠ 0) (day : Int) (hday : sx_r day) (h0 : 0 ≤ day) (dw : Nat) (hdw : dw ≤ 50) (ch x : Int) (hch : sx_r ch) (hx : sx_r x) (hg : 1 ≤ dw ∧ 0 ≤ ch ∧ ch ≤ 90) : sx_R y_M_odds (2, 0, 0) L xs [sx_p 51, .inl day, .inl (dw : Int), .inl ch, .inl x] (gm M1) (fun v h2 => v = some (.inl (sm (fun k => b01 (odP M nw (sd x k) ch day)) dw)) ∧ ∃ M2, h2 = gm M2 ∧ mq M1 M2 ∧ IR M2) := by
  have w6 := hM.w6
  have c4 := hM.c4
  have b8 := hM.b8
  have r33 : 0 ≤ M 3 3 ∧ M 3 3 ≤ 200 := by (have := hM.dy.2.2.2; have := dy_le (dr M) 200; omega)
  refine sx_enter rfl (Nat.le_of_ble_eq_true rfl) rfl ?_
  show sx_V y_M_odds (2, 0, 0) L xs (0, 0) 0 [some (sx_p 51), some (.inl day), some (.inl (dw : Int)), some (.inl ch), some (.inl x), none, none, none, none, none] [] (gm M1) _
  refine sx_aload_n d_M_odds_0 rfl ?_
  refine sx_getI (z := (M 1 7)) d_M_odds_1 fl_M_99 (go rfl rfl rfl) (by decide) (by decide) (by decide) ((M1s 51 19 (by decide) (by decide) (by omega)).trans hM.mha) ?_
  refine sx_if_eq (tgt := 31) d_M_odds_4 (by decide) (by first | omega | exact hM.ir _ _) (fun c4_11 => ?_) (fun c4_11 => ?_)
  · omega
  · refine sx_iload_n d_M_odds_7 rfl ?_
    refine sx_if_lt (tgt := 31) d_M_odds_8 (by decide) (by first | omega | exact hM.ir _ _) (fun c8_14 => ?_) (fun c8_14 => ?_)
    · omega
    · refine sx_iload_n d_M_odds_11 rfl ?_
      refine sx_iconst d_M_odds_12 ?_
      refine sx_bipush d_M_odds_13 (by decide) ?_
      refine sx_callS (c_M_within M1 (dw : Int) 1 50 (by omega) (by omega) (by omega)) d_M_odds_15 cd_M_within lk_M_103 st_M_within (st := []) rfl rfl (Nat.le_of_ble_eq_true rfl) ⟨by decide, Nat.le_refl _, Nat.le_refl _⟩ (fun _ _ hq => ?_)
      obtain ⟨z160, rfl, z160b, z160i, rfl⟩ := hq
      show sx_V _ _ _ _ (0, 0) _ _ [.inl z160] (gm M1) _
      refine sx_if_eq (tgt := 31) d_M_odds_18 (by decide) (by first | omega | exact hM.ir _ _) (fun c18_22 => ?_) (fun c18_22 => ?_)
      · omega
      · refine sx_iload_n d_M_odds_21 rfl ?_
        refine sx_iconst d_M_odds_22 ?_
        refine sx_bipush d_M_odds_23 (by decide) ?_
        refine sx_callS (c_M_within M1 ch 0 90 (by omega) (by omega) (by omega)) d_M_odds_25 cd_M_within lk_M_103 st_M_within (st := []) rfl rfl (Nat.le_of_ble_eq_true rfl) ⟨by decide, Nat.le_refl _, Nat.le_refl _⟩ (fun _ _ hq => ?_)
        obtain ⟨z161, rfl, z161b, z161i, rfl⟩ := hq
        show sx_V _ _ _ _ (0, 0) _ _ [.inl z161] (gm M1) _
        refine sx_if_ne (tgt := 33) d_M_odds_28 (by decide) (by first | omega | exact hM.ir _ _) (fun c28_30 => ?_) (fun c28_30 => ?_)
        · refine sx_iload d_M_odds_33 rfl ?_
          refine sx_istore (l' := [some (sx_p 51), some (.inl day), some (.inl (dw : Int)), some (.inl ch), some (.inl x), some (.inl x), none, none, none, none]) d_M_odds_35 (by decide) rfl rfl ?_
          refine sx_iconst d_M_odds_37 ?_
          refine sx_istore (l' := [some (sx_p 51), some (.inl day), some (.inl (dw : Int)), some (.inl ch), some (.inl x), some (.inl x), some (.inl 0), none, none, none]) d_M_odds_38 (by decide) rfl rfl ?_
          refine sx_iconst d_M_odds_40 ?_
          refine sx_istore (l' := [some (sx_p 51), some (.inl day), some (.inl (dw : Int)), some (.inl ch), some (.inl x), some (.inl x), some (.inl 0), some (.inl 0), none, none]) d_M_odds_41 (by decide) rfl rfl ?_
          exact l_M_od M nc nw nb hM M1 M1s M1R h7 day hday h0 dw hdw ch x hch hx (dw + 1) 0 none none M1 (by omega) (by omega) (fun _ _ _ _ => rfl) M1s M1R
        · omega
