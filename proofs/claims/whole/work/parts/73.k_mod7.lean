/-- what telling leaves in the reference -/
def chg (Ma M2 : Nat → Nat → Int) : Prop := (∀ a k, ¬ ((a = 69 ∨ a = 70 ∨ a = 71) ∧ k < 6) → M2 a k = sx_u Ma 51 19 0 a k) ∧ (∀ w, w < 6 → M2 69 w = 0 ∧ M2 70 w = 0 ∧ M2 71 w = 0) ∧ IR M2
set_option maxRecDepth 100000 in
set_option maxHeartbeats 4000000 in
theorem l_M_chg {L : Nat} {xs : Nat → Int32} (M : Nat → Nat → Int) : ∀ (n i : Nat) (M2 : Nat → Nat → Int), 6 - i < n → i ≤ 6 → (∀ a k, ¬ ((a = 69 ∨ a = 70 ∨ a = 71) ∧ k < 6) → M2 a k = M a k) → (∀ w, w < i → M2 69 w = 0 ∧ M2 70 w = 0 ∧ M2 71 w = 0) → IR M2 → sx_V y_M_changed (0, 0, 0) L xs (0, 0) 7 [some (sx_p 51), some (.inl (i : Int))] [] (gm M2) (fun v h2 => v = none ∧ ∃ M3, h2 = gm M3 ∧ (∀ a k, ¬ ((a = 69 ∨ a = 70 ∨ a = 71) ∧ k < 6) → M3 a k = M a k) ∧ (∀ w, w < 6 → M3 69 w = 0 ∧ M3 70 w = 0 ∧ M3 71 w = 0) ∧ IR M3) := by
  intro n
  induction n with
  | zero => intro i M2 h1 h2; omega
  | succ n ih =>
    intro i M2 hn hi hfr hz hR2
    refine sx_iload_n d_M_changed_7 rfl ?_
    refine sx_bipush d_M_changed_8 (by decide) ?_
    refine sx_icmp_ge (tgt := 40) d_M_changed_10 (by decide) (by omega) ⟨by decide, by decide⟩ (fun c10_10 => ?_) (fun c10_10 => ?_)
    · refine sx_retV d_M_changed_40 rfl ⟨Nat.zero_le _, Nat.zero_le _⟩ ?_
      have e0 : i = 6 := by omega
      subst e0
      exact ⟨rfl, M2, rfl, hfr, hz, hR2⟩
    · refine sx_aload_n d_M_changed_13 rfl ?_
      refine sx_getR (r := some (69)) d_M_changed_14 fl_M_62 (go rfl rfl rfl) (by decide) (by decide) (by decide) rfl ?_
      refine sx_iload_n d_M_changed_17 rfl ?_
      refine sx_iconst d_M_changed_18 ?_
      refine sx_zast (h2 := gm (sx_u M2 69 i 0)) d_M_changed_19 (go rfl rfl rfl) (by omega) (by omega) (by decide) (Or.inl rfl) rfl ?_
      refine sx_aload_n d_M_changed_20 rfl ?_
      refine sx_getR (r := some (70)) d_M_changed_21 fl_M_65 (go rfl rfl rfl) (by decide) (by decide) (by decide) rfl ?_
      refine sx_iload_n d_M_changed_24 rfl ?_
      refine sx_iconst d_M_changed_25 ?_
      refine sx_iast (h2 := gm (sx_u (sx_u M2 69 i 0) 70 i 0)) d_M_changed_26 (go rfl rfl rfl) (by omega) (by omega) (by decide) rfl ?_
      refine sx_aload_n d_M_changed_27 rfl ?_
      refine sx_getR (r := some (71)) d_M_changed_28 fl_M_68 (go rfl rfl rfl) (by decide) (by decide) (by decide) rfl ?_
      refine sx_iload_n d_M_changed_31 rfl ?_
      refine sx_iconst d_M_changed_32 ?_
      refine sx_zast (h2 := gm (sx_u (sx_u (sx_u M2 69 i 0) 70 i 0) 71 i 0)) d_M_changed_33 (go rfl rfl rfl) (by omega) (by omega) (by decide) (Or.inl rfl) rfl ?_
      refine sx_iinc (l' := [some (sx_p 51), some (.inl ((i : Int) + 1))]) d_M_changed_34 rfl (by decide) rfl rfl ?_
      refine sx_goto (tgt := 7) d_M_changed_37 (by decide) ?_
      have e1 : ((i : Int) + 1) = ((i + 1 : Nat) : Int) := by omega
      rw [e1]
      refine ih (i + 1) _ (by omega) (by omega) (fun a k h1 => by (have e9 : (sx_u (sx_u (sx_u M2 69 i 0) 70 i 0) 71 i 0) a k = M2 a k := (by unfold sx_u; rw [if_neg (by omega), if_neg (by omega), if_neg (by omega)])); rw [e9]; exact hfr a k h1) (fun j hj => ?_) (((hR2.u _ _ (by omega)).u _ _ (by omega)).u _ _ (by omega))
      by_cases q : j = i
      · subst q; refine ⟨?_, ?_, ?_⟩ <;> simp [sx_u]
      · rw [sx_uk q, sx_uk q, sx_uk q, sx_uk q, sx_uk q, sx_uk q, sx_uk q, sx_uk q, sx_uk q]; exact hz j (by omega)
set_option maxRecDepth 100000 in
set_option maxHeartbeats 4000000 in
theorem c_M_chg {L : Nat} {xs : Nat → Int32} (M : Nat → Nat → Int) (hR : IR M) : sx_R y_M_changed (0, 0, 0) L xs [sx_p 51] (gm M) (fun v h2 => v = none ∧ ∃ M3, h2 = gm M3 ∧ chg M M3) := by
  refine sx_enter rfl (Nat.le_of_ble_eq_true rfl) rfl ?_
  show sx_V y_M_changed (0, 0, 0) L xs (0, 0) 0 [some (sx_p 51), none] [] (gm M) _
  refine sx_aload_n d_M_changed_0 rfl ?_
  refine sx_iconst d_M_changed_1 ?_
  refine sx_putI (h2 := gm (sx_u M 51 19 0)) d_M_changed_2 fl_M_99 (go rfl rfl rfl) (by decide) (by decide) (by decide) (fun q hq => Or.inl (nf_M_19 q hq)) (Or.inr ⟨rfl, (Or.inl rfl)⟩) rfl ?_
  refine sx_iconst d_M_changed_5 ?_
  refine sx_istore_n (l' := [some (sx_p 51), some (.inl 0)]) d_M_changed_6 (by decide) rfl rfl ?_
  exact l_M_chg (sx_u M 51 19 0) 7 0 _ (by omega) (by omega) (fun _ _ _ => rfl) (fun _ h => absurd h (Nat.not_lt_zero _)) (hR.u _ _ (by omega))
set_option maxRecDepth 100000 in
set_option maxHeartbeats 4000000 in
theorem m_crew_bad {L : Nat} {xs : Nat → Int32} (M : Nat → Nat → Int) (nc nw nb : Nat) (hM : MR M nc nw nb) (M1 : Nat → Nat → Int) (M1s : sf M M1) (M1R : IR M1) (kd : Int) (hkd : sx_r kd) (hbd : ¬ (0 ≤ kd ∧ kd ≤ 3 ∧ nc < 4)) : sx_R y_M_crew (1, 0, 0) L xs [sx_p 51, .inl kd] (gm M1) (fun v h2 => v = some (.inl (-1)) ∧ h2 = gm M1) := by
  have w6 := hM.w6
  have c4 := hM.c4
  have b8 := hM.b8
  have r33 : 0 ≤ M 3 3 ∧ M 3 3 ≤ 200 := by (have := hM.dy.2.2.2; have := dy_le (dr M) 200; omega)
  refine sx_enter rfl (Nat.le_of_ble_eq_true rfl) rfl ?_
  show sx_V y_M_crew (1, 0, 0) L xs (0, 0) 0 [some (sx_p 51), some (.inl kd)] [] (gm M1) _
  refine sx_iload_n d_M_crew_0 rfl ?_
  refine sx_iconst d_M_crew_1 ?_
  refine sx_iconst d_M_crew_2 ?_
  refine sx_callS (c_M_within M1 kd 0 3 (by omega) (by omega) (by omega)) d_M_crew_3 cd_M_within lk_M_103 st_M_within (st := []) rfl rfl (Nat.le_of_ble_eq_true rfl) ⟨by decide, Nat.le_refl _, Nat.le_refl _⟩ (fun _ _ hq => ?_)
  obtain ⟨z90, rfl, z90b, z90i, rfl⟩ := hq
  show sx_V _ _ _ _ (0, 0) _ _ [.inl z90] (gm M1) _
  refine sx_if_eq (tgt := 17) d_M_crew_6 (by decide) (by first | omega | exact hM.ir _ _) (fun c6_15 => ?_) (fun c6_15 => ?_)
  · refine sx_iconst d_M_crew_17 ?_
    refine sx_retI d_M_crew_18 (Or.inl rfl) ⟨Nat.zero_le _, Nat.zero_le _⟩ ?_
    exact ⟨rfl, rfl⟩
  · refine sx_aload_n d_M_crew_9 rfl ?_
    refine sx_getI (z := (nc : Int)) d_M_crew_10 fl_M_107 (go rfl rfl rfl) (by decide) (by decide) (by decide) ((M1s 51 0 (by decide) (by decide) (by omega)).trans hM.mcn) ?_
    refine sx_iconst d_M_crew_13 ?_
    refine sx_icmp_ne (tgt := 19) d_M_crew_14 (by decide) (by first | omega | exact hM.ir _ _) ⟨by decide, by decide⟩ (fun c14_22 => ?_) (fun c14_22 => ?_)
    · omega
    · refine sx_iconst d_M_crew_17 ?_
      refine sx_retI d_M_crew_18 (Or.inl rfl) ⟨Nat.zero_le _, Nat.zero_le _⟩ ?_
      exact ⟨rfl, rfl⟩
set_option maxRecDepth 100000 in
set_option maxHeartbeats 4000000 in
theorem m_crew_ok {L : Nat} {xs : Nat → Int32} (M : Nat → Nat → Int) (nc nw nb : Nat) (hM : MR M nc nw nb) (M1 : Nat → Nat → Int) (M1s : sf M M1) (M1R : IR M1) (kd : Int) (hkd : sx_r kd) (hg : 0 ≤ kd ∧ kd ≤ 3 ∧ nc < 4) : sx_R y_M_crew (1, 0, 0) L xs [sx_p 51, .inl kd] (gm M1) (fun v h2 => v = some (.inl ((nc : Int))) ∧ ∃ M2, h2 = gm M2 ∧ chg (sx_u (sx_u M1 52 nc kd) 51 0 ((nc : Int) + 1)) M2) := by
  have w6 := hM.w6
  have c4 := hM.c4
  have b8 := hM.b8
  have r33 : 0 ≤ M 3 3 ∧ M 3 3 ≤ 200 := by (have := hM.dy.2.2.2; have := dy_le (dr M) 200; omega)
  refine sx_enter rfl (Nat.le_of_ble_eq_true rfl) rfl ?_
  show sx_V y_M_crew (1, 0, 0) L xs (0, 0) 0 [some (sx_p 51), some (.inl kd)] [] (gm M1) _
  refine sx_iload_n d_M_crew_0 rfl ?_
  refine sx_iconst d_M_crew_1 ?_
  refine sx_iconst d_M_crew_2 ?_
  refine sx_callS (c_M_within M1 kd 0 3 (by omega) (by omega) (by omega)) d_M_crew_3 cd_M_within lk_M_103 st_M_within (st := []) rfl rfl (Nat.le_of_ble_eq_true rfl) ⟨by decide, Nat.le_refl _, Nat.le_refl _⟩ (fun _ _ hq => ?_)
  obtain ⟨z91, rfl, z91b, z91i, rfl⟩ := hq
  show sx_V _ _ _ _ (0, 0) _ _ [.inl z91] (gm M1) _
  refine sx_if_eq (tgt := 17) d_M_crew_6 (by decide) (by first | omega | exact hM.ir _ _) (fun c6_15 => ?_) (fun c6_15 => ?_)
  · omega
  · refine sx_aload_n d_M_crew_9 rfl ?_
    refine sx_getI (z := (nc : Int)) d_M_crew_10 fl_M_107 (go rfl rfl rfl) (by decide) (by decide) (by decide) ((M1s 51 0 (by decide) (by decide) (by omega)).trans hM.mcn) ?_
    refine sx_iconst d_M_crew_13 ?_
    refine sx_icmp_ne (tgt := 19) d_M_crew_14 (by decide) (by first | omega | exact hM.ir _ _) ⟨by decide, by decide⟩ (fun c14_20 => ?_) (fun c14_20 => ?_)
    · refine sx_aload_n d_M_crew_19 rfl ?_
      refine sx_getR (r := some (52)) d_M_crew_20 fl_M_7 (go rfl rfl rfl) (by decide) (by decide) (by decide) rfl ?_
      refine sx_aload_n d_M_crew_23 rfl ?_
      refine sx_getI (z := (nc : Int)) d_M_crew_24 fl_M_107 (go rfl rfl rfl) (by decide) (by decide) (by decide) ((M1s 51 0 (by decide) (by decide) (by omega)).trans hM.mcn) ?_
      refine sx_iload_n d_M_crew_27 rfl ?_
      refine sx_iast (h2 := gm (sx_u M1 52 nc kd)) d_M_crew_28 (go rfl rfl rfl) (by omega) (by omega) (by decide) rfl ?_
      refine sx_aload_n d_M_crew_29 rfl ?_
      refine sx_dup rfl d_M_crew_30 ?_
      refine sx_getI (z := (nc : Int)) d_M_crew_31 fl_M_107 (go rfl rfl rfl) (by decide) (by decide) (by decide) ((M1s 51 0 (by decide) (by decide) (by omega)).trans hM.mcn) ?_
      refine sx_iconst d_M_crew_34 ?_
      refine sx_iadd d_M_crew_35 ?_
      refine sx_putI (h2 := gm (sx_u (sx_u M1 52 nc kd) 51 0 ((nc : Int) + 1))) d_M_crew_36 fl_M_107 (go rfl rfl rfl) (by decide) (by decide) (by decide) (fun q hq => Or.inl (nf_M_0 q hq)) (Or.inl rfl) rfl ?_
      refine sx_aload_n d_M_crew_39 rfl ?_
      refine sx_callV (c_M_chg (sx_u (sx_u M1 52 nc kd) 51 0 ((nc : Int) + 1)) (((M1R).u _ _ (by omega)).u _ _ (by omega))) d_M_crew_40 cd_M_changed lk_M_110 im_M_changed se_M_changed (go rfl rfl rfl) rfl rfl (by decide) (st := []) rfl rfl (Nat.le_of_ble_eq_true rfl) ⟨by decide, Nat.le_refl _, Nat.le_refl _⟩ (fun _ _ hq => ?_)
      obtain ⟨rfl, h1m, rfl, h1mg⟩ := hq
      show sx_V _ _ _ _ (0, 0) _ _ [] (gm h1m) _
      refine sx_aload_n d_M_crew_43 rfl ?_
      refine sx_getI (z := ((nc : Int) + 1)) d_M_crew_44 fl_M_107 (go rfl rfl rfl) (by decide) (by decide) (by decide) (((h1mg).1 51 0 (by omega)).trans rfl) ?_
      refine sx_iconst d_M_crew_47 ?_
      refine sx_isub d_M_crew_48 ?_
      refine sx_retI d_M_crew_49 (Or.inl rfl) ⟨Nat.zero_le _, Nat.zero_le _⟩ ?_
      refine ⟨?_, _, rfl, h1mg⟩
      first | rfl | (congr 2; omega)
    · omega
set_option maxRecDepth 100000 in
set_option maxHeartbeats 4000000 in
theorem m_after_bad {L : Nat} {xs : Nat → Int32} (M : Nat → Nat → Int) (nc nw nb : Nat) (hM : MR M nc nw nb) (M1 : Nat → Nat → Int) (M1s : sf M M1) (M1R : IR M1) (a b d : Int) (ha : sx_r a) (hb : sx_r b) (hd : sx_r d) (hbd : ¬ (0 ≤ a ∧ a < nw ∧ 0 ≤ b ∧ b < nw ∧ a ≠ b ∧ 0 ≤ d ∧ d ≤ 30)) : sx_R y_M_after (1, 0, 0) L xs [sx_p 51, .inl a, .inl b, .inl d] (gm M1) (fun v h2 => v = some (.inl (0)) ∧ h2 = gm M1) := by
  have w6 := hM.w6
  have c4 := hM.c4
  have b8 := hM.b8
  have r33 : 0 ≤ M 3 3 ∧ M 3 3 ≤ 200 := by (have := hM.dy.2.2.2; have := dy_le (dr M) 200; omega)
  refine sx_enter rfl (Nat.le_of_ble_eq_true rfl) rfl ?_
  show sx_V y_M_after (1, 0, 0) L xs (0, 0) 0 [some (sx_p 51), some (.inl a), some (.inl b), some (.inl d)] [] (gm M1) _
  refine sx_aload_n d_M_after_0 rfl ?_
  refine sx_iload_n d_M_after_1 rfl ?_
  refine sx_callV (c_M_isWork M nc nw nb hM M1 M1s a (by omega)) d_M_after_2 cd_M_isWork lk_M_113 im_M_isWork se_M_isWork (go rfl rfl rfl) rfl rfl (by decide) (st := []) rfl rfl (Nat.le_of_ble_eq_true rfl) ⟨by decide, Nat.le_refl _, Nat.le_refl _⟩ (fun _ _ hq => ?_)
  obtain ⟨z92, rfl, z92b, z92i, rfl⟩ := hq
  show sx_V _ _ _ _ (0, 0) _ _ [.inl z92] (gm M1) _
  refine sx_if_eq (tgt := 31) d_M_after_5 (by decide) (by first | omega | exact hM.ir _ _) (fun c5_14 => ?_) (fun c5_14 => ?_)
  · refine sx_iconst d_M_after_31 ?_
    refine sx_retI d_M_after_32 (Or.inr ⟨rfl, by first | exact Or.inl rfl | exact Or.inr rfl | omega⟩) ⟨Nat.zero_le _, Nat.zero_le _⟩ ?_
    exact ⟨rfl, rfl⟩
  · refine sx_aload_n d_M_after_8 rfl ?_
    refine sx_iload_n d_M_after_9 rfl ?_
    refine sx_callV (c_M_isWork M nc nw nb hM M1 M1s b (by omega)) d_M_after_10 cd_M_isWork lk_M_113 im_M_isWork se_M_isWork (go rfl rfl rfl) rfl rfl (by decide) (st := []) rfl rfl (Nat.le_of_ble_eq_true rfl) ⟨by decide, Nat.le_refl _, Nat.le_refl _⟩ (fun _ _ hq => ?_)
    obtain ⟨z93, rfl, z93b, z93i, rfl⟩ := hq
    show sx_V _ _ _ _ (0, 0) _ _ [.inl z93] (gm M1) _
    refine sx_if_eq (tgt := 31) d_M_after_13 (by decide) (by first | omega | exact hM.ir _ _) (fun c13_23 => ?_) (fun c13_23 => ?_)
    · refine sx_iconst d_M_after_31 ?_
      refine sx_retI d_M_after_32 (Or.inr ⟨rfl, by first | exact Or.inl rfl | exact Or.inr rfl | omega⟩) ⟨Nat.zero_le _, Nat.zero_le _⟩ ?_
      exact ⟨rfl, rfl⟩
    · refine sx_iload_n d_M_after_16 rfl ?_
      refine sx_iload_n d_M_after_17 rfl ?_
      refine sx_icmp_eq (tgt := 31) d_M_after_18 (by decide) (by first | omega | exact hM.ir _ _) (by first | omega | exact hM.ir _ _) (fun c18_29 => ?_) (fun c18_29 => ?_)
      · refine sx_iconst d_M_after_31 ?_
        refine sx_retI d_M_after_32 (Or.inr ⟨rfl, by first | exact Or.inl rfl | exact Or.inr rfl | omega⟩) ⟨Nat.zero_le _, Nat.zero_le _⟩ ?_
        exact ⟨rfl, rfl⟩
      · refine sx_iload_n d_M_after_21 rfl ?_
        refine sx_iconst d_M_after_22 ?_
        refine sx_bipush d_M_after_23 (by decide) ?_
        refine sx_callS (c_M_within M1 d 0 30 (by omega) (by omega) (by omega)) d_M_after_25 cd_M_within lk_M_103 st_M_within (st := []) rfl rfl (Nat.le_of_ble_eq_true rfl) ⟨by decide, Nat.le_refl _, Nat.le_refl _⟩ (fun _ _ hq => ?_)
        obtain ⟨z94, rfl, z94b, z94i, rfl⟩ := hq
        show sx_V _ _ _ _ (0, 0) _ _ [.inl z94] (gm M1) _
        refine sx_if_ne (tgt := 33) d_M_after_28 (by decide) (by first | omega | exact hM.ir _ _) (fun c28_39 => ?_) (fun c28_39 => ?_)
        · omega
        · refine sx_iconst d_M_after_31 ?_
          refine sx_retI d_M_after_32 (Or.inr ⟨rfl, by first | exact Or.inl rfl | exact Or.inr rfl | omega⟩) ⟨Nat.zero_le _, Nat.zero_le _⟩ ?_
          exact ⟨rfl, rfl⟩
set_option maxRecDepth 100000 in
set_option maxHeartbeats 4000000 in
theorem m_after_ok {L : Nat} {xs : Nat → Int32} (M : Nat → Nat → Int) (nc nw nb : Nat) (hM : MR M nc nw nb) (M1 : Nat → Nat → Int) (M1s : sf M M1) (M1R : IR M1) (a b : Nat) (d : Int) (hd : sx_r d) (hg : a < nw ∧ b < nw ∧ a ≠ b ∧ 0 ≤ d ∧ d ≤ 30) : sx_R y_M_after (1, 0, 0) L xs [sx_p 51, .inl (a : Int), .inl (b : Int), .inl d] (gm M1) (fun v h2 => v = some (.inl (1)) ∧ ∃ M2, h2 = gm M2 ∧ chg (sx_u M1 58 (Int.toNat ((6 * (a : Int)) + (b : Int))) d) M2) := by
  have w6 := hM.w6
  have c4 := hM.c4
  have b8 := hM.b8
  have r33 : 0 ≤ M 3 3 ∧ M 3 3 ≤ 200 := by (have := hM.dy.2.2.2; have := dy_le (dr M) 200; omega)
  refine sx_enter rfl (Nat.le_of_ble_eq_true rfl) rfl ?_
  show sx_V y_M_after (1, 0, 0) L xs (0, 0) 0 [some (sx_p 51), some (.inl (a : Int)), some (.inl (b : Int)), some (.inl d)] [] (gm M1) _
  refine sx_aload_n d_M_after_0 rfl ?_
  refine sx_iload_n d_M_after_1 rfl ?_
  refine sx_callV (c_M_isWork M nc nw nb hM M1 M1s (a : Int) (by omega)) d_M_after_2 cd_M_isWork lk_M_113 im_M_isWork se_M_isWork (go rfl rfl rfl) rfl rfl (by decide) (st := []) rfl rfl (Nat.le_of_ble_eq_true rfl) ⟨by decide, Nat.le_refl _, Nat.le_refl _⟩ (fun _ _ hq => ?_)
  obtain ⟨z95, rfl, z95b, z95i, rfl⟩ := hq
  show sx_V _ _ _ _ (0, 0) _ _ [.inl z95] (gm M1) _
  refine sx_if_eq (tgt := 31) d_M_after_5 (by decide) (by first | omega | exact hM.ir _ _) (fun c5_14 => ?_) (fun c5_14 => ?_)
  · omega
  · refine sx_aload_n d_M_after_8 rfl ?_
    refine sx_iload_n d_M_after_9 rfl ?_
    refine sx_callV (c_M_isWork M nc nw nb hM M1 M1s (b : Int) (by omega)) d_M_after_10 cd_M_isWork lk_M_113 im_M_isWork se_M_isWork (go rfl rfl rfl) rfl rfl (by decide) (st := []) rfl rfl (Nat.le_of_ble_eq_true rfl) ⟨by decide, Nat.le_refl _, Nat.le_refl _⟩ (fun _ _ hq => ?_)
    obtain ⟨z96, rfl, z96b, z96i, rfl⟩ := hq
    show sx_V _ _ _ _ (0, 0) _ _ [.inl z96] (gm M1) _
    refine sx_if_eq (tgt := 31) d_M_after_13 (by decide) (by first | omega | exact hM.ir _ _) (fun c13_21 => ?_) (fun c13_21 => ?_)
    · omega
    · refine sx_iload_n d_M_after_16 rfl ?_
      refine sx_iload_n d_M_after_17 rfl ?_
      refine sx_icmp_eq (tgt := 31) d_M_after_18 (by decide) (by first | omega | exact hM.ir _ _) (by first | omega | exact hM.ir _ _) (fun c18_25 => ?_) (fun c18_25 => ?_)
      · omega
      · refine sx_iload_n d_M_after_21 rfl ?_
        refine sx_iconst d_M_after_22 ?_
        refine sx_bipush d_M_after_23 (by decide) ?_
        refine sx_callS (c_M_within M1 d 0 30 (by omega) (by omega) (by omega)) d_M_after_25 cd_M_within lk_M_103 st_M_within (st := []) rfl rfl (Nat.le_of_ble_eq_true rfl) ⟨by decide, Nat.le_refl _, Nat.le_refl _⟩ (fun _ _ hq => ?_)
        obtain ⟨z97, rfl, z97b, z97i, rfl⟩ := hq
        show sx_V _ _ _ _ (0, 0) _ _ [.inl z97] (gm M1) _
        refine sx_if_ne (tgt := 33) d_M_after_28 (by decide) (by first | omega | exact hM.ir _ _) (fun c28_33 => ?_) (fun c28_33 => ?_)
        · refine sx_aload_n d_M_after_33 rfl ?_
          refine sx_getR (r := some (58)) d_M_after_34 fl_M_29 (go rfl rfl rfl) (by decide) (by decide) (by decide) rfl ?_
          refine sx_bipush d_M_after_37 (by decide) ?_
          refine sx_iload_n d_M_after_39 rfl ?_
          refine sx_imul d_M_after_40 ?_
          refine sx_iload_n d_M_after_41 rfl ?_
          refine sx_iadd d_M_after_42 ?_
          refine sx_iload_n d_M_after_43 rfl ?_
          refine sx_iast (h2 := gm (sx_u M1 58 (Int.toNat ((6 * (a : Int)) + (b : Int))) d)) d_M_after_44 (go rfl rfl rfl) (by omega) (by omega) (by decide) rfl ?_
          refine sx_aload_n d_M_after_45 rfl ?_
          refine sx_callV (c_M_chg (sx_u M1 58 (Int.toNat ((6 * (a : Int)) + (b : Int))) d) ((M1R).u _ _ (by omega))) d_M_after_46 cd_M_changed lk_M_110 im_M_changed se_M_changed (go rfl rfl rfl) rfl rfl (by decide) (st := []) rfl rfl (Nat.le_of_ble_eq_true rfl) ⟨by decide, Nat.le_refl _, Nat.le_refl _⟩ (fun _ _ hq => ?_)
          obtain ⟨rfl, h2m, rfl, h2mg⟩ := hq
          show sx_V _ _ _ _ (0, 0) _ _ [] (gm h2m) _
          refine sx_iconst d_M_after_49 ?_
          refine sx_retI d_M_after_50 (Or.inr ⟨rfl, by first | exact Or.inl rfl | exact Or.inr rfl | omega⟩) ⟨Nat.zero_le _, Nat.zero_le _⟩ ?_
          refine ⟨?_, _, rfl, h2mg⟩
          first | rfl | (congr 2; omega)
        · omega
set_option maxRecDepth 100000 in
set_option maxHeartbeats 4000000 in
theorem m_season_bad {L : Nat} {xs : Nat → Int32} (M : Nat → Nat → Int) (nc nw nb : Nat) (hM : MR M nc nw nb) (M1 : Nat → Nat → Int) (M1s : sf M M1) (M1R : IR M1) (w a b : Int) (hw : sx_r w) (ha : sx_r a) (hb : sx_r b) (hbd : ¬ (0 ≤ w ∧ w < nw ∧ 0 ≤ a ∧ a ≤ b ∧ b ≤ 999)) : sx_R y_M_season (1, 0, 0) L xs [sx_p 51, .inl w, .inl a, .inl b] (gm M1) (fun v h2 => v = some (.inl (0)) ∧ h2 = gm M1) := by
  have w6 := hM.w6
  have c4 := hM.c4
  have b8 := hM.b8
  have r33 : 0 ≤ M 3 3 ∧ M 3 3 ≤ 200 := by (have := hM.dy.2.2.2; have := dy_le (dr M) 200; omega)
  refine sx_enter rfl (Nat.le_of_ble_eq_true rfl) rfl ?_
  show sx_V y_M_season (1, 0, 0) L xs (0, 0) 0 [some (sx_p 51), some (.inl w), some (.inl a), some (.inl b)] [] (gm M1) _
  refine sx_aload_n d_M_season_0 rfl ?_
  refine sx_iload_n d_M_season_1 rfl ?_
  refine sx_callV (c_M_isWork M nc nw nb hM M1 M1s w (by omega)) d_M_season_2 cd_M_isWork lk_M_113 im_M_isWork se_M_isWork (go rfl rfl rfl) rfl rfl (by decide) (st := []) rfl rfl (Nat.le_of_ble_eq_true rfl) ⟨by decide, Nat.le_refl _, Nat.le_refl _⟩ (fun _ _ hq => ?_)
  obtain ⟨z98, rfl, z98b, z98i, rfl⟩ := hq
  show sx_V _ _ _ _ (0, 0) _ _ [.inl z98] (gm M1) _
  refine sx_if_eq (tgt := 24) d_M_season_5 (by decide) (by first | omega | exact hM.ir _ _) (fun c5_14 => ?_) (fun c5_14 => ?_)
  · refine sx_iconst d_M_season_24 ?_
    refine sx_retI d_M_season_25 (Or.inr ⟨rfl, by first | exact Or.inl rfl | exact Or.inr rfl | omega⟩) ⟨Nat.zero_le _, Nat.zero_le _⟩ ?_
    exact ⟨rfl, rfl⟩
  · refine sx_iload_n d_M_season_8 rfl ?_
    refine sx_if_lt (tgt := 24) d_M_season_9 (by decide) (by first | omega | exact hM.ir _ _) (fun c9_19 => ?_) (fun c9_19 => ?_)
    · refine sx_iconst d_M_season_24 ?_
      refine sx_retI d_M_season_25 (Or.inr ⟨rfl, by first | exact Or.inl rfl | exact Or.inr rfl | omega⟩) ⟨Nat.zero_le _, Nat.zero_le _⟩ ?_
      exact ⟨rfl, rfl⟩
    · refine sx_iload_n d_M_season_12 rfl ?_
      refine sx_iload_n d_M_season_13 rfl ?_
      refine sx_icmp_lt (tgt := 24) d_M_season_14 (by decide) (by first | omega | exact hM.ir _ _) (by first | omega | exact hM.ir _ _) (fun c14_25 => ?_) (fun c14_25 => ?_)
      · refine sx_iconst d_M_season_24 ?_
        refine sx_retI d_M_season_25 (Or.inr ⟨rfl, by first | exact Or.inl rfl | exact Or.inr rfl | omega⟩) ⟨Nat.zero_le _, Nat.zero_le _⟩ ?_
        exact ⟨rfl, rfl⟩
      · refine sx_iload_n d_M_season_17 rfl ?_
        refine sx_sipush d_M_season_18 (by decide) ?_
        refine sx_icmp_le (tgt := 26) d_M_season_21 (by decide) (by first | omega | exact hM.ir _ _) ⟨by decide, by decide⟩ (fun c21_31 => ?_) (fun c21_31 => ?_)
        · omega
        · refine sx_iconst d_M_season_24 ?_
          refine sx_retI d_M_season_25 (Or.inr ⟨rfl, by first | exact Or.inl rfl | exact Or.inr rfl | omega⟩) ⟨Nat.zero_le _, Nat.zero_le _⟩ ?_
          exact ⟨rfl, rfl⟩
set_option maxRecDepth 100000 in
set_option maxHeartbeats 4000000 in
theorem m_season_ok {L : Nat} {xs : Nat → Int32} (M : Nat → Nat → Int) (nc nw nb : Nat) (hM : MR M nc nw nb) (M1 : Nat → Nat → Int) (M1s : sf M M1) (M1R : IR M1) (w : Nat) (a b : Int) (ha : sx_r a) (hb : sx_r b) (hg : w < nw ∧ 0 ≤ a ∧ a ≤ b ∧ b ≤ 999) : sx_R y_M_season (1, 0, 0) L xs [sx_p 51, .inl (w : Int), .inl a, .inl b] (gm M1) (fun v h2 => v = some (.inl (1)) ∧ ∃ M2, h2 = gm M2 ∧ chg (sx_u (sx_u M1 59 w a) 60 w b) M2) := by
  have w6 := hM.w6
  have c4 := hM.c4
  have b8 := hM.b8
  have r33 : 0 ≤ M 3 3 ∧ M 3 3 ≤ 200 := by (have := hM.dy.2.2.2; have := dy_le (dr M) 200; omega)
  refine sx_enter rfl (Nat.le_of_ble_eq_true rfl) rfl ?_
  show sx_V y_M_season (1, 0, 0) L xs (0, 0) 0 [some (sx_p 51), some (.inl (w : Int)), some (.inl a), some (.inl b)] [] (gm M1) _
  refine sx_aload_n d_M_season_0 rfl ?_
  refine sx_iload_n d_M_season_1 rfl ?_
  refine sx_callV (c_M_isWork M nc nw nb hM M1 M1s (w : Int) (by omega)) d_M_season_2 cd_M_isWork lk_M_113 im_M_isWork se_M_isWork (go rfl rfl rfl) rfl rfl (by decide) (st := []) rfl rfl (Nat.le_of_ble_eq_true rfl) ⟨by decide, Nat.le_refl _, Nat.le_refl _⟩ (fun _ _ hq => ?_)
  obtain ⟨z99, rfl, z99b, z99i, rfl⟩ := hq
  show sx_V _ _ _ _ (0, 0) _ _ [.inl z99] (gm M1) _
  refine sx_if_eq (tgt := 24) d_M_season_5 (by decide) (by first | omega | exact hM.ir _ _) (fun c5_14 => ?_) (fun c5_14 => ?_)
  · omega
  · refine sx_iload_n d_M_season_8 rfl ?_
    refine sx_if_lt (tgt := 24) d_M_season_9 (by decide) (by first | omega | exact hM.ir _ _) (fun c9_17 => ?_) (fun c9_17 => ?_)
    · omega
    · refine sx_iload_n d_M_season_12 rfl ?_
      refine sx_iload_n d_M_season_13 rfl ?_
      refine sx_icmp_lt (tgt := 24) d_M_season_14 (by decide) (by first | omega | exact hM.ir _ _) (by first | omega | exact hM.ir _ _) (fun c14_21 => ?_) (fun c14_21 => ?_)
      · omega
      · refine sx_iload_n d_M_season_17 rfl ?_
        refine sx_sipush d_M_season_18 (by decide) ?_
        refine sx_icmp_le (tgt := 26) d_M_season_21 (by decide) (by first | omega | exact hM.ir _ _) ⟨by decide, by decide⟩ (fun c21_25 => ?_) (fun c21_25 => ?_)
        · refine sx_aload_n d_M_season_26 rfl ?_
          refine sx_getR (r := some (59)) d_M_season_27 fl_M_32 (go rfl rfl rfl) (by decide) (by decide) (by decide) rfl ?_
          refine sx_iload_n d_M_season_30 rfl ?_
          refine sx_iload_n d_M_season_31 rfl ?_
          refine sx_iast (h2 := gm (sx_u M1 59 w a)) d_M_season_32 (go rfl rfl rfl) (by omega) (by omega) (by decide) rfl ?_
          refine sx_aload_n d_M_season_33 rfl ?_
          refine sx_getR (r := some (60)) d_M_season_34 fl_M_35 (go rfl rfl rfl) (by decide) (by decide) (by decide) rfl ?_
          refine sx_iload_n d_M_season_37 rfl ?_
          refine sx_iload_n d_M_season_38 rfl ?_
          refine sx_iast (h2 := gm (sx_u (sx_u M1 59 w a) 60 w b)) d_M_season_39 (go rfl rfl rfl) (by omega) (by omega) (by decide) rfl ?_
          refine sx_aload_n d_M_season_40 rfl ?_
          refine sx_callV (c_M_chg (sx_u (sx_u M1 59 w a) 60 w b) (((M1R).u _ _ (by omega)).u _ _ (by omega))) d_M_season_41 cd_M_changed lk_M_110 im_M_changed se_M_changed (go rfl rfl rfl) rfl rfl (by decide) (st := []) rfl rfl (Nat.le_of_ble_eq_true rfl) ⟨by decide, Nat.le_refl _, Nat.le_refl _⟩ (fun _ _ hq => ?_)
          obtain ⟨rfl, h3m, rfl, h3mg⟩ := hq
          show sx_V _ _ _ _ (0, 0) _ _ [] (gm h3m) _
          refine sx_iconst d_M_season_44 ?_
          refine sx_retI d_M_season_45 (Or.inr ⟨rfl, by first | exact Or.inl rfl | exact Or.inr rfl | omega⟩) ⟨Nat.zero_le _, Nat.zero_le _⟩ ?_
          refine ⟨?_, _, rfl, h3mg⟩
          first | rfl | (congr 2; omega)
        · omega
set_option maxRecDepth 100000 in
set_option maxHeartbeats 4000000 in
theorem m_bar_bad {L : Nat} {xs : Nat → Int32} (M : Nat → Nat → Int) (nc nw nb : Nat) (hM : MR M nc nw nb) (M1 : Nat → Nat → Int) (M1s : sf M M1) (M1R : IR M1) (w p u : Int) (hw : sx_r w) (hp : sx_r p) (hu : sx_r u) (hbd : ¬ (0 ≤ w ∧ w < nw ∧ M (14 + Int.toNat w) 2 ≤ p ∧ p ≤ M (14 + Int.toNat w) 3 ∧ 0 ≤ u ∧ u ≤ 999 ∧ nb < 8)) : sx_R y_M_bar (1, 0, 0) L xs [sx_p 51, .inl w, .inl p, .inl u] (gm M1) (fun v h2 => v = some (.inl (0)) ∧ h2 = gm M1) := by
  have w6 := hM.w6
  have c4 := hM.c4
  have b8 := hM.b8
  have r33 : 0 ≤ M 3 3 ∧ M 3 3 ≤ 200 := by (have := hM.dy.2.2.2; have := dy_le (dr M) 200; omega)
  refine sx_enter rfl (Nat.le_of_ble_eq_true rfl) rfl ?_
  show sx_V y_M_bar (1, 0, 0) L xs (0, 0) 0 [some (sx_p 51), some (.inl w), some (.inl p), some (.inl u)] [] (gm M1) _
  refine sx_aload_n d_M_bar_0 rfl ?_
  refine sx_iload_n d_M_bar_1 rfl ?_
  refine sx_callV (c_M_isWork M nc nw nb hM M1 M1s w (by omega)) d_M_bar_2 cd_M_isWork lk_M_113 im_M_isWork se_M_isWork (go rfl rfl rfl) rfl rfl (by decide) (st := []) rfl rfl (Nat.le_of_ble_eq_true rfl) ⟨by decide, Nat.le_refl _, Nat.le_refl _⟩ (fun _ _ hq => ?_)
  obtain ⟨z100, rfl, z100b, z100i, rfl⟩ := hq
  show sx_V _ _ _ _ (0, 0) _ _ [.inl z100] (gm M1) _
  refine sx_if_eq (tgt := 47) d_M_bar_5 (by decide) (by first | omega | exact hM.ir _ _) (fun c5_14 => ?_) (fun c5_14 => ?_)
  · refine sx_iconst d_M_bar_47 ?_
    refine sx_retI d_M_bar_48 (Or.inr ⟨rfl, by first | exact Or.inl rfl | exact Or.inr rfl | omega⟩) ⟨Nat.zero_le _, Nat.zero_le _⟩ ?_
    exact ⟨rfl, rfl⟩
  · obtain ⟨a1, a2, a3, a4, a5, a6⟩ := (hM.ws (Int.toNat w) (by omega)).1
    refine sx_iload_n d_M_bar_8 rfl ?_
    refine sx_aload_n d_M_bar_9 rfl ?_
    refine sx_getR (r := some (54)) d_M_bar_10 fl_M_16 (go rfl rfl rfl) (by decide) (by decide) (by decide) rfl ?_
    refine sx_iload_n d_M_bar_13 rfl ?_
    refine sx_iald (z := (M (14 + (Int.toNat w)) 2)) d_M_bar_14 (go rfl rfl rfl) (by omega) (by omega) (by decide) ((M1s 54 (Int.toNat w) (by decide) (by decide) (by omega)).trans (hM.mfr (Int.toNat w) (by omega))) ?_
    refine sx_aload_n d_M_bar_15 rfl ?_
    refine sx_getR (r := some (55)) d_M_bar_16 fl_M_19 (go rfl rfl rfl) (by decide) (by decide) (by decide) rfl ?_
    refine sx_iload_n d_M_bar_19 rfl ?_
    refine sx_iald (z := (M (14 + (Int.toNat w)) 3)) d_M_bar_20 (go rfl rfl rfl) (by omega) (by omega) (by decide) ((M1s 55 (Int.toNat w) (by decide) (by decide) (by omega)).trans (hM.mto (Int.toNat w) (by omega))) ?_
    refine sx_callS (c_M_within M1 p (M (14 + (Int.toNat w)) 2) (M (14 + (Int.toNat w)) 3) (by omega) (by omega) (by omega)) d_M_bar_21 cd_M_within lk_M_103 st_M_within (st := []) rfl rfl (Nat.le_of_ble_eq_true rfl) ⟨by decide, Nat.le_refl _, Nat.le_refl _⟩ (fun _ _ hq => ?_)
    obtain ⟨z101, rfl, z101b, z101i, rfl⟩ := hq
    show sx_V _ _ _ _ (0, 0) _ _ [.inl z101] (gm M1) _
    refine sx_if_eq (tgt := 47) d_M_bar_24 (by decide) (by first | omega | exact hM.ir _ _) (fun c24_31 => ?_) (fun c24_31 => ?_)
    · refine sx_iconst d_M_bar_47 ?_
      refine sx_retI d_M_bar_48 (Or.inr ⟨rfl, by first | exact Or.inl rfl | exact Or.inr rfl | omega⟩) ⟨Nat.zero_le _, Nat.zero_le _⟩ ?_
      exact ⟨rfl, rfl⟩
    · refine sx_iload_n d_M_bar_27 rfl ?_
      refine sx_iconst d_M_bar_28 ?_
      refine sx_sipush d_M_bar_29 (by decide) ?_
      refine sx_callS (c_M_within M1 u 0 999 (by omega) (by omega) (by omega)) d_M_bar_32 cd_M_within lk_M_103 st_M_within (st := []) rfl rfl (Nat.le_of_ble_eq_true rfl) ⟨by decide, Nat.le_refl _, Nat.le_refl _⟩ (fun _ _ hq => ?_)
      obtain ⟨z102, rfl, z102b, z102i, rfl⟩ := hq
      show sx_V _ _ _ _ (0, 0) _ _ [.inl z102] (gm M1) _
      refine sx_if_eq (tgt := 47) d_M_bar_35 (by decide) (by first | omega | exact hM.ir _ _) (fun c35_41 => ?_) (fun c35_41 => ?_)
      · refine sx_iconst d_M_bar_47 ?_
        refine sx_retI d_M_bar_48 (Or.inr ⟨rfl, by first | exact Or.inl rfl | exact Or.inr rfl | omega⟩) ⟨Nat.zero_le _, Nat.zero_le _⟩ ?_
        exact ⟨rfl, rfl⟩
      · refine sx_aload_n d_M_bar_38 rfl ?_
        refine sx_getI (z := (nb : Int)) d_M_bar_39 fl_M_117 (go rfl rfl rfl) (by decide) (by decide) (by decide) ((M1s 51 11 (by decide) (by decide) (by omega)).trans hM.mbn) ?_
        refine sx_bipush d_M_bar_42 (by decide) ?_
        refine sx_icmp_ne (tgt := 49) d_M_bar_44 (by decide) (by first | omega | exact hM.ir _ _) ⟨by decide, by decide⟩ (fun c44_48 => ?_) (fun c44_48 => ?_)
        · omega
        · refine sx_iconst d_M_bar_47 ?_
          refine sx_retI d_M_bar_48 (Or.inr ⟨rfl, by first | exact Or.inl rfl | exact Or.inr rfl | omega⟩) ⟨Nat.zero_le _, Nat.zero_le _⟩ ?_
          exact ⟨rfl, rfl⟩
set_option maxRecDepth 100000 in
set_option maxHeartbeats 4000000 in
theorem m_bar_ok {L : Nat} {xs : Nat → Int32} (M : Nat → Nat → Int) (nc nw nb : Nat) (hM : MR M nc nw nb) (M1 : Nat → Nat → Int) (M1s : sf M M1) (M1R : IR M1) (w : Nat) (p u : Int) (hp : sx_r p) (hu : sx_r u) (hg : w < nw ∧ M (14 + w) 2 ≤ p ∧ p ≤ M (14 + w) 3 ∧ 0 ≤ u ∧ u ≤ 999 ∧ nb < 8) : sx_R y_M_bar (1, 0, 0) L xs [sx_p 51, .inl (w : Int), .inl p, .inl u] (gm M1) (fun v h2 => v = some (.inl (1)) ∧ ∃ M2, h2 = gm M2 ∧ chg (sx_u (sx_u (sx_u (sx_u M1 61 nb (w : Int)) 62 nb p) 63 nb u) 51 11 ((nb : Int) + 1)) M2) := by
  have w6 := hM.w6
  have c4 := hM.c4
  have b8 := hM.b8
  have r33 : 0 ≤ M 3 3 ∧ M 3 3 ≤ 200 := by (have := hM.dy.2.2.2; have := dy_le (dr M) 200; omega)
  refine sx_enter rfl (Nat.le_of_ble_eq_true rfl) rfl ?_
  show sx_V y_M_bar (1, 0, 0) L xs (0, 0) 0 [some (sx_p 51), some (.inl (w : Int)), some (.inl p), some (.inl u)] [] (gm M1) _
  refine sx_aload_n d_M_bar_0 rfl ?_
  refine sx_iload_n d_M_bar_1 rfl ?_
  refine sx_callV (c_M_isWork M nc nw nb hM M1 M1s (w : Int) (by omega)) d_M_bar_2 cd_M_isWork lk_M_113 im_M_isWork se_M_isWork (go rfl rfl rfl) rfl rfl (by decide) (st := []) rfl rfl (Nat.le_of_ble_eq_true rfl) ⟨by decide, Nat.le_refl _, Nat.le_refl _⟩ (fun _ _ hq => ?_)
  obtain ⟨z103, rfl, z103b, z103i, rfl⟩ := hq
  show sx_V _ _ _ _ (0, 0) _ _ [.inl z103] (gm M1) _
  refine sx_if_eq (tgt := 47) d_M_bar_5 (by decide) (by first | omega | exact hM.ir _ _) (fun c5_14 => ?_) (fun c5_14 => ?_)
  · omega
  · obtain ⟨a1, a2, a3, a4, a5, a6⟩ := (hM.ws w (by omega)).1
    refine sx_iload_n d_M_bar_8 rfl ?_
    refine sx_aload_n d_M_bar_9 rfl ?_
    refine sx_getR (r := some (54)) d_M_bar_10 fl_M_16 (go rfl rfl rfl) (by decide) (by decide) (by decide) rfl ?_
    refine sx_iload_n d_M_bar_13 rfl ?_
    refine sx_iald (z := (M (14 + w) 2)) d_M_bar_14 (go rfl rfl rfl) (by omega) (by omega) (by decide) ((M1s 54 w (by decide) (by decide) (by omega)).trans (hM.mfr w (by omega))) ?_
    refine sx_aload_n d_M_bar_15 rfl ?_
    refine sx_getR (r := some (55)) d_M_bar_16 fl_M_19 (go rfl rfl rfl) (by decide) (by decide) (by decide) rfl ?_
    refine sx_iload_n d_M_bar_19 rfl ?_
    refine sx_iald (z := (M (14 + w) 3)) d_M_bar_20 (go rfl rfl rfl) (by omega) (by omega) (by decide) ((M1s 55 w (by decide) (by decide) (by omega)).trans (hM.mto w (by omega))) ?_
    refine sx_callS (c_M_within M1 p (M (14 + w) 2) (M (14 + w) 3) (by omega) (by omega) (by omega)) d_M_bar_21 cd_M_within lk_M_103 st_M_within (st := []) rfl rfl (Nat.le_of_ble_eq_true rfl) ⟨by decide, Nat.le_refl _, Nat.le_refl _⟩ (fun _ _ hq => ?_)
    obtain ⟨z104, rfl, z104b, z104i, rfl⟩ := hq
    show sx_V _ _ _ _ (0, 0) _ _ [.inl z104] (gm M1) _
    refine sx_if_eq (tgt := 47) d_M_bar_24 (by decide) (by first | omega | exact hM.ir _ _) (fun c24_29 => ?_) (fun c24_29 => ?_)
    · omega
    · refine sx_iload_n d_M_bar_27 rfl ?_
      refine sx_iconst d_M_bar_28 ?_
      refine sx_sipush d_M_bar_29 (by decide) ?_
      refine sx_callS (c_M_within M1 u 0 999 (by omega) (by omega) (by omega)) d_M_bar_32 cd_M_within lk_M_103 st_M_within (st := []) rfl rfl (Nat.le_of_ble_eq_true rfl) ⟨by decide, Nat.le_refl _, Nat.le_refl _⟩ (fun _ _ hq => ?_)
      obtain ⟨z105, rfl, z105b, z105i, rfl⟩ := hq
      show sx_V _ _ _ _ (0, 0) _ _ [.inl z105] (gm M1) _
      refine sx_if_eq (tgt := 47) d_M_bar_35 (by decide) (by first | omega | exact hM.ir _ _) (fun c35_37 => ?_) (fun c35_37 => ?_)
      · omega
      · refine sx_aload_n d_M_bar_38 rfl ?_
        refine sx_getI (z := (nb : Int)) d_M_bar_39 fl_M_117 (go rfl rfl rfl) (by decide) (by decide) (by decide) ((M1s 51 11 (by decide) (by decide) (by omega)).trans hM.mbn) ?_
        refine sx_bipush d_M_bar_42 (by decide) ?_
        refine sx_icmp_ne (tgt := 49) d_M_bar_44 (by decide) (by first | omega | exact hM.ir _ _) ⟨by decide, by decide⟩ (fun c44_42 => ?_) (fun c44_42 => ?_)
        · refine sx_aload_n d_M_bar_49 rfl ?_
          refine sx_getR (r := some (61)) d_M_bar_50 fl_M_38 (go rfl rfl rfl) (by decide) (by decide) (by decide) rfl ?_
          refine sx_aload_n d_M_bar_53 rfl ?_
          refine sx_getI (z := (nb : Int)) d_M_bar_54 fl_M_117 (go rfl rfl rfl) (by decide) (by decide) (by decide) ((M1s 51 11 (by decide) (by decide) (by omega)).trans hM.mbn) ?_
          refine sx_iload_n d_M_bar_57 rfl ?_
          refine sx_iast (h2 := gm (sx_u M1 61 nb (w : Int))) d_M_bar_58 (go rfl rfl rfl) (by omega) (by omega) (by decide) rfl ?_
          refine sx_aload_n d_M_bar_59 rfl ?_
          refine sx_getR (r := some (62)) d_M_bar_60 fl_M_41 (go rfl rfl rfl) (by decide) (by decide) (by decide) rfl ?_
          refine sx_aload_n d_M_bar_63 rfl ?_
          refine sx_getI (z := (nb : Int)) d_M_bar_64 fl_M_117 (go rfl rfl rfl) (by decide) (by decide) (by decide) ((M1s 51 11 (by decide) (by decide) (by omega)).trans hM.mbn) ?_
          refine sx_iload_n d_M_bar_67 rfl ?_
          refine sx_iast (h2 := gm (sx_u (sx_u M1 61 nb (w : Int)) 62 nb p)) d_M_bar_68 (go rfl rfl rfl) (by omega) (by omega) (by decide) rfl ?_
          refine sx_aload_n d_M_bar_69 rfl ?_
          refine sx_getR (r := some (63)) d_M_bar_70 fl_M_44 (go rfl rfl rfl) (by decide) (by decide) (by decide) rfl ?_
          refine sx_aload_n d_M_bar_73 rfl ?_
          refine sx_getI (z := (nb : Int)) d_M_bar_74 fl_M_117 (go rfl rfl rfl) (by decide) (by decide) (by decide) ((M1s 51 11 (by decide) (by decide) (by omega)).trans hM.mbn) ?_
          refine sx_iload_n d_M_bar_77 rfl ?_
          refine sx_iast (h2 := gm (sx_u (sx_u (sx_u M1 61 nb (w : Int)) 62 nb p) 63 nb u)) d_M_bar_78 (go rfl rfl rfl) (by omega) (by omega) (by decide) rfl ?_
          refine sx_aload_n d_M_bar_79 rfl ?_
          refine sx_dup rfl d_M_bar_80 ?_
          refine sx_getI (z := (nb : Int)) d_M_bar_81 fl_M_117 (go rfl rfl rfl) (by decide) (by decide) (by decide) ((M1s 51 11 (by decide) (by decide) (by omega)).trans hM.mbn) ?_
          refine sx_iconst d_M_bar_84 ?_
          refine sx_iadd d_M_bar_85 ?_
          refine sx_putI (h2 := gm (sx_u (sx_u (sx_u (sx_u M1 61 nb (w : Int)) 62 nb p) 63 nb u) 51 11 ((nb : Int) + 1))) d_M_bar_86 fl_M_117 (go rfl rfl rfl) (by decide) (by decide) (by decide) (fun q hq => Or.inl (nf_M_11 q hq)) (Or.inl rfl) rfl ?_
          refine sx_aload_n d_M_bar_89 rfl ?_
          refine sx_callV (c_M_chg (sx_u (sx_u (sx_u (sx_u M1 61 nb (w : Int)) 62 nb p) 63 nb u) 51 11 ((nb : Int) + 1)) (((((M1R).u _ _ (by omega)).u _ _ (by omega)).u _ _ (by omega)).u _ _ (by omega))) d_M_bar_90 cd_M_changed lk_M_110 im_M_changed se_M_changed (go rfl rfl rfl) rfl rfl (by decide) (st := []) rfl rfl (Nat.le_of_ble_eq_true rfl) ⟨by decide, Nat.le_refl _, Nat.le_refl _⟩ (fun _ _ hq => ?_)
          obtain ⟨rfl, h4m, rfl, h4mg⟩ := hq
          show sx_V _ _ _ _ (0, 0) _ _ [] (gm h4m) _
          refine sx_iconst d_M_bar_93 ?_
          refine sx_retI d_M_bar_94 (Or.inr ⟨rfl, by first | exact Or.inl rfl | exact Or.inr rfl | omega⟩) ⟨Nat.zero_le _, Nat.zero_le _⟩ ?_
          refine ⟨?_, _, rfl, h4mg⟩
          first | rfl | (congr 2; omega)
        · omega
set_option maxRecDepth 100000 in
set_option maxHeartbeats 4000000 in
theorem m_rest_bad {L : Nat} {xs : Nat → Int32} (M : Nat → Nat → Int) (nc nw nb : Nat) (hM : MR M nc nw nb) (M1 : Nat → Nat → Int) (M1s : sf M M1) (M1R : IR M1) (d : Int) (hd : sx_r d) (hbd : ¬ (0 ≤ d ∧ d ≤ 199 ∧ M 4 (Int.toNat d) = 0)) : sx_R y_M_rest (1, 0, 0) L xs [sx_p 51, .inl d] (gm M1) (fun v h2 => v = some (.inl (0)) ∧ h2 = gm M1) := by
  have w6 := hM.w6
  have c4 := hM.c4
  have b8 := hM.b8
  have r33 : 0 ≤ M 3 3 ∧ M 3 3 ≤ 200 := by (have := hM.dy.2.2.2; have := dy_le (dr M) 200; omega)
  refine sx_enter rfl (Nat.le_of_ble_eq_true rfl) rfl ?_
  show sx_V y_M_rest (1, 0, 0) L xs (0, 0) 0 [some (sx_p 51), some (.inl d)] [] (gm M1) _
  refine sx_iload_n d_M_rest_0 rfl ?_
  refine sx_iconst d_M_rest_1 ?_
  refine sx_sipush d_M_rest_2 (by decide) ?_
  refine sx_callS (c_M_within M1 d 0 199 (by omega) (by omega) (by omega)) d_M_rest_5 cd_M_within lk_M_103 st_M_within (st := []) rfl rfl (Nat.le_of_ble_eq_true rfl) ⟨by decide, Nat.le_refl _, Nat.le_refl _⟩ (fun _ _ hq => ?_)
  obtain ⟨z106, rfl, z106b, z106i, rfl⟩ := hq
  show sx_V _ _ _ _ (0, 0) _ _ [.inl z106] (gm M1) _
  refine sx_if_eq (tgt := 20) d_M_rest_8 (by decide) (by first | omega | exact hM.ir _ _) (fun c8_15 => ?_) (fun c8_15 => ?_)
  · refine sx_iconst d_M_rest_20 ?_
    refine sx_retI d_M_rest_21 (Or.inr ⟨rfl, by first | exact Or.inl rfl | exact Or.inr rfl | omega⟩) ⟨Nat.zero_le _, Nat.zero_le _⟩ ?_
    exact ⟨rfl, rfl⟩
  · refine sx_aload_n d_M_rest_11 rfl ?_
    refine sx_getR (r := some (64)) d_M_rest_12 fl_M_47 (go rfl rfl rfl) (by decide) (by decide) (by decide) rfl ?_
    refine sx_iload_n d_M_rest_15 rfl ?_
    refine sx_zald (z := (M 4 (Int.toNat d))) d_M_rest_16 (go rfl rfl rfl) (by omega) (by omega) (by decide) ((M1s 64 (Int.toNat d) (by decide) (by decide) (by omega)).trans (hM.mre (Int.toNat d) (by omega))) ?_
    refine sx_if_eq (tgt := 22) d_M_rest_17 (by decide) (by first | omega | exact hM.ir _ _) (fun c17_23 => ?_) (fun c17_23 => ?_)
    · omega
    · refine sx_iconst d_M_rest_20 ?_
      refine sx_retI d_M_rest_21 (Or.inr ⟨rfl, by first | exact Or.inl rfl | exact Or.inr rfl | omega⟩) ⟨Nat.zero_le _, Nat.zero_le _⟩ ?_
      exact ⟨rfl, rfl⟩
set_option maxRecDepth 100000 in
set_option maxHeartbeats 4000000 in
theorem m_rest_ok {L : Nat} {xs : Nat → Int32} (M : Nat → Nat → Int) (nc nw nb : Nat) (hM : MR M nc nw nb) (M1 : Nat → Nat → Int) (M1s : sf M M1) (M1R : IR M1) (d : Nat) (hg : d < 200 ∧ M 4 d = 0) : sx_R y_M_rest (1, 0, 0) L xs [sx_p 51, .inl (d : Int)] (gm M1) (fun v h2 => v = some (.inl (1)) ∧ ∃ M2, h2 = gm M2 ∧ chg (sx_u (sx_u M1 64 d 1) 51 15 (M 3 3 + 1)) M2) := by
  have w6 := hM.w6
  have c4 := hM.c4
  have b8 := hM.b8
  have r33 : 0 ≤ M 3 3 ∧ M 3 3 ≤ 200 := by (have := hM.dy.2.2.2; have := dy_le (dr M) 200; omega)
  refine sx_enter rfl (Nat.le_of_ble_eq_true rfl) rfl ?_
  show sx_V y_M_rest (1, 0, 0) L xs (0, 0) 0 [some (sx_p 51), some (.inl (d : Int))] [] (gm M1) _
  refine sx_iload_n d_M_rest_0 rfl ?_
  refine sx_iconst d_M_rest_1 ?_
  refine sx_sipush d_M_rest_2 (by decide) ?_
  refine sx_callS (c_M_within M1 (d : Int) 0 199 (by omega) (by omega) (by omega)) d_M_rest_5 cd_M_within lk_M_103 st_M_within (st := []) rfl rfl (Nat.le_of_ble_eq_true rfl) ⟨by decide, Nat.le_refl _, Nat.le_refl _⟩ (fun _ _ hq => ?_)
  obtain ⟨z107, rfl, z107b, z107i, rfl⟩ := hq
  show sx_V _ _ _ _ (0, 0) _ _ [.inl z107] (gm M1) _
  refine sx_if_eq (tgt := 20) d_M_rest_8 (by decide) (by first | omega | exact hM.ir _ _) (fun c8_15 => ?_) (fun c8_15 => ?_)
  · omega
  · refine sx_aload_n d_M_rest_11 rfl ?_
    refine sx_getR (r := some (64)) d_M_rest_12 fl_M_47 (go rfl rfl rfl) (by decide) (by decide) (by decide) rfl ?_
    refine sx_iload_n d_M_rest_15 rfl ?_
    refine sx_zald (z := (M 4 d)) d_M_rest_16 (go rfl rfl rfl) (by omega) (by omega) (by decide) ((M1s 64 d (by decide) (by decide) (by omega)).trans (hM.mre d (by omega))) ?_
    refine sx_if_eq (tgt := 22) d_M_rest_17 (by decide) (by first | omega | exact hM.ir _ _) (fun c17_21 => ?_) (fun c17_21 => ?_)
    · refine sx_aload_n d_M_rest_22 rfl ?_
      refine sx_getR (r := some (64)) d_M_rest_23 fl_M_47 (go rfl rfl rfl) (by decide) (by decide) (by decide) rfl ?_
      refine sx_iload_n d_M_rest_26 rfl ?_
      refine sx_iconst d_M_rest_27 ?_
      refine sx_zast (h2 := gm (sx_u M1 64 d 1)) d_M_rest_28 (go rfl rfl rfl) (by omega) (by omega) (by decide) (Or.inr rfl) rfl ?_
      refine sx_aload_n d_M_rest_29 rfl ?_
      refine sx_dup rfl d_M_rest_30 ?_
      refine sx_getI (z := (M 3 3)) d_M_rest_31 fl_M_120 (go rfl rfl rfl) (by decide) (by decide) (by decide) ((M1s 51 15 (by decide) (by decide) (by omega)).trans hM.mrs) ?_
      refine sx_iconst d_M_rest_34 ?_
      refine sx_iadd d_M_rest_35 ?_
      refine sx_putI (h2 := gm (sx_u (sx_u M1 64 d 1) 51 15 ((M 3 3) + 1))) d_M_rest_36 fl_M_120 (go rfl rfl rfl) (by decide) (by decide) (by decide) (fun q hq => Or.inl (nf_M_15 q hq)) (Or.inl rfl) rfl ?_
      refine sx_aload_n d_M_rest_39 rfl ?_
      refine sx_callV (c_M_chg (sx_u (sx_u M1 64 d 1) 51 15 ((M 3 3) + 1)) (((M1R).u _ _ (by omega)).u _ _ (by omega))) d_M_rest_40 cd_M_changed lk_M_110 im_M_changed se_M_changed (go rfl rfl rfl) rfl rfl (by decide) (st := []) rfl rfl (Nat.le_of_ble_eq_true rfl) ⟨by decide, Nat.le_refl _, Nat.le_refl _⟩ (fun _ _ hq => ?_)
      obtain ⟨rfl, h5m, rfl, h5mg⟩ := hq
      show sx_V _ _ _ _ (0, 0) _ _ [] (gm h5m) _
      refine sx_iconst d_M_rest_43 ?_
      refine sx_retI d_M_rest_44 (Or.inr ⟨rfl, by first | exact Or.inl rfl | exact Or.inr rfl | omega⟩) ⟨Nat.zero_le _, Nat.zero_le _⟩ ?_
      refine ⟨?_, _, rfl, h5mg⟩
      rfl
    · omega
set_option maxRecDepth 100000 in
set_option maxHeartbeats 4000000 in
theorem m_most_bad {L : Nat} {xs : Nat → Int32} (M : Nat → Nat → Int) (nc nw nb : Nat) (hM : MR M nc nw nb) (M1 : Nat → Nat → Int) (M1s : sf M M1) (M1R : IR M1) (kd n : Int) (hkd : sx_r kd) (hn : sx_r n) (hbd : ¬ (0 ≤ kd ∧ kd ≤ 3 ∧ 0 ≤ n ∧ n ≤ 6)) : sx_R y_M_most (1, 0, 0) L xs [sx_p 51, .inl kd, .inl n] (gm M1) (fun v h2 => v = some (.inl (-1)) ∧ h2 = gm M1) := by
  have w6 := hM.w6
  have c4 := hM.c4
  have b8 := hM.b8
  have r33 : 0 ≤ M 3 3 ∧ M 3 3 ≤ 200 := by (have := hM.dy.2.2.2; have := dy_le (dr M) 200; omega)
  refine sx_enter rfl (Nat.le_of_ble_eq_true rfl) rfl ?_
  show sx_V y_M_most (1, 0, 0) L xs (0, 0) 0 [some (sx_p 51), some (.inl kd), some (.inl n), none] [] (gm M1) _
  refine sx_iload_n d_M_most_0 rfl ?_
  refine sx_iconst d_M_most_1 ?_
  refine sx_iconst d_M_most_2 ?_
  refine sx_callS (c_M_within M1 kd 0 3 (by omega) (by omega) (by omega)) d_M_most_3 cd_M_within lk_M_103 st_M_within (st := []) rfl rfl (Nat.le_of_ble_eq_true rfl) ⟨by decide, Nat.le_refl _, Nat.le_refl _⟩ (fun _ _ hq => ?_)
  obtain ⟨z108, rfl, z108b, z108i, rfl⟩ := hq
  show sx_V _ _ _ _ (0, 0) _ _ [.inl z108] (gm M1) _
  refine sx_if_eq (tgt := 19) d_M_most_6 (by decide) (by first | omega | exact hM.ir _ _) (fun c6_15 => ?_) (fun c6_15 => ?_)
  · refine sx_iconst d_M_most_19 ?_
    refine sx_retI d_M_most_20 (Or.inl rfl) ⟨Nat.zero_le _, Nat.zero_le _⟩ ?_
    exact ⟨rfl, rfl⟩
  · refine sx_iload_n d_M_most_9 rfl ?_
    refine sx_iconst d_M_most_10 ?_
    refine sx_bipush d_M_most_11 (by decide) ?_
    refine sx_callS (c_M_within M1 n 0 6 (by omega) (by omega) (by omega)) d_M_most_13 cd_M_within lk_M_103 st_M_within (st := []) rfl rfl (Nat.le_of_ble_eq_true rfl) ⟨by decide, Nat.le_refl _, Nat.le_refl _⟩ (fun _ _ hq => ?_)
    obtain ⟨z109, rfl, z109b, z109i, rfl⟩ := hq
    show sx_V _ _ _ _ (0, 0) _ _ [.inl z109] (gm M1) _
    refine sx_if_ne (tgt := 21) d_M_most_16 (by decide) (by first | omega | exact hM.ir _ _) (fun c16_25 => ?_) (fun c16_25 => ?_)
    · omega
    · refine sx_iconst d_M_most_19 ?_
      refine sx_retI d_M_most_20 (Or.inl rfl) ⟨Nat.zero_le _, Nat.zero_le _⟩ ?_
      exact ⟨rfl, rfl⟩
set_option maxRecDepth 100000 in
set_option maxHeartbeats 4000000 in
theorem m_most_ok {L : Nat} {xs : Nat → Int32} (M : Nat → Nat → Int) (nc nw nb : Nat) (hM : MR M nc nw nb) (M1 : Nat → Nat → Int) (M1s : sf M M1) (M1R : IR M1) (kd : Nat) (n : Int) (hn : sx_r n) (hg : kd < 4 ∧ 0 ≤ n ∧ n ≤ 6) : sx_R y_M_most (1, 0, 0) L xs [sx_p 51, .inl (kd : Int), .inl n] (gm M1) (fun v h2 => v = some (.inl (M 10 kd)) ∧ ∃ M2, h2 = gm M2 ∧ chg (sx_u M1 66 kd n) M2) := by
  have w6 := hM.w6
  have c4 := hM.c4
  have b8 := hM.b8
  have r33 : 0 ≤ M 3 3 ∧ M 3 3 ≤ 200 := by (have := hM.dy.2.2.2; have := dy_le (dr M) 200; omega)
  refine sx_enter rfl (Nat.le_of_ble_eq_true rfl) rfl ?_
  show sx_V y_M_most (1, 0, 0) L xs (0, 0) 0 [some (sx_p 51), some (.inl (kd : Int)), some (.inl n), none] [] (gm M1) _
  refine sx_iload_n d_M_most_0 rfl ?_
  refine sx_iconst d_M_most_1 ?_
  refine sx_iconst d_M_most_2 ?_
  refine sx_callS (c_M_within M1 (kd : Int) 0 3 (by omega) (by omega) (by omega)) d_M_most_3 cd_M_within lk_M_103 st_M_within (st := []) rfl rfl (Nat.le_of_ble_eq_true rfl) ⟨by decide, Nat.le_refl _, Nat.le_refl _⟩ (fun _ _ hq => ?_)
  obtain ⟨z110, rfl, z110b, z110i, rfl⟩ := hq
  show sx_V _ _ _ _ (0, 0) _ _ [.inl z110] (gm M1) _
  refine sx_if_eq (tgt := 19) d_M_most_6 (by decide) (by first | omega | exact hM.ir _ _) (fun c6_15 => ?_) (fun c6_15 => ?_)
  · omega
  · refine sx_iload_n d_M_most_9 rfl ?_
    refine sx_iconst d_M_most_10 ?_
    refine sx_bipush d_M_most_11 (by decide) ?_
    refine sx_callS (c_M_within M1 n 0 6 (by omega) (by omega) (by omega)) d_M_most_13 cd_M_within lk_M_103 st_M_within (st := []) rfl rfl (Nat.le_of_ble_eq_true rfl) ⟨by decide, Nat.le_refl _, Nat.le_refl _⟩ (fun _ _ hq => ?_)
    obtain ⟨z111, rfl, z111b, z111i, rfl⟩ := hq
    show sx_V _ _ _ _ (0, 0) _ _ [.inl z111] (gm M1) _
    refine sx_if_ne (tgt := 21) d_M_most_16 (by decide) (by first | omega | exact hM.ir _ _) (fun c16_23 => ?_) (fun c16_23 => ?_)
    · refine sx_aload_n d_M_most_21 rfl ?_
      refine sx_getR (r := some (66)) d_M_most_22 fl_M_53 (go rfl rfl rfl) (by decide) (by decide) (by decide) rfl ?_
      refine sx_iload_n d_M_most_25 rfl ?_
      refine sx_iald (z := (M 10 kd)) d_M_most_26 (go rfl rfl rfl) (by omega) (by omega) (by decide) ((M1s 66 kd (by decide) (by decide) (by omega)).trans (hM.mmo kd (by omega))) ?_
      refine sx_istore_n (l' := [some (sx_p 51), some (.inl (kd : Int)), some (.inl n), some (.inl (M 10 kd))]) d_M_most_27 (by decide) rfl rfl ?_
      refine sx_aload_n d_M_most_28 rfl ?_
      refine sx_getR (r := some (66)) d_M_most_29 fl_M_53 (go rfl rfl rfl) (by decide) (by decide) (by decide) rfl ?_
      refine sx_iload_n d_M_most_32 rfl ?_
      refine sx_iload_n d_M_most_33 rfl ?_
      refine sx_iast (h2 := gm (sx_u M1 66 kd n)) d_M_most_34 (go rfl rfl rfl) (by omega) (by omega) (by decide) rfl ?_
      refine sx_aload_n d_M_most_35 rfl ?_
      refine sx_callV (c_M_chg (sx_u M1 66 kd n) ((M1R).u _ _ (by omega))) d_M_most_36 cd_M_changed lk_M_110 im_M_changed se_M_changed (go rfl rfl rfl) rfl rfl (by decide) (st := []) rfl rfl (Nat.le_of_ble_eq_true rfl) ⟨by decide, Nat.le_refl _, Nat.le_refl _⟩ (fun _ _ hq => ?_)
      obtain ⟨rfl, h6m, rfl, h6mg⟩ := hq
      show sx_V _ _ _ _ (0, 0) _ _ [] (gm h6m) _
      refine sx_iload_n d_M_most_39 rfl ?_
      refine sx_retI d_M_most_40 (Or.inl rfl) ⟨Nat.zero_le _, Nat.zero_le _⟩ ?_
      refine ⟨?_, _, rfl, h6mg⟩
      first | rfl | (congr 2; omega)
    · omega
set_option maxRecDepth 100000 in
set_option maxHeartbeats 4000000 in
theorem m_learned_bad {L : Nat} {xs : Nat → Int32} (M : Nat → Nat → Int) (nc nw nb : Nat) (hM : MR M nc nw nb) (M1 : Nat → Nat → Int) (M1s : sf M M1) (M1R : IR M1) (w p d : Int) (hw : sx_r w) (hp : sx_r p) (hd : sx_r d) (hbd : ¬ (0 ≤ w ∧ w < nw ∧ 1 ≤ p ∧ p ≤ 10000 ∧ 1 ≤ d ∧ d ≤ 1000)) : sx_R y_M_learned (1, 0, 0) L xs [sx_p 51, .inl w, .inl p, .inl d] (gm M1) (fun v h2 => v = some (.inl (-1)) ∧ h2 = gm M1) := by
  have w6 := hM.w6
  have c4 := hM.c4
  have b8 := hM.b8
  have r33 : 0 ≤ M 3 3 ∧ M 3 3 ≤ 200 := by (have := hM.dy.2.2.2; have := dy_le (dr M) 200; omega)
  refine sx_enter rfl (Nat.le_of_ble_eq_true rfl) rfl ?_
  show sx_V y_M_learned (1, 0, 0) L xs (0, 0) 0 [some (sx_p 51), some (.inl w), some (.inl p), some (.inl d), none] [] (gm M1) _
  refine sx_aload_n d_M_learned_0 rfl ?_
  refine sx_iload_n d_M_learned_1 rfl ?_
  refine sx_callV (c_M_isWork M nc nw nb hM M1 M1s w (by omega)) d_M_learned_2 cd_M_isWork lk_M_113 im_M_isWork se_M_isWork (go rfl rfl rfl) rfl rfl (by decide) (st := []) rfl rfl (Nat.le_of_ble_eq_true rfl) ⟨by decide, Nat.le_refl _, Nat.le_refl _⟩ (fun _ _ hq => ?_)
  obtain ⟨z112, rfl, z112b, z112i, rfl⟩ := hq
  show sx_V _ _ _ _ (0, 0) _ _ [.inl z112] (gm M1) _
  refine sx_if_eq (tgt := 30) d_M_learned_5 (by decide) (by first | omega | exact hM.ir _ _) (fun c5_14 => ?_) (fun c5_14 => ?_)
  · refine sx_iconst d_M_learned_30 ?_
    refine sx_retI d_M_learned_31 (Or.inl rfl) ⟨Nat.zero_le _, Nat.zero_le _⟩ ?_
    exact ⟨rfl, rfl⟩
  · refine sx_iload_n d_M_learned_8 rfl ?_
    refine sx_iconst d_M_learned_9 ?_
    refine sx_sipush d_M_learned_10 (by decide) ?_
    refine sx_callS (c_M_within M1 p 1 10000 (by omega) (by omega) (by omega)) d_M_learned_13 cd_M_within lk_M_103 st_M_within (st := []) rfl rfl (Nat.le_of_ble_eq_true rfl) ⟨by decide, Nat.le_refl _, Nat.le_refl _⟩ (fun _ _ hq => ?_)
    obtain ⟨z113, rfl, z113b, z113i, rfl⟩ := hq
    show sx_V _ _ _ _ (0, 0) _ _ [.inl z113] (gm M1) _
    refine sx_if_eq (tgt := 30) d_M_learned_16 (by decide) (by first | omega | exact hM.ir _ _) (fun c16_24 => ?_) (fun c16_24 => ?_)
    · refine sx_iconst d_M_learned_30 ?_
      refine sx_retI d_M_learned_31 (Or.inl rfl) ⟨Nat.zero_le _, Nat.zero_le _⟩ ?_
      exact ⟨rfl, rfl⟩
    · refine sx_iload_n d_M_learned_19 rfl ?_
      refine sx_iconst d_M_learned_20 ?_
      refine sx_sipush d_M_learned_21 (by decide) ?_
      refine sx_callS (c_M_within M1 d 1 1000 (by omega) (by omega) (by omega)) d_M_learned_24 cd_M_within lk_M_103 st_M_within (st := []) rfl rfl (Nat.le_of_ble_eq_true rfl) ⟨by decide, Nat.le_refl _, Nat.le_refl _⟩ (fun _ _ hq => ?_)
      obtain ⟨z114, rfl, z114b, z114i, rfl⟩ := hq
      show sx_V _ _ _ _ (0, 0) _ _ [.inl z114] (gm M1) _
      refine sx_if_ne (tgt := 32) d_M_learned_27 (by decide) (by first | omega | exact hM.ir _ _) (fun c27_34 => ?_) (fun c27_34 => ?_)
      · omega
      · refine sx_iconst d_M_learned_30 ?_
        refine sx_retI d_M_learned_31 (Or.inl rfl) ⟨Nat.zero_le _, Nat.zero_le _⟩ ?_
        exact ⟨rfl, rfl⟩
set_option maxRecDepth 100000 in
set_option maxHeartbeats 4000000 in
theorem m_learned_ok {L : Nat} {xs : Nat → Int32} (M : Nat → Nat → Int) (nc nw nb : Nat) (hM : MR M nc nw nb) (M1 : Nat → Nat → Int) (M1s : sf M M1) (M1R : IR M1) (w : Nat) (p d v : Int) (hv : v = (if p / d < 1 then 1 else if 50 < p / d then 50 else p / d)) (hg : w < nw ∧ 1 ≤ p ∧ p ≤ 10000 ∧ 1 ≤ d ∧ d ≤ 1000) : sx_R y_M_learned (1, 0, 0) L xs [sx_p 51, .inl (w : Int), .inl p, .inl d] (gm M1) (fun q h2 => q = some (.inl v) ∧ ∃ M2, h2 = gm M2 ∧ chg (sx_u M1 56 w v) M2) := by
  have w6 := hM.w6
  have c4 := hM.c4
  have b8 := hM.b8
  have r33 : 0 ≤ M 3 3 ∧ M 3 3 ≤ 200 := by (have := hM.dy.2.2.2; have := dy_le (dr M) 200; omega)
  have tq := Int.tdiv_eq_ediv_of_nonneg (a := p) (b := d) (by omega)
  have tr : 0 ≤ p / d ∧ p / d ≤ 10000 := ⟨Int.ediv_nonneg (by omega) (by omega), by have := Int.ediv_le_self d (show 0 ≤ p by omega); omega⟩
  refine sx_enter rfl (Nat.le_of_ble_eq_true rfl) rfl ?_
  show sx_V y_M_learned (1, 0, 0) L xs (0, 0) 0 [some (sx_p 51), some (.inl (w : Int)), some (.inl p), some (.inl d), none] [] (gm M1) _
  refine sx_aload_n d_M_learned_0 rfl ?_
  refine sx_iload_n d_M_learned_1 rfl ?_
  refine sx_callV (c_M_isWork M nc nw nb hM M1 M1s (w : Int) (by omega)) d_M_learned_2 cd_M_isWork lk_M_113 im_M_isWork se_M_isWork (go rfl rfl rfl) rfl rfl (by decide) (st := []) rfl rfl (Nat.le_of_ble_eq_true rfl) ⟨by decide, Nat.le_refl _, Nat.le_refl _⟩ (fun _ _ hq => ?_)
  obtain ⟨z115, rfl, z115b, z115i, rfl⟩ := hq
  show sx_V _ _ _ _ (0, 0) _ _ [.inl z115] (gm M1) _
  refine sx_if_eq (tgt := 30) d_M_learned_5 (by decide) (by omega) (fun c5_16 => ?_) (fun c5_16 => ?_)
  · omega
  · refine sx_iload_n d_M_learned_8 rfl ?_
    refine sx_iconst d_M_learned_9 ?_
    refine sx_sipush d_M_learned_10 (by decide) ?_
    refine sx_callS (c_M_within M1 p 1 10000 (by omega) (by omega) (by omega)) d_M_learned_13 cd_M_within lk_M_103 st_M_within (st := []) rfl rfl (Nat.le_of_ble_eq_true rfl) ⟨by decide, Nat.le_refl _, Nat.le_refl _⟩ (fun _ _ hq => ?_)
    obtain ⟨z116, rfl, z116b, z116i, rfl⟩ := hq
    show sx_V _ _ _ _ (0, 0) _ _ [.inl z116] (gm M1) _
    refine sx_if_eq (tgt := 30) d_M_learned_16 (by decide) (by omega) (fun c16_24 => ?_) (fun c16_24 => ?_)
    · omega
    · refine sx_iload_n d_M_learned_19 rfl ?_
      refine sx_iconst d_M_learned_20 ?_
      refine sx_sipush d_M_learned_21 (by decide) ?_
      refine sx_callS (c_M_within M1 d 1 1000 (by omega) (by omega) (by omega)) d_M_learned_24 cd_M_within lk_M_103 st_M_within (st := []) rfl rfl (Nat.le_of_ble_eq_true rfl) ⟨by decide, Nat.le_refl _, Nat.le_refl _⟩ (fun _ _ hq => ?_)
      obtain ⟨z117, rfl, z117b, z117i, rfl⟩ := hq
      show sx_V _ _ _ _ (0, 0) _ _ [.inl z117] (gm M1) _
      refine sx_if_ne (tgt := 32) d_M_learned_27 (by decide) (by omega) (fun c27_32 => ?_) (fun c27_32 => ?_)
      · refine sx_iload_n d_M_learned_32 rfl ?_
        refine sx_iload_n d_M_learned_33 rfl ?_
        refine sx_idiv d_M_learned_34 (by omega) (by omega) (by omega) ?_
        refine sx_istore (l' := [some (sx_p 51), some (.inl (w : Int)), some (.inl p), some (.inl d), some (.inl (Int.tdiv p d))]) d_M_learned_35 (by decide) rfl rfl ?_
        refine sx_aload_n d_M_learned_37 rfl ?_
        refine sx_getR (r := some (56)) d_M_learned_38 fl_M_22 (go rfl rfl rfl) (by decide) (by decide) (by decide) rfl ?_
        refine sx_iload_n d_M_learned_41 rfl ?_
        refine sx_iload d_M_learned_42 rfl ?_
        refine sx_iconst d_M_learned_44 ?_
        refine sx_icmp_ge (tgt := 52) d_M_learned_45 (by decide) (by omega) ⟨by decide, by decide⟩ (fun c45_42 => ?_) (fun c45_42 => ?_)
        · refine sx_iload d_M_learned_52 rfl ?_
          refine sx_bipush d_M_learned_54 (by decide) ?_
          refine sx_icmp_le (tgt := 64) d_M_learned_56 (by decide) (by omega) ⟨by decide, by decide⟩ (fun c56_45 => ?_) (fun c56_45 => ?_)
          · refine sx_iload d_M_learned_64 rfl ?_
            refine sx_iast (h2 := gm (sx_u M1 56 w (Int.tdiv p d))) d_M_learned_66 (go rfl rfl rfl) (by omega) (by omega) (by decide) rfl ?_
            refine sx_aload_n d_M_learned_67 rfl ?_
            refine sx_callV (c_M_chg (sx_u M1 56 w (Int.tdiv p d)) ((M1R).u _ _ (by omega))) d_M_learned_68 cd_M_changed lk_M_110 im_M_changed se_M_changed (go rfl rfl rfl) rfl rfl (by decide) (st := []) rfl rfl (Nat.le_of_ble_eq_true rfl) ⟨by decide, Nat.le_refl _, Nat.le_refl _⟩ (fun _ _ hq => ?_)
            obtain ⟨rfl, h7m, rfl, h7mg⟩ := hq
            show sx_V _ _ _ _ (0, 0) _ _ [] (gm h7m) _
            refine sx_aload_n d_M_learned_71 rfl ?_
            refine sx_getR (r := some (56)) d_M_learned_72 fl_M_22 (go rfl rfl rfl) (by decide) (by decide) (by decide) rfl ?_
            refine sx_iload_n d_M_learned_75 rfl ?_
            refine sx_iald (z := (Int.tdiv p d)) d_M_learned_76 (go rfl rfl rfl) (by omega) (by omega) (by decide) (((h7mg).1 56 w (by omega)).trans (by rw [sx_u_ne (by decide), sx_us])) ?_
            refine sx_retI d_M_learned_77 (Or.inl rfl) ⟨Nat.zero_le _, Nat.zero_le _⟩ ?_
            have ev : (Int.tdiv p d) = v := by (rw [hv]; (try rw [tq]); (repeat first | rw [if_pos (by omega)] | rw [if_neg (by omega)]))
            rw [← ev]
            exact ⟨rfl, _, rfl, h7mg⟩
          · refine sx_bipush d_M_learned_59 (by decide) ?_
            refine sx_goto (tgt := 66) d_M_learned_61 (by decide) ?_
            refine sx_iast (h2 := gm (sx_u M1 56 w 50)) d_M_learned_66 (go rfl rfl rfl) (by omega) (by omega) (by decide) rfl ?_
            refine sx_aload_n d_M_learned_67 rfl ?_
            refine sx_callV (c_M_chg (sx_u M1 56 w 50) ((M1R).u _ _ (by omega))) d_M_learned_68 cd_M_changed lk_M_110 im_M_changed se_M_changed (go rfl rfl rfl) rfl rfl (by decide) (st := []) rfl rfl (Nat.le_of_ble_eq_true rfl) ⟨by decide, Nat.le_refl _, Nat.le_refl _⟩ (fun _ _ hq => ?_)
            obtain ⟨rfl, h8m, rfl, h8mg⟩ := hq
            show sx_V _ _ _ _ (0, 0) _ _ [] (gm h8m) _
            refine sx_aload_n d_M_learned_71 rfl ?_
            refine sx_getR (r := some (56)) d_M_learned_72 fl_M_22 (go rfl rfl rfl) (by decide) (by decide) (by decide) rfl ?_
            refine sx_iload_n d_M_learned_75 rfl ?_
            refine sx_iald (z := 50) d_M_learned_76 (go rfl rfl rfl) (by omega) (by omega) (by decide) (((h8mg).1 56 w (by omega)).trans (by rw [sx_u_ne (by decide), sx_us])) ?_
            refine sx_retI d_M_learned_77 (Or.inl rfl) ⟨Nat.zero_le _, Nat.zero_le _⟩ ?_
            have ev : 50 = v := by (rw [hv]; (try rw [tq]); (repeat first | rw [if_pos (by omega)] | rw [if_neg (by omega)]))
            rw [← ev]
            exact ⟨rfl, _, rfl, h8mg⟩
        · refine sx_iconst d_M_learned_48 ?_
          refine sx_goto (tgt := 66) d_M_learned_49 (by decide) ?_
          refine sx_iast (h2 := gm (sx_u M1 56 w 1)) d_M_learned_66 (go rfl rfl rfl) (by omega) (by omega) (by decide) rfl ?_
          refine sx_aload_n d_M_learned_67 rfl ?_
          refine sx_callV (c_M_chg (sx_u M1 56 w 1) ((M1R).u _ _ (by omega))) d_M_learned_68 cd_M_changed lk_M_110 im_M_changed se_M_changed (go rfl rfl rfl) rfl rfl (by decide) (st := []) rfl rfl (Nat.le_of_ble_eq_true rfl) ⟨by decide, Nat.le_refl _, Nat.le_refl _⟩ (fun _ _ hq => ?_)
          obtain ⟨rfl, h9m, rfl, h9mg⟩ := hq
          show sx_V _ _ _ _ (0, 0) _ _ [] (gm h9m) _
          refine sx_aload_n d_M_learned_71 rfl ?_
          refine sx_getR (r := some (56)) d_M_learned_72 fl_M_22 (go rfl rfl rfl) (by decide) (by decide) (by decide) rfl ?_
          refine sx_iload_n d_M_learned_75 rfl ?_
          refine sx_iald (z := 1) d_M_learned_76 (go rfl rfl rfl) (by omega) (by omega) (by decide) (((h9mg).1 56 w (by omega)).trans (by rw [sx_u_ne (by decide), sx_us])) ?_
          refine sx_retI d_M_learned_77 (Or.inl rfl) ⟨Nat.zero_le _, Nat.zero_le _⟩ ?_
          have ev : 1 = v := by (rw [hv]; (try rw [tq]); (repeat first | rw [if_pos (by omega)] | rw [if_neg (by omega)]))
          rw [← ev]
          exact ⟨rfl, _, rfl, h9mg⟩
      · omega
