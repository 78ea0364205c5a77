/-- an answer of yes or no, as a number -/
theorem z_of {P : Prop} [Decidable P] {y : sx_Y} {k : Nat × Nat × Nat} {L : Nat} {xs : Nat → Int32} {av : List sx_v} {h : sx_h} {M : Nat → Nat → Int} (q : sx_R y k L xs av h (fun v h2 => v = some (.inl (if P then 1 else 0)) ∧ h2 = gm M)) : sx_R y k L xs av h (fun v h2 => ∃ z, v = some (.inl z) ∧ (z = 0 ∨ z = 1) ∧ (z = 1 ↔ P) ∧ h2 = gm M) := by
  refine q.mono ?_
  rintro v h2 ⟨rfl, rfl⟩
  refine ⟨_, rfl, ?_, ?_, rfl⟩
  · split <;> omega
  · split
    · rename_i h; exact ⟨fun _ => h, fun _ => rfl⟩
    · rename_i h; exact ⟨fun k => absurd k (by decide), fun k => absurd k h⟩
set_option maxRecDepth 100000 in
set_option maxHeartbeats 4000000 in
theorem c_T_isKind {L : Nat} {xs : Nat → Int32} (M : Nat → Nat → Int) (kd : Int) (hk : sx_r kd) : sx_R y_T_isKind (1, 0, 0) L xs [.inl kd] (gm M) (fun v h2 => ∃ z, v = some (.inl z) ∧ (z = 0 ∨ z = 1) ∧ (z = 1 ↔ 0 ≤ kd ∧ kd ≤ 3) ∧ h2 = gm M) := by
  refine sx_enter rfl (Nat.le_of_ble_eq_true rfl) rfl ?_
  show sx_V y_T_isKind (1, 0, 0) L xs (0, 0) 0 [some (.inl kd)] [] (gm M) _
  refine sx_iload_n d_T_isKind_0 rfl ?_
  refine sx_iconst d_T_isKind_1 ?_
  refine sx_iconst d_T_isKind_2 ?_
  refine sx_callS (z_of (c_isWithin M kd 0 3 (by omega) (by omega) (by omega))) d_T_isKind_3 cd_T_isWithin lk_T_76 st_T_isWithin (st := []) rfl rfl (Nat.le_of_ble_eq_true rfl) ⟨by decide, Nat.le_refl _, Nat.le_refl _⟩ (fun _ _ hq => ?_)
  obtain ⟨z1, rfl, z1b, z1i, rfl⟩ := hq
  show sx_V _ _ _ _ (0, 0) _ _ [.inl z1] (gm M) _
  refine sx_retI d_T_isKind_6 (Or.inr ⟨rfl, by first | exact Or.inl rfl | exact Or.inr rfl | omega⟩) ⟨Nat.zero_le _, Nat.zero_le _⟩ ?_
  refine ⟨_, rfl, ?_, ?_, rfl⟩ <;> omega
set_option maxRecDepth 100000 in
set_option maxHeartbeats 4000000 in
theorem c_T_isWork {L : Nat} {xs : Nat → Int32} (M : Nat → Nat → Int) (nw : Nat) (hnw : M 2 9 = (nw : Int)) (h6 : nw ≤ 6) (w : Int) (hw : sx_r w) : sx_R y_T_isWork (0, 0, 0) L xs [sx_p 1, .inl w] (gm M) (fun v h2 => ∃ z, v = some (.inl z) ∧ (z = 0 ∨ z = 1) ∧ (z = 1 ↔ 0 ≤ w ∧ w < nw) ∧ h2 = gm M) := by
  refine sx_enter rfl (Nat.le_of_ble_eq_true rfl) rfl ?_
  show sx_V y_T_isWork (0, 0, 0) L xs (0, 0) 0 [some (sx_p 1), some (.inl w)] [] (gm M) _
  refine sx_iload_n d_T_isWork_0 rfl ?_
  refine sx_if_lt (tgt := 19) d_T_isWork_1 (by decide) (by omega) (fun c1_6 => ?_) (fun c1_6 => ?_)
  · refine sx_iconst d_T_isWork_19 ?_
    refine sx_retI d_T_isWork_20 (Or.inr ⟨rfl, by first | exact Or.inl rfl | exact Or.inr rfl | omega⟩) ⟨Nat.zero_le _, Nat.zero_le _⟩ ?_
    refine ⟨_, rfl, ?_, ?_, rfl⟩ <;> omega
  · refine sx_iload_n d_T_isWork_4 rfl ?_
    refine sx_aload_n d_T_isWork_5 rfl ?_
    refine sx_getR (r := some (2)) d_T_isWork_6 fl_T_10 (go rfl rfl rfl) (by decide) (by decide) (by decide) rfl ?_
    refine sx_getI (z := (nw : Int)) d_T_isWork_9 fl_T_80 (go rfl rfl rfl) (by decide) (by decide) (by decide) hnw ?_
    refine sx_icmp_ge (tgt := 19) d_T_isWork_12 (by decide) (by omega) (by omega) (fun c12_14 => ?_) (fun c12_14 => ?_)
    · refine sx_iconst d_T_isWork_19 ?_
      refine sx_retI d_T_isWork_20 (Or.inr ⟨rfl, by first | exact Or.inl rfl | exact Or.inr rfl | omega⟩) ⟨Nat.zero_le _, Nat.zero_le _⟩ ?_
      refine ⟨_, rfl, ?_, ?_, rfl⟩ <;> omega
    · refine sx_iconst d_T_isWork_15 ?_
      refine sx_goto (tgt := 20) d_T_isWork_16 (by decide) ?_
      refine sx_retI d_T_isWork_20 (Or.inr ⟨rfl, by first | exact Or.inl rfl | exact Or.inr rfl | omega⟩) ⟨Nat.zero_le _, Nat.zero_le _⟩ ?_
      refine ⟨_, rfl, ?_, ?_, rfl⟩ <;> omega
set_option maxRecDepth 100000 in
set_option maxHeartbeats 4000000 in
theorem c_T_isPlanned {L : Nat} {xs : Nat → Int32} (M : Nat → Nat → Int) (hR : IR M) (nw : Nat) (hnw : M 2 9 = (nw : Int)) (h6 : nw ≤ 6) (w : Int) (hw : sx_r w) : sx_R y_T_isPlanned (1, 0, 0) L xs [sx_p 1, .inl w] (gm M) (fun v h2 => ∃ z, v = some (.inl z) ∧ (z = 0 ∨ z = 1) ∧ (z = 1 ↔ M 1 7 ≠ 0 ∧ 0 ≤ w ∧ w < nw) ∧ h2 = gm M) := by
  refine sx_enter rfl (Nat.le_of_ble_eq_true rfl) rfl ?_
  show sx_V y_T_isPlanned (1, 0, 0) L xs (0, 0) 0 [some (sx_p 1), some (.inl w)] [] (gm M) _
  refine sx_aload_n d_T_isPlanned_0 rfl ?_
  refine sx_getI (z := (M 1 7)) d_T_isPlanned_1 fl_T_186 (go rfl rfl rfl) (by decide) (by decide) (by decide) rfl ?_
  refine sx_if_eq (tgt := 19) d_T_isPlanned_4 (by decide) (hR _ _) (fun c4_7 => ?_) (fun c4_7 => ?_)
  · refine sx_iconst d_T_isPlanned_19 ?_
    refine sx_retI d_T_isPlanned_20 (Or.inr ⟨rfl, by first | exact Or.inl rfl | exact Or.inr rfl | omega⟩) ⟨Nat.zero_le _, Nat.zero_le _⟩ ?_
    refine ⟨_, rfl, ?_, ?_, rfl⟩ <;> omega
  · refine sx_aload_n d_T_isPlanned_7 rfl ?_
    refine sx_iload_n d_T_isPlanned_8 rfl ?_
    refine sx_callV (c_T_isWork M nw hnw h6 w (by omega)) d_T_isPlanned_9 cd_T_isWork lk_T_87 im_T_isWork se_T_isWork (go rfl rfl rfl) rfl rfl (by decide) (st := []) rfl rfl (Nat.le_of_ble_eq_true rfl) ⟨by decide, Nat.le_refl _, Nat.le_refl _⟩ (fun _ _ hq => ?_)
    obtain ⟨z2, rfl, z2b, z2i, rfl⟩ := hq
    show sx_V _ _ _ _ (0, 0) _ _ [.inl z2] (gm M) _
    refine sx_if_eq (tgt := 19) d_T_isPlanned_12 (by decide) (by omega) (fun c12_16 => ?_) (fun c12_16 => ?_)
    · refine sx_iconst d_T_isPlanned_19 ?_
      refine sx_retI d_T_isPlanned_20 (Or.inr ⟨rfl, by first | exact Or.inl rfl | exact Or.inr rfl | omega⟩) ⟨Nat.zero_le _, Nat.zero_le _⟩ ?_
      refine ⟨_, rfl, ?_, ?_, rfl⟩ <;> omega
    · refine sx_iconst d_T_isPlanned_15 ?_
      refine sx_goto (tgt := 20) d_T_isPlanned_16 (by decide) ?_
      refine sx_retI d_T_isPlanned_20 (Or.inr ⟨rfl, by first | exact Or.inl rfl | exact Or.inr rfl | omega⟩) ⟨Nat.zero_le _, Nat.zero_le _⟩ ?_
      refine ⟨_, rfl, ?_, ?_, rfl⟩ <;> omega
/-- the plan is forgotten, and what is late and frozen -/
def fgt (nw : Nat) (Ma M2 : Nat → Nat → Int) : Prop := (∀ a k, ¬ (a = 1 ∧ k = 7) → ¬ (14 ≤ a ∧ a < 14 + nw ∧ (k = 9 ∨ k = 10)) → M2 a k = Ma a k) ∧ M2 1 7 = 0 ∧ (∀ w, w < nw → M2 (14 + w) 9 = 0 ∧ M2 (14 + w) 10 = 0) ∧ IR M2
set_option maxRecDepth 100000 in
set_option maxHeartbeats 4000000 in
theorem l_T_fgt {L : Nat} {xs : Nat → Int32} (M : Nat → Nat → Int) (nw : Nat) (hnw : M 2 9 = (nw : Int)) (h6 : nw ≤ 6) : ∀ (n i : Nat) (M1 : Nat → Nat → Int), nw - i < n → i ≤ nw → (∀ a k, ¬ (14 ≤ a ∧ a < 14 + nw ∧ (k = 9 ∨ k = 10)) → M1 a k = M a k) → (∀ w, w < i → M1 (14 + w) 9 = 0 ∧ M1 (14 + w) 10 = 0) → IR M1 → sx_V y_T_forgetPlan (0, 0, 0) L xs (0, 0) 7 [some (sx_p 1), some (.inl (i : Int))] [] (gm M1) (fun v h2 => v = none ∧ ∃ M2, h2 = gm M2 ∧ (∀ a k, ¬ (14 ≤ a ∧ a < 14 + nw ∧ (k = 9 ∨ k = 10)) → M2 a k = M a k) ∧ (∀ w, w < nw → M2 (14 + w) 9 = 0 ∧ M2 (14 + w) 10 = 0) ∧ IR M2) := by
  intro n
  induction n with
  | zero => intro i M1 h1 h2; omega
  | succ n ih =>
    intro i M1 hn hi hfr hz hR1
    refine sx_iload_n d_T_forgetPlan_7 rfl ?_
    refine sx_aload_n d_T_forgetPlan_8 rfl ?_
    refine sx_getR (r := some (2)) d_T_forgetPlan_9 fl_T_10 (go rfl rfl rfl) (by decide) (by decide) (by decide) rfl ?_
    refine sx_getI (z := (nw : Int)) d_T_forgetPlan_12 fl_T_80 (go rfl rfl rfl) (by decide) (by decide) (by decide) ((hfr 2 9 (by omega)).trans hnw) ?_
    refine sx_icmp_ge (tgt := 50) d_T_forgetPlan_15 (by decide) (by omega) (by omega) (fun c15_12 => ?_) (fun c15_12 => ?_)
    · refine sx_retV d_T_forgetPlan_50 rfl ⟨Nat.zero_le _, Nat.zero_le _⟩ ?_
      have e0 : i = nw := by omega
      subst e0
      exact ⟨rfl, _, rfl, hfr, hz, hR1⟩
    · refine sx_aload_n d_T_forgetPlan_18 rfl ?_
      refine sx_getR (r := some (2)) d_T_forgetPlan_19 fl_T_10 (go rfl rfl rfl) (by decide) (by decide) (by decide) rfl ?_
      refine sx_getR (r := some (8)) d_T_forgetPlan_22 fl_T_94 (go rfl rfl rfl) (by decide) (by decide) (by decide) rfl ?_
      refine sx_iload_n d_T_forgetPlan_25 rfl ?_
      refine sx_aald (r := some ((14 + i))) d_T_forgetPlan_26 (go rfl rfl rfl) (t := 0) rfl (by omega) (by omega) (by decide) (gr_w _ (by omega)) ?_
      refine sx_iconst d_T_forgetPlan_27 ?_
      refine sx_putI (h2 := gm (sx_u M1 (14 + i) 9 0)) d_T_forgetPlan_28 fl_T_203 (go_w _ (by omega)) (by decide) (by decide) (by decide) (fun q hq => Or.inl (nf_K_9 q hq)) (Or.inl rfl) rfl ?_
      refine sx_aload_n d_T_forgetPlan_31 rfl ?_
      refine sx_getR (r := some (2)) d_T_forgetPlan_32 fl_T_10 (go rfl rfl rfl) (by decide) (by decide) (by decide) rfl ?_
      refine sx_getR (r := some (8)) d_T_forgetPlan_35 fl_T_94 (go rfl rfl rfl) (by decide) (by decide) (by decide) rfl ?_
      refine sx_iload_n d_T_forgetPlan_38 rfl ?_
      refine sx_aald (r := some ((14 + i))) d_T_forgetPlan_39 (go rfl rfl rfl) (t := 0) rfl (by omega) (by omega) (by decide) (gr_w _ (by omega)) ?_
      refine sx_iconst d_T_forgetPlan_40 ?_
      refine sx_putI (h2 := gm (sx_u (sx_u M1 (14 + i) 9 0) (14 + i) 10 0)) d_T_forgetPlan_41 fl_T_206 (go_w _ (by omega)) (by decide) (by decide) (by decide) (fun q hq => Or.inl (nf_K_10 q hq)) (Or.inr ⟨rfl, (Or.inl rfl)⟩) rfl ?_
      refine sx_iinc (l' := [some (sx_p 1), some (.inl ((i : Int) + 1))]) d_T_forgetPlan_44 rfl (by decide) rfl rfl ?_
      refine sx_goto (tgt := 7) d_T_forgetPlan_47 (by decide) ?_
      have e1 : ((i : Int) + 1) = ((i + 1 : Nat) : Int) := by omega
      rw [e1]
      refine ih (i + 1) _ (by omega) (by omega) (fun a k h1 => ?_) (fun i2 hi2 => ?_) ((hR1.u _ _ ⟨by decide, by decide⟩).u _ _ ⟨by decide, by decide⟩)
      · rw [show sx_u (sx_u M1 (14 + i) 9 0) (14 + i) 10 0 a k = M1 a k by (unfold sx_u; rw [if_neg (by omega), if_neg (by omega)])]; exact hfr a k h1
      · by_cases q : i2 = i
        · subst q; exact ⟨by simp [sx_u], by simp [sx_u]⟩
        · rw [sx_u_ne (by omega), sx_u_ne (by omega), sx_u_ne (by omega), sx_u_ne (by omega)]; exact hz i2 (by omega)
set_option maxRecDepth 100000 in
set_option maxHeartbeats 4000000 in
theorem c_T_fgt {L : Nat} {xs : Nat → Int32} (M : Nat → Nat → Int) (hR : IR M) (nw : Nat) (hnw : M 2 9 = (nw : Int)) (h6 : nw ≤ 6) : sx_R y_T_forgetPlan (0, 0, 0) L xs [sx_p 1] (gm M) (fun v h2 => v = none ∧ ∃ M2, h2 = gm M2 ∧ fgt nw M M2) := by
  refine sx_enter rfl (Nat.le_of_ble_eq_true rfl) rfl ?_
  show sx_V y_T_forgetPlan (0, 0, 0) L xs (0, 0) 0 [some (sx_p 1), none] [] (gm M) _
  refine sx_aload_n d_T_forgetPlan_0 rfl ?_
  refine sx_iconst d_T_forgetPlan_1 ?_
  refine sx_putI (h2 := gm (sx_u M 1 7 0)) d_T_forgetPlan_2 fl_T_186 (go rfl rfl rfl) (by decide) (by decide) (by decide) (fun q hq => Or.inl (nf_T_7 q hq)) (Or.inr ⟨rfl, (Or.inl rfl)⟩) rfl ?_
  refine sx_iconst d_T_forgetPlan_5 ?_
  refine sx_istore_n (l' := [some (sx_p 1), some (.inl 0)]) d_T_forgetPlan_6 (by decide) rfl rfl ?_
  refine (l_T_fgt (sx_u M 1 7 0) nw hnw h6 (nw + 1) 0 _ (by omega) (by omega) (fun _ _ _ => rfl) (fun _ h => absurd h (Nat.not_lt_zero _)) (hR.u _ _ ⟨by decide, by decide⟩)).mono ?_
  rintro v h2 ⟨rfl, M2, rfl, k1, k2, k3⟩
  exact ⟨rfl, M2, rfl, fun a k h1 h2 => by rw [k1 a k h2]; unfold sx_u; rw [if_neg h1], by rw [k1 1 7 (by omega)]; rfl, k2, k3⟩
set_option maxRecDepth 100000 in
set_option maxHeartbeats 4000000 in
theorem l_T_gcd {L : Nat} {xs : Nat → Int32} (M : Nat → Nat → Int) (t s : Int) (ht : 0 ≤ t ∧ t ≤ 1000000) (hs : 1 ≤ s ∧ s ≤ 50) : ∀ (n : Nat) (d : Int), d.toNat < n → 1 ≤ d → d ≤ s → (∀ e, 1 ≤ e → e ∣ t → e ∣ s → e ≤ d) → sx_V y_T_commonDivisor (0, 0, 0) L xs (0, 0) 2 [some (.inl t), some (.inl s), some (.inl d)] [] (gm M) (fun v h2 => ∃ z, v = some (.inl z) ∧ h2 = gm M ∧ 1 ≤ z ∧ z ∣ t ∧ z ∣ s ∧ ∀ e, 1 ≤ e → e ∣ t → e ∣ s → e ≤ z) := by
  intro n
  induction n with
  | zero => intro d h1 h2; omega
  | succ n ih =>
    intro d hn hd hds hup
    refine sx_iload_n d_T_commonDivisor_2 rfl ?_
    refine sx_iconst d_T_commonDivisor_3 ?_
    refine sx_icmp_le (tgt := 27) d_T_commonDivisor_4 (by decide) (by first | omega | (rw [Int.tmod_eq_emod_of_nonneg (by omega)]; have q1 := Int.emod_nonneg t (show d ≠ 0 by omega); have q2 := Int.emod_lt_of_pos t (show 0 < d by omega); have q3 := Int.emod_nonneg s (show d ≠ 0 by omega); have q4 := Int.emod_lt_of_pos s (show 0 < d by omega); omega)) ⟨by decide, by decide⟩ (fun c4_10 => ?_) (fun c4_10 => ?_)
    · refine sx_iconst d_T_commonDivisor_27 ?_
      refine sx_retI d_T_commonDivisor_28 (Or.inl rfl) ⟨Nat.zero_le _, Nat.zero_le _⟩ ?_
      refine ⟨_, rfl, rfl, by decide, Int.one_dvd _, Int.one_dvd _, fun e h1 h2 h3 => ?_⟩
      have := hup e h1 h2 h3
      omega
    · refine sx_iload_n d_T_commonDivisor_7 rfl ?_
      refine sx_iload_n d_T_commonDivisor_8 rfl ?_
      refine sx_irem d_T_commonDivisor_9 (by first | omega | (rw [Int.tmod_eq_emod_of_nonneg (by omega)]; have q1 := Int.emod_nonneg t (show d ≠ 0 by omega); have q2 := Int.emod_lt_of_pos t (show 0 < d by omega); have q3 := Int.emod_nonneg s (show d ≠ 0 by omega); have q4 := Int.emod_lt_of_pos s (show 0 < d by omega); omega)) (by first | omega | (rw [Int.tmod_eq_emod_of_nonneg (by omega)]; have q1 := Int.emod_nonneg t (show d ≠ 0 by omega); have q2 := Int.emod_lt_of_pos t (show 0 < d by omega); have q3 := Int.emod_nonneg s (show d ≠ 0 by omega); have q4 := Int.emod_lt_of_pos s (show 0 < d by omega); omega)) (by omega) ?_
      refine sx_if_ne (tgt := 21) d_T_commonDivisor_10 (by decide) (by first | omega | (rw [Int.tmod_eq_emod_of_nonneg (by omega)]; have q1 := Int.emod_nonneg t (show d ≠ 0 by omega); have q2 := Int.emod_lt_of_pos t (show 0 < d by omega); have q3 := Int.emod_nonneg s (show d ≠ 0 by omega); have q4 := Int.emod_lt_of_pos s (show 0 < d by omega); omega)) (fun c10_19 => ?_) (fun c10_19 => ?_)
      · refine sx_iinc (l' := [some (.inl t), some (.inl s), some (.inl (d + (-1)))]) d_T_commonDivisor_21 rfl (by decide) rfl rfl ?_
        refine sx_goto (tgt := 2) d_T_commonDivisor_24 (by decide) ?_
        have e1 : d + (-1) = d - 1 := by omega
        rw [e1]
        refine ih (d - 1) (by omega) (by omega) (by omega) (fun e h1 h2 h3 => ?_)
        have k := hup e h1 h2 h3
        rcases Int.lt_or_le e d with q | q
        · omega
        · exfalso
          have q2 : e = d := by omega
          subst q2
          rw [Int.tmod_eq_emod_of_nonneg (by omega)] at *
          have k2 := Int.emod_eq_zero_of_dvd h2
          have k3 := Int.emod_eq_zero_of_dvd h3
          omega
      · refine sx_iload_n d_T_commonDivisor_13 rfl ?_
        refine sx_iload_n d_T_commonDivisor_14 rfl ?_
        refine sx_irem d_T_commonDivisor_15 (by first | omega | (rw [Int.tmod_eq_emod_of_nonneg (by omega)]; have q1 := Int.emod_nonneg t (show d ≠ 0 by omega); have q2 := Int.emod_lt_of_pos t (show 0 < d by omega); have q3 := Int.emod_nonneg s (show d ≠ 0 by omega); have q4 := Int.emod_lt_of_pos s (show 0 < d by omega); omega)) (by first | omega | (rw [Int.tmod_eq_emod_of_nonneg (by omega)]; have q1 := Int.emod_nonneg t (show d ≠ 0 by omega); have q2 := Int.emod_lt_of_pos t (show 0 < d by omega); have q3 := Int.emod_nonneg s (show d ≠ 0 by omega); have q4 := Int.emod_lt_of_pos s (show 0 < d by omega); omega)) (by omega) ?_
        refine sx_if_ne (tgt := 21) d_T_commonDivisor_16 (by decide) (by first | omega | (rw [Int.tmod_eq_emod_of_nonneg (by omega)]; have q1 := Int.emod_nonneg t (show d ≠ 0 by omega); have q2 := Int.emod_lt_of_pos t (show 0 < d by omega); have q3 := Int.emod_nonneg s (show d ≠ 0 by omega); have q4 := Int.emod_lt_of_pos s (show 0 < d by omega); omega)) (fun c16_38 => ?_) (fun c16_38 => ?_)
        · refine sx_iinc (l' := [some (.inl t), some (.inl s), some (.inl (d + (-1)))]) d_T_commonDivisor_21 rfl (by decide) rfl rfl ?_
          refine sx_goto (tgt := 2) d_T_commonDivisor_24 (by decide) ?_
          have e1 : d + (-1) = d - 1 := by omega
          rw [e1]
          refine ih (d - 1) (by omega) (by omega) (by omega) (fun e h1 h2 h3 => ?_)
          have k := hup e h1 h2 h3
          rcases Int.lt_or_le e d with q | q
          · omega
          · exfalso
            have q2 : e = d := by omega
            subst q2
            rw [Int.tmod_eq_emod_of_nonneg (by omega)] at *
            have k2 := Int.emod_eq_zero_of_dvd h2
            have k3 := Int.emod_eq_zero_of_dvd h3
            omega
        · refine sx_iload_n d_T_commonDivisor_19 rfl ?_
          refine sx_retI d_T_commonDivisor_20 (Or.inl rfl) ⟨Nat.zero_le _, Nat.zero_le _⟩ ?_
          rw [Int.tmod_eq_emod_of_nonneg (by omega)] at *
          refine ⟨_, rfl, rfl, by omega, Int.dvd_of_emod_eq_zero (by assumption), Int.dvd_of_emod_eq_zero (by assumption), hup⟩
set_option maxRecDepth 100000 in
set_option maxHeartbeats 4000000 in
theorem c_T_gcd {L : Nat} {xs : Nat → Int32} (M : Nat → Nat → Int) (t s : Int) (ht : 0 ≤ t ∧ t ≤ 1000000) (hs : 1 ≤ s ∧ s ≤ 50) : sx_R y_T_commonDivisor (0, 0, 0) L xs [.inl t, .inl s] (gm M) (fun v h2 => ∃ z, v = some (.inl z) ∧ h2 = gm M ∧ 1 ≤ z ∧ z ∣ t ∧ z ∣ s ∧ ∀ e, 1 ≤ e → e ∣ t → e ∣ s → e ≤ z) := by
  refine sx_enter rfl (Nat.le_of_ble_eq_true rfl) rfl ?_
  show sx_V y_T_commonDivisor (0, 0, 0) L xs (0, 0) 0 [some (.inl t), some (.inl s), none] [] (gm M) _
  refine sx_iload_n d_T_commonDivisor_0 rfl ?_
  refine sx_istore_n (l' := [some (.inl t), some (.inl s), some (.inl s)]) d_T_commonDivisor_1 (by decide) rfl rfl ?_
  exact l_T_gcd M t s ht hs 51 s (by omega) hs.1 (Int.le_refl _) (fun e h1 h2 h3 => Int.le_of_dvd (by omega) h3)
set_option maxRecDepth 100000 in
set_option maxHeartbeats 4000000 in
theorem c_S_seek {L : Nat} {xs : Nat → Int32} (M : Nat → Nat → Int) (ag g : Int) (nw nb : Nat) (hP : PH M nw nb) (hg : 1 ≤ g ∧ g ≤ 20000) (hag : ag = 0 ∨ ag = 1) (h1 : 1 ≤ nw) (S D : Nat → Int) : sx_R y_S_seek (20, 0, 0) L xs [sx_p 25, .inl g, .inl ag] (gm M) (fun v h2 => v = none ∧ ∃ M3, h2 = gm M3 ∧ ST M ag g nw 0 S D (fs g (GG M ag nw nb) (CC M) nw 0 S D (0, none)) M3) := by
  refine sx_enter rfl (Nat.le_of_ble_eq_true rfl) rfl ?_
  show sx_V y_S_seek (20, 0, 0) L xs (0, 0) 0 [some (sx_p 25), some (.inl g), some (.inl ag)] [] (gm M) _
  refine sx_aload_n d_S_seek_0 rfl ?_
  refine sx_iload_n d_S_seek_1 rfl ?_
  refine sx_putI (h2 := gm (sx_u M 25 8 ag)) d_S_seek_2 fl_S_46 (go rfl rfl rfl) (by decide) (by decide) (by decide) (fun q hq => Or.inl (nf_S_8 q hq)) (Or.inr ⟨rfl, hag⟩) rfl ?_
  refine sx_aload_n d_S_seek_5 rfl ?_
  refine sx_iload_n d_S_seek_6 rfl ?_
  refine sx_putI (h2 := gm (sx_u (sx_u M 25 8 ag) 25 9 g)) d_S_seek_7 fl_S_50 (go rfl rfl rfl) (by decide) (by decide) (by decide) (fun q hq => Or.inl (nf_S_9 q hq)) (Or.inl rfl) rfl ?_
  refine sx_aload_n d_S_seek_10 rfl ?_
  refine sx_iconst d_S_seek_11 ?_
  refine sx_putI (h2 := gm (sx_u (sx_u (sx_u M 25 8 ag) 25 9 g) 25 10 0)) d_S_seek_12 fl_S_54 (go rfl rfl rfl) (by decide) (by decide) (by decide) (fun q hq => Or.inl (nf_S_10 q hq)) (Or.inl rfl) rfl ?_
  refine sx_aload_n d_S_seek_15 rfl ?_
  refine sx_iconst d_S_seek_16 ?_
  refine sx_putI (h2 := gm (sx_u (sx_u (sx_u (sx_u M 25 8 ag) 25 9 g) 25 10 0) 25 11 0)) d_S_seek_17 fl_S_57 (go rfl rfl rfl) (by decide) (by decide) (by decide) (fun q hq => Or.inl (nf_S_11 q hq)) (Or.inr ⟨rfl, (Or.inl rfl)⟩) rfl ?_
  refine sx_aload_n d_S_seek_20 rfl ?_
  refine sx_iconst d_S_seek_21 ?_
  refine sx_putI (h2 := gm (sx_u (sx_u (sx_u (sx_u (sx_u M 25 8 ag) 25 9 g) 25 10 0) 25 11 0) 25 12 0)) d_S_seek_22 fl_S_60 (go rfl rfl rfl) (by decide) (by decide) (by decide) (fun q hq => Or.inl (nf_S_12 q hq)) (Or.inr ⟨rfl, (Or.inl rfl)⟩) rfl ?_
  refine sx_aload_n d_S_seek_25 rfl ?_
  refine sx_iconst d_S_seek_26 ?_
  have hST : ST M ag g nw 0 S D ((0, none), false) (sx_u (sx_u (sx_u (sx_u (sx_u M 25 8 ag) 25 9 g) 25 10 0) 25 11 0) 25 12 0) := ⟨fun a k ha => by rw [sx_u_ne (by omega), sx_u_ne (by omega), sx_u_ne (by omega), sx_u_ne (by omega), sx_u_ne (by omega)], ((((hP.2.1.u _ _ (by omega)).u _ _ (by omega)).u _ _ (by omega)).u _ _ (by omega)).u _ _ (by omega), rfl, rfl, rfl, rfl, rfl, fun i hi => absurd hi (Nat.not_lt_zero _)⟩
  refine sx_callV (by have q := c_S_try (L := L) (xs := xs) M ag g nw nb hP hg (by omega) (nw - 1) 0 S D 0 none _ (by omega) (fun i hi => absurd hi (Nat.not_lt_zero _)) hST; exact q) d_S_seek_27 cd_S_tryStarts lk_S_63 im_S_tryStarts se_S_tryStarts (go rfl rfl rfl) rfl rfl (by decide) (st := []) rfl rfl (Nat.le_of_ble_eq_true rfl) ⟨by (show 6 + 2 * (nw - 1) + 1 ≤ 20; have := hP.2.2.2.1; omega), Nat.le_refl _, Nat.le_refl _⟩ (fun _ _ hq => ?_)
  obtain ⟨rfl, M3, rfl, k1, k2⟩ := hq
  show sx_V _ _ _ _ (0, 0) _ _ [] (gm M3) _
  refine sx_retV d_S_seek_30 rfl ⟨Nat.zero_le _, Nat.zero_le _⟩ ?_
  rw [show nw - 1 + 1 = nw by omega] at k1
  exact ⟨rfl, M3, rfl, k1⟩
