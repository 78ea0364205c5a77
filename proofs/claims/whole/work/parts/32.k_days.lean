set_option maxRecDepth 100000 in
set_option maxHeartbeats 4000000 in
theorem c_D_before {L : Nat} {xs : Nat → Int32} (M : Nat → Nat → Int) (hI : IDy M) (d : Int) (hd : sx_r d) : sx_R y_D_before (0, 0, 0) L xs [sx_p 3, .inl d] (gm M) (fun v h2 => v = some (.inl ((dy_b (dr M) d.toNat : Nat) : Int)) ∧ h2 = gm M) := by
  refine sx_enter rfl (Nat.le_of_ble_eq_true rfl) rfl ?_
  show sx_V y_D_before (0, 0, 0) L xs (0, 0) 0 [some (sx_p 3), some (.inl d)] [] (gm M) _
  refine sx_iload_n d_D_before_0 rfl ?_
  refine sx_if_ge (tgt := 6) d_D_before_1 (by decide) hd (fun c1_6 => ?_) (fun c1_6 => ?_)
  · refine sx_iload_n d_D_before_6 rfl ?_
    refine sx_sipush d_D_before_7 (by decide) ?_
    refine sx_icmp_ge (tgt := 22) d_D_before_10 (by decide) hd ⟨by decide, by decide⟩ (fun c10_9 => ?_) (fun c10_9 => ?_)
    · refine sx_iload_n d_D_before_22 rfl ?_
      refine sx_aload_n d_D_before_23 rfl ?_
      refine sx_getI (z := (M 3 3)) d_D_before_24 fl_D_29 (go rfl rfl rfl) (by decide) (by decide) (by decide) rfl ?_
      refine sx_isub d_D_before_27 ?_
      refine sx_retI d_D_before_28 (Or.inl rfl) ⟨Nat.zero_le _, Nat.zero_le _⟩ ?_
      refine ⟨?_, rfl⟩
      congr 2
      first | (rw [show d.toNat = 0 by omega]; rfl) | exact hI.2.1 _ (by omega) | (have e2 := dy_far (dr_far M) (d.toNat - 200); rw [show 200 + (d.toNat - 200) = d.toNat by omega] at e2; have e3 := hI.2.2.2; omega)
    · refine sx_aload_n d_D_before_13 rfl ?_
      refine sx_getR (r := some (5)) d_D_before_14 fl_D_15 (go rfl rfl rfl) (by decide) (by decide) (by decide) rfl ?_
      refine sx_iload_n d_D_before_17 rfl ?_
      refine sx_iald (z := (M 5 (Int.toNat d))) d_D_before_18 (go rfl rfl rfl) (by omega) (by omega) (by decide) rfl ?_
      refine sx_goto (tgt := 28) d_D_before_19 (by decide) ?_
      refine sx_retI d_D_before_28 (Or.inl rfl) ⟨Nat.zero_le _, Nat.zero_le _⟩ ?_
      refine ⟨?_, rfl⟩
      congr 2
      first | (rw [show d.toNat = 0 by omega]; rfl) | exact hI.2.1 _ (by omega) | (have e2 := dy_far (dr_far M) (d.toNat - 200); rw [show 200 + (d.toNat - 200) = d.toNat by omega] at e2; have e3 := hI.2.2.2; omega)
  · refine sx_iconst d_D_before_4 ?_
    refine sx_retI d_D_before_5 (Or.inl rfl) ⟨Nat.zero_le _, Nat.zero_le _⟩ ?_
    refine ⟨?_, rfl⟩
    congr 2
    first | (rw [show d.toNat = 0 by omega]; rfl) | exact hI.2.1 _ (by omega) | (have e2 := dy_far (dr_far M) (d.toNat - 200); rw [show 200 + (d.toNat - 200) = d.toNat by omega] at e2; have e3 := hI.2.2.2; omega)
set_option maxRecDepth 100000 in
set_option maxHeartbeats 4000000 in
theorem c_D_dayOf {L : Nat} {xs : Nat → Int32} (M : Nat → Nat → Int) (hI : IDy M) (n : Int) (hn : sx_r n) (h0 : 0 ≤ n) : sx_R y_D_dayOf (0, 0, 0) L xs [sx_p 3, .inl n] (gm M) (fun v h2 => v = some (.inl ((dn (dr M) n.toNat : Nat) : Int)) ∧ h2 = gm M) := by
  refine sx_enter rfl (Nat.le_of_ble_eq_true rfl) rfl ?_
  show sx_V y_D_dayOf (0, 0, 0) L xs (0, 0) 0 [some (sx_p 3), some (.inl n)] [] (gm M) _
  refine sx_iload_n d_D_dayOf_0 rfl ?_
  refine sx_if_ge (tgt := 6) d_D_dayOf_1 (by decide) hn (fun c1_6 => ?_) (fun c1_6 => ?_)
  · refine sx_iload_n d_D_dayOf_6 rfl ?_
    refine sx_sipush d_D_dayOf_7 (by decide) ?_
    refine sx_aload_n d_D_dayOf_10 rfl ?_
    refine sx_getI (z := (M 3 3)) d_D_dayOf_11 fl_D_29 (go rfl rfl rfl) (by decide) (by decide) (by decide) rfl ?_
    refine sx_isub d_D_dayOf_14 ?_
    refine sx_icmp_ge (tgt := 27) d_D_dayOf_15 (by decide) hn ⟨by have e1 := hI.2.2.2; have e2 := dy_le (dr M) 200; omega, by have e1 := hI.2.2.2; have e2 := dy_le (dr M) 200; omega⟩ (fun c15_12 => ?_) (fun c15_12 => ?_)
    · refine sx_iload_n d_D_dayOf_27 rfl ?_
      refine sx_aload_n d_D_dayOf_28 rfl ?_
      refine sx_getI (z := (M 3 3)) d_D_dayOf_29 fl_D_29 (go rfl rfl rfl) (by decide) (by decide) (by decide) rfl ?_
      refine sx_iadd d_D_dayOf_32 ?_
      refine sx_retI d_D_dayOf_33 (Or.inl rfl) ⟨Nat.zero_le _, Nat.zero_le _⟩ ?_
      refine ⟨?_, rfl⟩
      congr 2
      first | omega | (have e2 := hI.2.2.1 n.toNat (by have e3 := hI.2.2.2; omega); exact e2) | (have e3 := hI.2.2.2; have e4 := dy_le (dr M) 200; have e2 := dy_far (dr_far M) (n.toNat - dy_b (dr M) 200); rw [dn_eq (dr_far M _ (by omega)) (show dy_b (dr M) (200 + (n.toNat - dy_b (dr M) 200)) = n.toNat by omega)]; omega)
    · refine sx_aload_n d_D_dayOf_18 rfl ?_
      refine sx_getR (r := some (6)) d_D_dayOf_19 fl_D_19 (go rfl rfl rfl) (by decide) (by decide) (by decide) rfl ?_
      refine sx_iload_n d_D_dayOf_22 rfl ?_
      refine sx_iald (z := (M 6 (Int.toNat n))) d_D_dayOf_23 (go rfl rfl rfl) (by have e1 := hI.2.2.2; have e2 := dy_le (dr M) 200; omega) (by have e1 := hI.2.2.2; have e2 := dy_le (dr M) 200; omega) (by decide) rfl ?_
      refine sx_goto (tgt := 33) d_D_dayOf_24 (by decide) ?_
      refine sx_retI d_D_dayOf_33 (Or.inl rfl) ⟨Nat.zero_le _, Nat.zero_le _⟩ ?_
      refine ⟨?_, rfl⟩
      congr 2
      first | omega | (have e2 := hI.2.2.1 n.toNat (by have e3 := hI.2.2.2; omega); exact e2) | (have e3 := hI.2.2.2; have e4 := dy_le (dr M) 200; have e2 := dy_far (dr_far M) (n.toNat - dy_b (dr M) 200); rw [dn_eq (dr_far M _ (by omega)) (show dy_b (dr M) (200 + (n.toNat - dy_b (dr M) 200)) = n.toNat by omega)]; omega)
  · refine sx_iconst d_D_dayOf_4 ?_
    refine sx_retI d_D_dayOf_5 (Or.inl rfl) ⟨Nat.zero_le _, Nat.zero_le _⟩ ?_
    refine ⟨?_, rfl⟩
    congr 2
    first | omega | (have e2 := hI.2.2.1 n.toNat (by have e3 := hI.2.2.2; omega); exact e2) | (have e3 := hI.2.2.2; have e4 := dy_le (dr M) 200; have e2 := dy_far (dr_far M) (n.toNat - dy_b (dr M) 200); rw [dn_eq (dr_far M _ (by omega)) (show dy_b (dr M) (200 + (n.toNat - dy_b (dr M) 200)) = n.toNat by omega)]; omega)
set_option maxRecDepth 100000 in
set_option maxHeartbeats 4000000 in
theorem c_D_isWorking {L : Nat} {xs : Nat → Int32} (M : Nat → Nat → Int) (hI : IDy M) (d : Int) (hd : sx_r d) : sx_R y_D_isWorking (0, 0, 0) L xs [sx_p 3, .inl d] (gm M) (fun v h2 => v = some (.inl (if 0 ≤ d ∧ dr M d.toNat = false then 1 else 0)) ∧ h2 = gm M) := by
  refine sx_enter rfl (Nat.le_of_ble_eq_true rfl) rfl ?_
  show sx_V y_D_isWorking (0, 0, 0) L xs (0, 0) 0 [some (sx_p 3), some (.inl d)] [] (gm M) _
  refine sx_iload_n d_D_isWorking_0 rfl ?_
  refine sx_sipush d_D_isWorking_1 (by decide) ?_
  refine sx_icmp_ge (tgt := 20) d_D_isWorking_4 (by decide) hd ⟨by decide, by decide⟩ (fun c4_7 => ?_) (fun c4_7 => ?_)
  · refine sx_iconst d_D_isWorking_20 ?_
    refine sx_goto (tgt := 25) d_D_isWorking_21 (by decide) ?_
    refine sx_retI d_D_isWorking_25 (Or.inr ⟨rfl, by first | exact Or.inl rfl | exact Or.inr rfl | omega⟩) ⟨Nat.zero_le _, Nat.zero_le _⟩ ?_
    refine ⟨?_, rfl⟩
    congr 2
    first | (rw [if_pos ⟨by omega, dr_far M _ (by omega)⟩]) | (rw [if_neg (fun q => absurd q.1 (by omega))]) | (rw [if_pos ⟨by omega, by simp [dr]; intro _; omega⟩]) | (rw [if_neg (fun q => absurd q.2 (by have := hI.1 d.toNat (by omega); simp [dr]; omega))])
  · refine sx_iload_n d_D_isWorking_7 rfl ?_
    refine sx_if_lt (tgt := 24) d_D_isWorking_8 (by decide) hd (fun c8_15 => ?_) (fun c8_15 => ?_)
    · refine sx_iconst d_D_isWorking_24 ?_
      refine sx_retI d_D_isWorking_25 (Or.inr ⟨rfl, by first | exact Or.inl rfl | exact Or.inr rfl | omega⟩) ⟨Nat.zero_le _, Nat.zero_le _⟩ ?_
      refine ⟨?_, rfl⟩
      congr 2
      first | (rw [if_pos ⟨by omega, dr_far M _ (by omega)⟩]) | (rw [if_neg (fun q => absurd q.1 (by omega))]) | (rw [if_pos ⟨by omega, by simp [dr]; intro _; omega⟩]) | (rw [if_neg (fun q => absurd q.2 (by have := hI.1 d.toNat (by omega); simp [dr]; omega))])
    · refine sx_aload_n d_D_isWorking_11 rfl ?_
      refine sx_getR (r := some (4)) d_D_isWorking_12 fl_D_9 (go rfl rfl rfl) (by decide) (by decide) (by decide) rfl ?_
      refine sx_iload_n d_D_isWorking_15 rfl ?_
      refine sx_zald (z := (M 4 (Int.toNat d))) d_D_isWorking_16 (go rfl rfl rfl) (by omega) (by omega) (by decide) rfl ?_
      refine sx_if_ne (tgt := 24) d_D_isWorking_17 (by decide) ⟨by have := hI.1 d.toNat (by omega); omega, by have := hI.1 d.toNat (by omega); omega⟩ (fun c17_25 => ?_) (fun c17_25 => ?_)
      · refine sx_iconst d_D_isWorking_24 ?_
        refine sx_retI d_D_isWorking_25 (Or.inr ⟨rfl, by first | exact Or.inl rfl | exact Or.inr rfl | omega⟩) ⟨Nat.zero_le _, Nat.zero_le _⟩ ?_
        refine ⟨?_, rfl⟩
        congr 2
        first | (rw [if_pos ⟨by omega, dr_far M _ (by omega)⟩]) | (rw [if_neg (fun q => absurd q.1 (by omega))]) | (rw [if_pos ⟨by omega, by simp [dr]; intro _; omega⟩]) | (rw [if_neg (fun q => absurd q.2 (by have := hI.1 d.toNat (by omega); simp [dr]; omega))])
      · refine sx_iconst d_D_isWorking_20 ?_
        refine sx_goto (tgt := 25) d_D_isWorking_21 (by decide) ?_
        refine sx_retI d_D_isWorking_25 (Or.inr ⟨rfl, by first | exact Or.inl rfl | exact Or.inr rfl | omega⟩) ⟨Nat.zero_le _, Nat.zero_le _⟩ ?_
        refine ⟨?_, rfl⟩
        congr 2
        first | (rw [if_pos ⟨by omega, dr_far M _ (by omega)⟩]) | (rw [if_neg (fun q => absurd q.1 (by omega))]) | (rw [if_pos ⟨by omega, by simp [dr]; intro _; omega⟩]) | (rw [if_neg (fun q => absurd q.2 (by have := hI.1 d.toNat (by omega); simp [dr]; omega))])
/-- what counting the working days leaves -/
def cwd_P (M M2 : Nat → Nat → Int) : Prop := (∀ a k, a ≠ 5 → a ≠ 6 → M2 a k = M a k) ∧ (∀ d, d < 200 → M2 5 d = ((dy_b (dr M) d : Nat) : Int)) ∧ (∀ n, n < dy_b (dr M) 200 → M2 6 n = ((dn (dr M) n : Nat) : Int)) ∧ ((∀ a k, sx_r (M a k)) → ∀ a k, sx_r (M2 a k))
set_option maxRecDepth 100000 in
set_option maxHeartbeats 4000000 in
theorem l_D_cwd {L : Nat} {xs : Nat → Int32} (M : Nat → Nat → Int) (h4 : ∀ d, d < 200 → M 4 d = 0 ∨ M 4 d = 1) : ∀ (n i : Nat) (M1 : Nat → Nat → Int), 200 - i < n → i ≤ 200 → (∀ a k, a ≠ 5 → a ≠ 6 → M1 a k = M a k) → (∀ d, d < i → M1 5 d = ((dy_b (dr M) d : Nat) : Int)) → (∀ n, n < dy_b (dr M) i → M1 6 n = ((dn (dr M) n : Nat) : Int)) → ((∀ a k, sx_r (M a k)) → ∀ a k, sx_r (M1 a k)) → sx_V y_D_countWorkingDays (0, 0, 0) L xs (0, 0) 4 [some (sx_p 3), some (.inl ((dy_b (dr M) i : Nat) : Int)), some (.inl (i : Int))] [] (gm M1) (fun v h2 => v = none ∧ ∃ M2, h2 = gm M2 ∧ cwd_P M M2) := by
  intro n
  induction n with
  | zero => intro i M1 h1 h2; omega
  | succ n ih =>
    intro i M1 hn hi hag h5 h6 hIR
    refine sx_iload_n d_D_countWorkingDays_4 rfl ?_
    refine sx_sipush d_D_countWorkingDays_5 (by decide) ?_
    refine sx_icmp_ge (tgt := 43) d_D_countWorkingDays_8 (by decide) ⟨by omega, by omega⟩ ⟨by decide, by decide⟩ (fun c8_10 => ?_) (fun c8_10 => ?_)
    · refine sx_retV d_D_countWorkingDays_43 rfl ⟨Nat.zero_le _, Nat.zero_le _⟩ ?_
      have e0 : i = 200 := by omega
      subst e0
      exact ⟨rfl, _, rfl, hag, h5, h6, hIR⟩
    · have e4 := dy_le (dr M) i
      refine sx_aload_n d_D_countWorkingDays_11 rfl ?_
      refine sx_getR (r := some (5)) d_D_countWorkingDays_12 fl_D_15 (go rfl rfl rfl) (by decide) (by decide) (by decide) rfl ?_
      refine sx_iload_n d_D_countWorkingDays_15 rfl ?_
      refine sx_iload_n d_D_countWorkingDays_16 rfl ?_
      refine sx_iast (h2 := gm (sx_u M1 5 i ((dy_b (dr M) i : Nat) : Int))) d_D_countWorkingDays_17 (go rfl rfl rfl) (by omega) (by omega) (by decide) rfl ?_
      refine sx_aload_n d_D_countWorkingDays_18 rfl ?_
      refine sx_getR (r := some (4)) d_D_countWorkingDays_19 fl_D_9 (go rfl rfl rfl) (by decide) (by decide) (by decide) rfl ?_
      refine sx_iload_n d_D_countWorkingDays_22 rfl ?_
      refine sx_zald (z := (M1 4 i)) d_D_countWorkingDays_23 (go rfl rfl rfl) (by omega) (by omega) (by decide) (by simp [gm, sx_u]) ?_
      refine sx_if_ne (tgt := 37) d_D_countWorkingDays_24 (by decide) ⟨by have e5 := hag 4 i (by decide) (by decide); have e6 := h4 i (by omega); omega, by have e5 := hag 4 i (by decide) (by decide); have e6 := h4 i (by omega); omega⟩ (fun c24_25 => ?_) (fun c24_25 => ?_)
      · have e5 := hag 4 i (by decide) (by decide)
        refine sx_iinc (l' := [some (sx_p 3), some (.inl ((dy_b (dr M) i : Nat) : Int)), some (.inl ((i : Int) + 1))]) d_D_countWorkingDays_37 rfl (by decide) rfl rfl ?_
        refine sx_goto (tgt := 4) d_D_countWorkingDays_40 (by decide) ?_
        have e1 : ((i : Int) + 1) = ((i + 1 : Nat) : Int) := by omega
        rw [e1]
        have h4i := h4 i (by omega)
        have hr0 : dr M i = true := by simp [dr]; omega
        have hs := dy_s (dr M) i
        rw [hr0] at hs
        simp only [if_true] at hs
        have e2 : ((dy_b (dr M) i : Nat) : Int) = ((dy_b (dr M) (i + 1) : Nat) : Int) := by omega
        rw [e2]
        refine ih (i + 1) _ (by omega) (by omega) ?_ ?_ ?_ (fun h a k => by have q := hIR h a k; simp only [sx_u]; (repeat' split) <;> first | exact q | omega)
        · intro a j ha hb
          simp only [sx_u, ha, false_and, if_false]
          exact hag a j ha hb
        · intro d hd
          by_cases q : d = i
          · subst q; simp [sx_u]; omega
          · simp [sx_u, q]; exact h5 d (by omega)
        · intro j hj
          simp [sx_u]; exact h6 j (by omega)
      · have e5 := hag 4 i (by decide) (by decide)
        refine sx_aload_n d_D_countWorkingDays_27 rfl ?_
        refine sx_getR (r := some (6)) d_D_countWorkingDays_28 fl_D_19 (go rfl rfl rfl) (by decide) (by decide) (by decide) rfl ?_
        refine sx_iload_n d_D_countWorkingDays_31 rfl ?_
        refine sx_iload_n d_D_countWorkingDays_32 rfl ?_
        refine sx_iast (h2 := gm (sx_u (sx_u M1 5 i ((dy_b (dr M) i : Nat) : Int)) 6 (Int.toNat ((dy_b (dr M) i : Nat) : Int)) (i : Int))) d_D_countWorkingDays_33 (go rfl rfl rfl) (by omega) (by omega) (by decide) rfl ?_
        refine sx_iinc (l' := [some (sx_p 3), some (.inl (((dy_b (dr M) i : Nat) : Int) + 1)), some (.inl (i : Int))]) d_D_countWorkingDays_34 rfl (by decide) rfl rfl ?_
        refine sx_iinc (l' := [some (sx_p 3), some (.inl (((dy_b (dr M) i : Nat) : Int) + 1)), some (.inl ((i : Int) + 1))]) d_D_countWorkingDays_37 rfl (by decide) rfl rfl ?_
        refine sx_goto (tgt := 4) d_D_countWorkingDays_40 (by decide) ?_
        have e1 : ((i : Int) + 1) = ((i + 1 : Nat) : Int) := by omega
        rw [e1]
        have h4i := h4 i (by omega)
        have hr0 : dr M i = false := by simp [dr]; intro _; omega
        have hs := dy_s (dr M) i
        rw [hr0] at hs
        simp only [Bool.false_eq_true, if_false] at hs
        have e2 : (((dy_b (dr M) i : Nat) : Int) + 1) = ((dy_b (dr M) (i + 1) : Nat) : Int) := by omega
        rw [e2]
        have e3 : dn (dr M) (dy_b (dr M) i) = i := dn_eq hr0 rfl
        refine ih (i + 1) _ (by omega) (by omega) ?_ ?_ ?_ (fun h a k => by have q := hIR h a k; simp only [sx_u]; (repeat' split) <;> first | exact q | omega)
        · intro a j ha hb
          simp only [sx_u, ha, hb, false_and, if_false]
          exact hag a j ha hb
        · intro d hd
          by_cases q : d = i
          · subst q; simp [sx_u]
          · simp [sx_u, q]; exact h5 d (by omega)
        · intro j hj
          by_cases q : j = dy_b (dr M) i
          · subst q; simp [sx_u, e3]
          · simp [sx_u, q]; exact h6 j (by omega)
set_option maxRecDepth 100000 in
set_option maxHeartbeats 4000000 in
theorem c_D_cwd {L : Nat} {xs : Nat → Int32} (M : Nat → Nat → Int) (h4 : ∀ d, d < 200 → M 4 d = 0 ∨ M 4 d = 1) : sx_R y_D_countWorkingDays (0, 0, 0) L xs [sx_p 3] (gm M) (fun v h2 => v = none ∧ ∃ M2, h2 = gm M2 ∧ cwd_P M M2) := by
  refine sx_enter rfl (Nat.le_of_ble_eq_true rfl) rfl ?_
  show sx_V y_D_countWorkingDays (0, 0, 0) L xs (0, 0) 0 [some (sx_p 3), none, none] [] (gm M) _
  refine sx_iconst d_D_countWorkingDays_0 ?_
  refine sx_istore_n (l' := [some (sx_p 3), some (.inl 0), none]) d_D_countWorkingDays_1 (by decide) rfl rfl ?_
  refine sx_iconst d_D_countWorkingDays_2 ?_
  refine sx_istore_n (l' := [some (sx_p 3), some (.inl 0), some (.inl 0)]) d_D_countWorkingDays_3 (by decide) rfl rfl ?_
  exact l_D_cwd M h4 201 0 M (by omega) (by omega) (fun _ _ _ _ => rfl) (fun _ h => absurd h (Nat.not_lt_zero _)) (fun _ h => absurd h (Nat.not_lt_zero _)) (fun h => h)
