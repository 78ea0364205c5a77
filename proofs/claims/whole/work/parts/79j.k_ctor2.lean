/-- the heap within the constructor of Days -/
def gd (M : Nat → Nat → Int) : sx_h := gh 6 M [(3, 2, 6), (3, 1, 5), (3, 0, 4)]
set_option maxRecDepth 100000 in
set_option maxHeartbeats 4000000 in
theorem l_D_cwd0 {L : Nat} {xs : Nat → Int32} (M : Nat → Nat → Int) (h4 : ∀ d, d < 200 → M 4 d = 0 ∨ M 4 d = 1) : ∀ (n i : Nat) (M1 : Nat → Nat → Int), 200 - i < n → i ≤ 200 → (∀ a k, a ≠ 5 → a ≠ 6 → M1 a k = M a k) → (∀ d, d < i → M1 5 d = ((dy_b (dr M) d : Nat) : Int)) → (∀ n, n < dy_b (dr M) i → M1 6 n = ((dn (dr M) n : Nat) : Int)) → ((∀ a k, sx_r (M a k)) → ∀ a k, sx_r (M1 a k)) → sx_V y_D_countWorkingDays (0, 0, 0) L xs (0, 0) 4 [some (sx_p 3), some (.inl ((dy_b (dr M) i : Nat) : Int)), some (.inl (i : Int))] [] (gd M1) (fun v h2 => v = none ∧ ∃ M2, h2 = gd M2 ∧ cwd_P M M2) := by
  intro n
  induction n with
  | zero => intro i M1 h1 h2; omega
  | succ n ih =>
    intro i M1 hn hi hag h5 h6 hIR
    refine sx_iload_n d_D_countWorkingDays_4 rfl ?_
    refine sx_sipush d_D_countWorkingDays_5 (by decide) ?_
    refine sx_icmp_ge (tgt := 43) d_D_countWorkingDays_8 (by decide) ⟨by omega, by omega⟩ ⟨by decide, by decide⟩ (fun c8_10 => ?_) (fun c8_10 => ?_)
    · refine sx_retV d_D_countWorkingDays_43 rfl ⟨Nat.zero_le _, Nat.zero_le _⟩ ?_
      have e0 : i = 200 := by omega
      subst e0
      exact ⟨rfl, _, rfl, hag, h5, h6, hIR⟩
    · have e4 := dy_le (dr M) i
      refine sx_aload_n d_D_countWorkingDays_11 rfl ?_
      refine sx_getR (r := some (5)) d_D_countWorkingDays_12 fl_D_15 (gho rfl rfl rfl) (by decide) (by decide) (by decide) rfl ?_
      refine sx_iload_n d_D_countWorkingDays_15 rfl ?_
      refine sx_iload_n d_D_countWorkingDays_16 rfl ?_
      refine sx_iast (h2 := gd (sx_u M1 5 i ((dy_b (dr M) i : Nat) : Int))) d_D_countWorkingDays_17 (gho rfl rfl rfl) (by omega) (by omega) (by decide) rfl ?_
      refine sx_aload_n d_D_countWorkingDays_18 rfl ?_
      refine sx_getR (r := some (4)) d_D_countWorkingDays_19 fl_D_9 (gho rfl rfl rfl) (by decide) (by decide) (by decide) rfl ?_
      refine sx_iload_n d_D_countWorkingDays_22 rfl ?_
      refine sx_zald (z := (M1 4 i)) d_D_countWorkingDays_23 (gho rfl rfl rfl) (by omega) (by omega) (by decide) (by simp [gd, gh, sx_u]) ?_
      refine sx_if_ne (tgt := 37) d_D_countWorkingDays_24 (by decide) ⟨by have e5 := hag 4 i (by decide) (by decide); have e6 := h4 i (by omega); omega, by have e5 := hag 4 i (by decide) (by decide); have e6 := h4 i (by omega); omega⟩ (fun c24_25 => ?_) (fun c24_25 => ?_)
      · have e5 := hag 4 i (by decide) (by decide)
        refine sx_iinc (l' := [some (sx_p 3), some (.inl ((dy_b (dr M) i : Nat) : Int)), some (.inl ((i : Int) + 1))]) d_D_countWorkingDays_37 rfl (by decide) rfl rfl ?_
        refine sx_goto (tgt := 4) d_D_countWorkingDays_40 (by decide) ?_
        have e1 : ((i : Int) + 1) = ((i + 1 : Nat) : Int) := by omega
        rw [e1]
        have h4i := h4 i (by omega)
        have hr0 : dr M i = true := by simp [dr]; omega
        have hs := dy_s (dr M) i
        rw [hr0] at hs
        simp only [if_true] at hs
        have e2 : ((dy_b (dr M) i : Nat) : Int) = ((dy_b (dr M) (i + 1) : Nat) : Int) := by omega
        rw [e2]
        refine ih (i + 1) _ (by omega) (by omega) ?_ ?_ ?_ (fun h a k => by have q := hIR h a k; simp only [sx_u]; (repeat' split) <;> first | exact q | omega)
        · intro a j ha hb
          simp only [sx_u, ha, false_and, if_false]
          exact hag a j ha hb
        · intro d hd
          by_cases q : d = i
          · subst q; simp [sx_u]; omega
          · simp [sx_u, q]; exact h5 d (by omega)
        · intro j hj
          simp [sx_u]; exact h6 j (by omega)
      · have e5 := hag 4 i (by decide) (by decide)
        refine sx_aload_n d_D_countWorkingDays_27 rfl ?_
        refine sx_getR (r := some (6)) d_D_countWorkingDays_28 fl_D_19 (gho rfl rfl rfl) (by decide) (by decide) (by decide) rfl ?_
        refine sx_iload_n d_D_countWorkingDays_31 rfl ?_
        refine sx_iload_n d_D_countWorkingDays_32 rfl ?_
        refine sx_iast (h2 := gd (sx_u (sx_u M1 5 i ((dy_b (dr M) i : Nat) : Int)) 6 (Int.toNat ((dy_b (dr M) i : Nat) : Int)) (i : Int))) d_D_countWorkingDays_33 (gho rfl rfl rfl) (by omega) (by omega) (by decide) rfl ?_
        refine sx_iinc (l' := [some (sx_p 3), some (.inl (((dy_b (dr M) i : Nat) : Int) + 1)), some (.inl (i : Int))]) d_D_countWorkingDays_34 rfl (by decide) rfl rfl ?_
        refine sx_iinc (l' := [some (sx_p 3), some (.inl (((dy_b (dr M) i : Nat) : Int) + 1)), some (.inl ((i : Int) + 1))]) d_D_countWorkingDays_37 rfl (by decide) rfl rfl ?_
        refine sx_goto (tgt := 4) d_D_countWorkingDays_40 (by decide) ?_
        have e1 : ((i : Int) + 1) = ((i + 1 : Nat) : Int) := by omega
        rw [e1]
        have h4i := h4 i (by omega)
        have hr0 : dr M i = false := by simp [dr]; intro _; omega
        have hs := dy_s (dr M) i
        rw [hr0] at hs
        simp only [Bool.false_eq_true, if_false] at hs
        have e2 : (((dy_b (dr M) i : Nat) : Int) + 1) = ((dy_b (dr M) (i + 1) : Nat) : Int) := by omega
        rw [e2]
        have e3 : dn (dr M) (dy_b (dr M) i) = i := dn_eq hr0 rfl
        refine ih (i + 1) _ (by omega) (by omega) ?_ ?_ ?_ (fun h a k => by have q := hIR h a k; simp only [sx_u]; (repeat' split) <;> first | exact q | omega)
        · intro a j ha hb
          simp only [sx_u, ha, hb, false_and, if_false]
          exact hag a j ha hb
        · intro d hd
          by_cases q : d = i
          · subst q; simp [sx_u]
          · simp [sx_u, q]; exact h5 d (by omega)
        · intro j hj
          by_cases q : j = dy_b (dr M) i
          · subst q; simp [sx_u, e3]
          · simp [sx_u, q]; exact h6 j (by omega)
set_option maxRecDepth 100000 in
set_option maxHeartbeats 4000000 in
theorem c_D_cwd0 {L : Nat} {xs : Nat → Int32} (M : Nat → Nat → Int) (h4 : ∀ d, d < 200 → M 4 d = 0 ∨ M 4 d = 1) : sx_R y_D_countWorkingDays (0, 0, 0) L xs [sx_p 3] (gd M) (fun v h2 => v = none ∧ ∃ M2, h2 = gd M2 ∧ cwd_P M M2) := by
  refine sx_enter rfl (Nat.le_of_ble_eq_true rfl) rfl ?_
  show sx_V y_D_countWorkingDays (0, 0, 0) L xs (0, 0) 0 [some (sx_p 3), none, none] [] (gd M) _
  refine sx_iconst d_D_countWorkingDays_0 ?_
  refine sx_istore_n (l' := [some (sx_p 3), some (.inl 0), none]) d_D_countWorkingDays_1 (by decide) rfl rfl ?_
  refine sx_iconst d_D_countWorkingDays_2 ?_
  refine sx_istore_n (l' := [some (sx_p 3), some (.inl 0), some (.inl 0)]) d_D_countWorkingDays_3 (by decide) rfl rfl ?_
  exact l_D_cwd0 M h4 201 0 M (by omega) (by omega) (fun _ _ _ _ => rfl) (fun _ h => absurd h (Nat.not_lt_zero _)) (fun _ h => absurd h (Nat.not_lt_zero _)) (fun h => h)
theorem dy_f {r : Nat → Bool} (h : ∀ d, r d = false) (n : Nat) : dy_b r n = n := by
  induction n with
  | zero => rfl
  | succ n ih => rw [dy_s, ih, h n]; rfl
def zM : Nat → Nat → Int := fun _ _ => 0
/-- the days at the start -/
def DZ (M : Nat → Nat → Int) : Prop := IDy M ∧ IR M ∧ ∀ a k, a ≠ 5 → a ≠ 6 → M a k = 0
theorem DZ_of {M : Nat → Nat → Int} (h : cwd_P zM M) : DZ M := by
  obtain ⟨h1, h2, h3, h4⟩ := h
  have hr : dr M = dr zM := by
    funext d
    unfold dr
    rw [h1 4 d (by decide) (by decide)]
  have hf : ∀ d, dr zM d = false := fun d => by simp [dr, zM]
  refine ⟨⟨fun d _ => Or.inl (h1 4 d (by decide) (by decide)), ?_, ?_, ?_⟩, h4 (fun _ _ => sx_r0), fun a k q1 q2 => h1 a k q1 q2⟩
  · rw [hr]; exact h2
  · rw [hr]; exact h3
  · rw [hr, dy_f hf, h1 3 3 (by decide) (by decide)]; rfl
theorem DZ.zb {M : Nat → Nat → Int} (h : DZ M) (n : Nat) (hn : Nat.ble 6 n = true) : zb n M := fun a k ha => h.2.2 a k (by have := Nat.le_of_ble_eq_true hn; omega) (by have := Nat.le_of_ble_eq_true hn; omega)
theorem zM_zb (n : Nat) : zb n zM := fun _ _ _ => rfl
set_option maxRecDepth 100000 in
set_option maxHeartbeats 4000000 in
theorem c_D_init {L : Nat} {xs : Nat → Int32} : sx_R y_D_init (1, 3, 600) L xs [sx_p 3] (gh 3 zM []) (fun v h2 => v = none ∧ ∃ M2, h2 = gh 6 M2 [(3, 2, 6), (3, 1, 5), (3, 0, 4)] ∧ DZ M2) := by
  refine sx_enter rfl (Nat.le_of_ble_eq_true rfl) rfl ?_
  show sx_V y_D_init (1, 3, 600) L xs (0, 0) 0 [some (sx_p 3)] [] (gh 3 zM []) _
  refine sx_aload_n d_D_init_0 rfl ?_
  refine sx_oinit d_D_init_1 tw_31 tw_18 tw_19 (by decide) (Nat.le_of_ble_eq_true rfl) ?_
  refine sx_aload_n d_D_init_4 rfl ?_
  refine sx_sipush d_D_init_5 (by decide) ?_
  refine gh_newa (t := 1) (m := 200) (cs2 := (1, 200)) (n2 := 4) d_D_init_8 (Or.inr ⟨rfl, rfl⟩) tw_50 rfl (by decide) ⟨by decide, by decide⟩ rfl (zM_zb 3) rfl rfl rfl ?_
  refine gh_putR d_D_init_10 fl_D_9 (gho rfl rfl rfl) rfl (by decide) (by decide) (fun q hq => Or.inr ⟨(nf_D_0 q hq).1, rfl, (nf_D_0 q hq).2⟩) (Or.inr ⟨_, rfl⟩) ?_
  refine sx_aload_n d_D_init_13 rfl ?_
  refine sx_sipush d_D_init_14 (by decide) ?_
  refine gh_newa (t := 0) (m := 200) (cs2 := (2, 400)) (n2 := 5) d_D_init_17 (Or.inl ⟨rfl, rfl⟩) tw_51 rfl (by decide) ⟨by decide, by decide⟩ rfl (zM_zb 4) rfl rfl rfl ?_
  refine gh_putR d_D_init_19 fl_D_15 (gho rfl rfl rfl) rfl (by decide) (by decide) (fun q hq => Or.inr ⟨(nf_D_1 q hq).1, rfl, (nf_D_1 q hq).2⟩) (Or.inr ⟨_, rfl⟩) ?_
  refine sx_aload_n d_D_init_22 rfl ?_
  refine sx_sipush d_D_init_23 (by decide) ?_
  refine gh_newa (t := 0) (m := 200) (cs2 := (3, 600)) (n2 := 6) d_D_init_26 (Or.inl ⟨rfl, rfl⟩) tw_51 rfl (by decide) ⟨by decide, by decide⟩ rfl (zM_zb 5) rfl rfl rfl ?_
  refine gh_putR d_D_init_28 fl_D_19 (gho rfl rfl rfl) rfl (by decide) (by decide) (fun q hq => Or.inr ⟨(nf_D_2 q hq).1, rfl, (nf_D_2 q hq).2⟩) (Or.inr ⟨_, rfl⟩) ?_
  refine sx_aload_n d_D_init_31 rfl ?_
  refine sx_callV (c_D_cwd0 zM (fun _ _ => Or.inl rfl)) d_D_init_32 cd_D_countWorkingDays lk_D_22 im_D_countWorkingDays se_D_countWorkingDays (gho rfl rfl rfl) rfl rfl (by decide) (st := []) rfl rfl (Nat.le_of_ble_eq_true rfl) ⟨by decide, by decide, by decide⟩ (fun _ _ hq => ?_)
  obtain ⟨rfl, M2, rfl, hcw⟩ := hq
  show sx_V _ _ _ _ (3, 600) _ _ [] (gh 6 M2 [(3, 2, 6), (3, 1, 5), (3, 0, 4)]) _
  refine sx_retV d_D_init_35 rfl ⟨by decide, by decide⟩ ?_
  exact ⟨rfl, M2, rfl, DZ_of hcw⟩
def rl_W : List (Nat × Nat × Nat) := [(8, 5, 19), (8, 4, 18), (8, 3, 17), (8, 2, 16), (8, 1, 15), (8, 0, 14), (2, 7, 13), (2, 6, 12), (2, 5, 11), (2, 4, 10), (2, 3, 9), (2, 2, 8), (2, 1, 7), (2, 0, 3), (3, 2, 6), (3, 1, 5), (3, 0, 4)]
/-- class's numbers at the start -/
def LZ (M : Nat → Nat → Int) : Prop := IDy M ∧ IR M ∧ (∀ j, j < 36 → M 9 j = -1) ∧ (∀ k, k < 4 → M 10 k = 4) ∧ (∀ w, w < 6 → M (14 + w) 8 = 999) ∧ ∀ a k, a ≠ 5 → a ≠ 6 → a ≠ 9 → a ≠ 10 → ¬ (14 ≤ a ∧ a < 20 ∧ (k = 4 ∨ k = 8)) → M a k = 0
theorem LZ.zb {M : Nat → Nat → Int} (h : LZ M) (n : Nat) (hn : Nat.ble 19 n = true) : zb n M := fun a k ha => by
  have := Nat.le_of_ble_eq_true hn
  exact h.2.2.2.2.2 a k (by omega) (by omega) (by omega) (by omega) (by omega)
set_option maxRecDepth 100000 in
set_option maxHeartbeats 4000000 in
theorem l_L_gaps {L : Nat} {xs : Nat → Int32} (Mw : Nat → Nat → Int) (post : Option sx_v → sx_h → Prop) (hc : ∀ M1 : Nat → Nat → Int, (∀ a k, a ≠ 9 → M1 a k = Mw a k) → (∀ j, j < 36 → M1 9 j = -1) → IR M1 → sx_V y_L_init (2, 17, 800) L xs (17, 744) 121 [some (sx_p 2), some (.inl ((36 : Nat) : Int))] [] (gh 19 M1 rl_W) post) : ∀ (n i : Nat) (M1 : Nat → Nat → Int), 36 - i < n → i ≤ 36 → (∀ a k, a ≠ 9 → M1 a k = Mw a k) → (∀ j, j < i → M1 9 j = -1) → IR M1 → sx_V y_L_init (2, 17, 800) L xs (17, 744) 99 [some (sx_p 2), some (.inl (i : Int))] [] (gh 19 M1 rl_W) post := by
  intro n
  induction n with
  | zero => intro i M1 h1 h2; omega
  | succ n ih =>
    intro i M1 hn hi hf hv hR
    refine sx_iload_n d_L_init_99 rfl ?_
    refine sx_aload_n d_L_init_100 rfl ?_
    refine sx_getR (r := some (9)) d_L_init_101 fl_L_28 (gho rfl rfl rfl) rfl (by decide) (by decide) rfl ?_
    refine sx_alenI (n := 36) d_L_init_104 (gho rfl rfl rfl) (Or.inl rfl) ?_
    show sx_V _ _ _ _ _ _ _ [.inl 36, .inl (i : Int)] _ _
    refine sx_icmp_ge (tgt := 121) d_L_init_105 (by decide) (by omega) ⟨by decide, by decide⟩ (fun c105_5 => ?_) (fun c105_5 => ?_)
    · have e0 : i = 36 := by omega
      subst e0
      exact hc M1 hf hv hR
    · refine sx_aload_n d_L_init_108 rfl ?_
      refine sx_getR (r := some (9)) d_L_init_109 fl_L_28 (gho rfl rfl rfl) rfl (by decide) (by decide) rfl ?_
      refine sx_iload_n d_L_init_112 rfl ?_
      refine sx_iconst d_L_init_113 ?_
      refine sx_iast (h2 := gh 19 (sx_u M1 9 i (-1)) [(8, 5, 19), (8, 4, 18), (8, 3, 17), (8, 2, 16), (8, 1, 15), (8, 0, 14), (2, 7, 13), (2, 6, 12), (2, 5, 11), (2, 4, 10), (2, 3, 9), (2, 2, 8), (2, 1, 7), (2, 0, 3), (3, 2, 6), (3, 1, 5), (3, 0, 4)]) d_L_init_114 (gho rfl rfl rfl) (by omega) (by omega) (by decide) rfl ?_
      refine sx_iinc (l' := [some (sx_p 2), some (.inl ((i : Int) + 1))]) d_L_init_115 rfl (by decide) rfl rfl ?_
      refine sx_goto (tgt := 99) d_L_init_118 (by decide) ?_
      have e1 : ((i : Int) + 1) = ((i + 1 : Nat) : Int) := by omega
      rw [e1]
      refine ih (i + 1) _ (by omega) (by omega) (fun a k h => by rw [sx_u_ne h]; exact hf a k h) (fun j hj => ?_) (hR.u _ _ (by omega))
      by_cases q : j = i
      · subst q; exact sx_us
      · rw [sx_un (by omega)]; exact hv j (by omega)
theorem LZ_of {Md M1 : Nat → Nat → Int} (hd : DZ Md) (hf : ∀ a k, a ≠ 9 → M1 a k = (sx_u (sx_u (sx_u (sx_u (sx_u (sx_u (sx_u (sx_u (sx_u (sx_u (sx_u (sx_u Md 14 4 1) 14 8 999) 15 4 1) 15 8 999) 16 4 1) 16 8 999) 17 4 1) 17 8 999) 18 4 1) 18 8 999) 19 4 1) 19 8 999) a k) (hv : ∀ j, j < 36 → M1 9 j = -1) (hR : IR M1) : LZ (sx_u (sx_u (sx_u (sx_u M1 10 0 4) 10 1 4) 10 2 4) 10 3 4) := by
  have e0 : ∀ a k, a ≠ 9 → a ≠ 10 → ¬ (14 ≤ a ∧ a < 20 ∧ (k = 4 ∨ k = 8)) → (sx_u (sx_u (sx_u (sx_u M1 10 0 4) 10 1 4) 10 2 4) 10 3 4) a k = Md a k := by
    intro a k q1 q2 q3
    rw [sx_un (by omega), sx_un (by omega), sx_un (by omega), sx_un (by omega), hf a k q1, sx_un (by omega), sx_un (by omega), sx_un (by omega), sx_un (by omega), sx_un (by omega), sx_un (by omega), sx_un (by omega), sx_un (by omega), sx_un (by omega), sx_un (by omega), sx_un (by omega), sx_un (by omega)]
  refine ⟨?_, ((((hR.u _ _ (by omega)).u _ _ (by omega)).u _ _ (by omega)).u _ _ (by omega)), fun j hj => ?_, fun k hk => ?_, fun w hw => ?_, fun a k q1 q2 q3 q4 q5 => ?_⟩
  · have hdr : dr (sx_u (sx_u (sx_u (sx_u M1 10 0 4) 10 1 4) 10 2 4) 10 3 4) = dr Md := by
      funext d
      unfold dr
      rw [e0 4 d (by omega) (by omega) (by omega)]
    unfold IDy
    rw [hdr]
    simp (disch := omega) only [e0]
    exact hd.1
  · rw [sx_un (by omega), sx_un (by omega), sx_un (by omega), sx_un (by omega)]
    exact hv j hj
  · rcases (show k = 0 ∨ k = 1 ∨ k = 2 ∨ k = 3 by omega) with rfl | rfl | rfl | rfl <;> rfl
  · rw [sx_un (by omega), sx_un (by omega), sx_un (by omega), sx_un (by omega), hf _ _ (by omega)]
    rcases (show w = 0 ∨ w = 1 ∨ w = 2 ∨ w = 3 ∨ w = 4 ∨ w = 5 by omega) with rfl | rfl | rfl | rfl | rfl | rfl <;> rfl
  · rw [e0 a k q3 q4 q5]
    exact hd.2.2 a k q1 q2
set_option maxRecDepth 100000 in
set_option maxHeartbeats 4000000 in
theorem c_L_init {L : Nat} {xs : Nat → Int32} : sx_R y_L_init (2, 17, 800) L xs [sx_p 2] (gh 2 zM []) (fun v h2 => v = none ∧ ∃ M2, h2 = gh 19 M2 rl_W ∧ LZ M2) := by
  refine sx_enter rfl (Nat.le_of_ble_eq_true rfl) rfl ?_
  show sx_V y_L_init (2, 17, 800) L xs (0, 0) 0 [some (sx_p 2), none] [] (gh 2 zM []) _
  refine sx_aload_n d_L_init_0 rfl ?_
  refine sx_oinit d_L_init_1 tw_25 tw_18 tw_19 (by decide) (Nat.le_of_ble_eq_true rfl) ?_
  refine sx_aload_n d_L_init_4 rfl ?_
  refine gh_new (ci := 0) (cs2 := (1, 4)) (n2 := 3) d_L_init_5 rfl (by decide) tw_26 tw_27 tw_3 ⟨by decide, by decide⟩ rfl (zM_zb 2) rfl rfl rfl ?_
  refine sx_dup rfl d_L_init_8 ?_
  refine sx_callI (c_D_init) d_L_init_9 cd_D_init lk_L_11 im_D_init rfl rfl (st := [sx_p 3, sx_p 2]) rfl rfl (Nat.le_of_ble_eq_true rfl) ⟨by decide, by decide, by decide⟩ (fun _ _ hq => ?_)
  obtain ⟨rfl, Md, rfl, hd⟩ := hq
  show sx_V _ _ _ _ (4, 604) _ _ [sx_p 3, sx_p 2] (gh 6 Md [(3, 2, 6), (3, 1, 5), (3, 0, 4)]) _
  refine gh_putR d_L_init_12 fl_L_12 (gho rfl rfl rfl) rfl (by decide) (by decide) (fun q hq => Or.inr ⟨(nf_L_0 q hq).1, rfl, (nf_L_0 q hq).2⟩) (Or.inl ⟨_, rfl⟩) ?_
  refine sx_aload_n d_L_init_15 rfl ?_
  refine sx_iconst d_L_init_16 ?_
  refine gh_newa (t := 0) (m := 4) (cs2 := (5, 608)) (n2 := 7) d_L_init_17 (Or.inl ⟨rfl, rfl⟩) tw_51 rfl (by decide) ⟨by decide, by decide⟩ rfl (hd.zb 6 rfl) rfl rfl rfl ?_
  refine gh_putR d_L_init_19 fl_L_18 (gho rfl rfl rfl) rfl (by decide) (by decide) (fun q hq => Or.inr ⟨(nf_L_1 q hq).1, rfl, (nf_L_1 q hq).2⟩) (Or.inr ⟨_, rfl⟩) ?_
  refine sx_aload_n d_L_init_22 rfl ?_
  refine sx_bipush d_L_init_23 (by decide) ?_
  refine gh_anew (t := 0) (m := 6) (cs2 := (6, 614)) (n2 := 8) d_L_init_25 rfl tw_52 tw_53 rfl (by decide) ⟨by decide, by decide⟩ rfl (hd.zb 7 rfl) rfl rfl rfl ?_
  refine gh_putR d_L_init_28 fl_L_24 (gho rfl rfl rfl) rfl (by decide) (by decide) (fun q hq => Or.inr ⟨(nf_L_2 q hq).1, rfl, (nf_L_2 q hq).2⟩) (Or.inr ⟨_, rfl⟩) ?_
  refine sx_aload_n d_L_init_31 rfl ?_
  refine sx_bipush d_L_init_32 (by decide) ?_
  refine gh_newa (t := 0) (m := 36) (cs2 := (7, 650)) (n2 := 9) d_L_init_34 (Or.inl ⟨rfl, rfl⟩) tw_51 rfl (by decide) ⟨by decide, by decide⟩ rfl (hd.zb 8 rfl) rfl rfl rfl ?_
  refine gh_putR d_L_init_36 fl_L_28 (gho rfl rfl rfl) rfl (by decide) (by decide) (fun q hq => Or.inr ⟨(nf_L_3 q hq).1, rfl, (nf_L_3 q hq).2⟩) (Or.inr ⟨_, rfl⟩) ?_
  refine sx_aload_n d_L_init_39 rfl ?_
  refine sx_iconst d_L_init_40 ?_
  refine gh_newa (t := 0) (m := 4) (cs2 := (8, 654)) (n2 := 10) d_L_init_41 (Or.inl ⟨rfl, rfl⟩) tw_51 rfl (by decide) ⟨by decide, by decide⟩ rfl (hd.zb 9 rfl) rfl rfl rfl ?_
  refine gh_putR d_L_init_43 fl_L_31 (gho rfl rfl rfl) rfl (by decide) (by decide) (fun q hq => Or.inr ⟨(nf_L_4 q hq).1, rfl, (nf_L_4 q hq).2⟩) (Or.inr ⟨_, rfl⟩) ?_
  refine sx_aload_n d_L_init_46 rfl ?_
  refine sx_bipush d_L_init_47 (by decide) ?_
  refine gh_newa (t := 0) (m := 8) (cs2 := (9, 662)) (n2 := 11) d_L_init_49 (Or.inl ⟨rfl, rfl⟩) tw_51 rfl (by decide) ⟨by decide, by decide⟩ rfl (hd.zb 10 rfl) rfl rfl rfl ?_
  refine gh_putR d_L_init_51 fl_L_34 (gho rfl rfl rfl) rfl (by decide) (by decide) (fun q hq => Or.inr ⟨(nf_L_5 q hq).1, rfl, (nf_L_5 q hq).2⟩) (Or.inr ⟨_, rfl⟩) ?_
  refine sx_aload_n d_L_init_54 rfl ?_
  refine sx_bipush d_L_init_55 (by decide) ?_
  refine gh_newa (t := 0) (m := 8) (cs2 := (10, 670)) (n2 := 12) d_L_init_57 (Or.inl ⟨rfl, rfl⟩) tw_51 rfl (by decide) ⟨by decide, by decide⟩ rfl (hd.zb 11 rfl) rfl rfl rfl ?_
  refine gh_putR d_L_init_59 fl_L_37 (gho rfl rfl rfl) rfl (by decide) (by decide) (fun q hq => Or.inr ⟨(nf_L_6 q hq).1, rfl, (nf_L_6 q hq).2⟩) (Or.inr ⟨_, rfl⟩) ?_
  refine sx_aload_n d_L_init_62 rfl ?_
  refine sx_bipush d_L_init_63 (by decide) ?_
  refine gh_newa (t := 0) (m := 8) (cs2 := (11, 678)) (n2 := 13) d_L_init_65 (Or.inl ⟨rfl, rfl⟩) tw_51 rfl (by decide) ⟨by decide, by decide⟩ rfl (hd.zb 12 rfl) rfl rfl rfl ?_
  refine gh_putR d_L_init_67 fl_L_40 (gho rfl rfl rfl) rfl (by decide) (by decide) (fun q hq => Or.inr ⟨(nf_L_7 q hq).1, rfl, (nf_L_7 q hq).2⟩) (Or.inr ⟨_, rfl⟩) ?_
  refine sx_iconst d_L_init_70 ?_
  refine sx_istore_n (l' := [some (sx_p 2), some (.inl 0)]) d_L_init_71 (by decide) rfl rfl ?_
  refine sx_iload_n d_L_init_72 rfl ?_
  refine sx_bipush d_L_init_73 (by decide) ?_
  refine sx_icmp_ge (tgt := 97) d_L_init_75 (by decide) ⟨by decide, by decide⟩ ⟨by decide, by decide⟩ (fun c75_41 => absurd c75_41 (by decide)) (fun _ => ?_)
  refine sx_aload_n d_L_init_78 rfl ?_
  refine sx_getR (r := some (8)) d_L_init_79 fl_L_24 (gho rfl rfl rfl) rfl (by decide) (by decide) rfl ?_
  refine sx_iload_n d_L_init_82 rfl ?_
  refine gh_new (ci := 7) (cs2 := (12, 689)) (n2 := 14) d_L_init_83 rfl (by decide) tw_52 tw_54 tw_4 ⟨by decide, by decide⟩ rfl (hd.zb 13 rfl) rfl rfl rfl ?_
  refine sx_dup rfl d_L_init_86 ?_
  refine sx_callI (c_K_init (n := 14) (a := 14) (M := Md) (rl := [(2, 7, 13), (2, 6, 12), (2, 5, 11), (2, 4, 10), (2, 3, 9), (2, 2, 8), (2, 1, 7), (2, 0, 3), (3, 2, 6), (3, 1, 5), (3, 0, 4)]) (fun _ => gho rfl rfl rfl)) d_L_init_87 cd_K_init lk_L_43 im_K_init rfl rfl (st := [sx_p 14, .inl 0, sx_p 8]) rfl rfl (Nat.le_of_ble_eq_true rfl) ⟨by decide, by decide, by decide⟩ (fun _ _ hq => ?_)
  obtain ⟨rfl, rfl⟩ := hq
  show sx_V _ _ _ _ (12, 689) _ _ [sx_p 14, .inl 0, sx_p 8] (gh 14 (sx_u (sx_u Md 14 4 1) 14 8 999) [(2, 7, 13), (2, 6, 12), (2, 5, 11), (2, 4, 10), (2, 3, 9), (2, 2, 8), (2, 1, 7), (2, 0, 3), (3, 2, 6), (3, 1, 5), (3, 0, 4)]) _
  refine gh_aast (t := 0) (ci := 7) (i := 0) d_L_init_90 (gho rfl rfl rfl) rfl rfl (gho rfl rfl rfl) (by decide) (by decide) (by decide) (by decide) rfl ?_
  refine sx_iinc (l' := [some (sx_p 2), some (.inl 1)]) d_L_init_91 rfl (by decide) rfl rfl ?_
  refine sx_goto (tgt := 72) d_L_init_94 (by decide) ?_
  refine sx_iload_n d_L_init_72 rfl ?_
  refine sx_bipush d_L_init_73 (by decide) ?_
  refine sx_icmp_ge (tgt := 97) d_L_init_75 (by decide) ⟨by decide, by decide⟩ ⟨by decide, by decide⟩ (fun c75_55 => absurd c75_55 (by decide)) (fun _ => ?_)
  refine sx_aload_n d_L_init_78 rfl ?_
  refine sx_getR (r := some (8)) d_L_init_79 fl_L_24 (gho rfl rfl rfl) rfl (by decide) (by decide) rfl ?_
  refine sx_iload_n d_L_init_82 rfl ?_
  refine gh_new (ci := 7) (cs2 := (13, 700)) (n2 := 15) d_L_init_83 rfl (by decide) tw_52 tw_54 tw_4 ⟨by decide, by decide⟩ rfl (((((hd.zb 14 rfl).u (a := 14) rfl _ _)).u (a := 14) rfl _ _)) rfl rfl rfl ?_
  refine sx_dup rfl d_L_init_86 ?_
  refine sx_callI (c_K_init (n := 15) (a := 15) (M := (sx_u (sx_u Md 14 4 1) 14 8 999)) (rl := [(8, 0, 14), (2, 7, 13), (2, 6, 12), (2, 5, 11), (2, 4, 10), (2, 3, 9), (2, 2, 8), (2, 1, 7), (2, 0, 3), (3, 2, 6), (3, 1, 5), (3, 0, 4)]) (fun _ => gho rfl rfl rfl)) d_L_init_87 cd_K_init lk_L_43 im_K_init rfl rfl (st := [sx_p 15, .inl 1, sx_p 8]) rfl rfl (Nat.le_of_ble_eq_true rfl) ⟨by decide, by decide, by decide⟩ (fun _ _ hq => ?_)
  obtain ⟨rfl, rfl⟩ := hq
  show sx_V _ _ _ _ (13, 700) _ _ [sx_p 15, .inl 1, sx_p 8] (gh 15 (sx_u (sx_u (sx_u (sx_u Md 14 4 1) 14 8 999) 15 4 1) 15 8 999) [(8, 0, 14), (2, 7, 13), (2, 6, 12), (2, 5, 11), (2, 4, 10), (2, 3, 9), (2, 2, 8), (2, 1, 7), (2, 0, 3), (3, 2, 6), (3, 1, 5), (3, 0, 4)]) _
  refine gh_aast (t := 0) (ci := 7) (i := 1) d_L_init_90 (gho rfl rfl rfl) rfl rfl (gho rfl rfl rfl) (by decide) (by decide) (by decide) (by decide) rfl ?_
  refine sx_iinc (l' := [some (sx_p 2), some (.inl 2)]) d_L_init_91 rfl (by decide) rfl rfl ?_
  refine sx_goto (tgt := 72) d_L_init_94 (by decide) ?_
  refine sx_iload_n d_L_init_72 rfl ?_
  refine sx_bipush d_L_init_73 (by decide) ?_
  refine sx_icmp_ge (tgt := 97) d_L_init_75 (by decide) ⟨by decide, by decide⟩ ⟨by decide, by decide⟩ (fun c75_69 => absurd c75_69 (by decide)) (fun _ => ?_)
  refine sx_aload_n d_L_init_78 rfl ?_
  refine sx_getR (r := some (8)) d_L_init_79 fl_L_24 (gho rfl rfl rfl) rfl (by decide) (by decide) rfl ?_
  refine sx_iload_n d_L_init_82 rfl ?_
  refine gh_new (ci := 7) (cs2 := (14, 711)) (n2 := 16) d_L_init_83 rfl (by decide) tw_52 tw_54 tw_4 ⟨by decide, by decide⟩ rfl (((((((((hd.zb 15 rfl).u (a := 14) rfl _ _)).u (a := 14) rfl _ _)).u (a := 15) rfl _ _)).u (a := 15) rfl _ _)) rfl rfl rfl ?_
  refine sx_dup rfl d_L_init_86 ?_
  refine sx_callI (c_K_init (n := 16) (a := 16) (M := (sx_u (sx_u (sx_u (sx_u Md 14 4 1) 14 8 999) 15 4 1) 15 8 999)) (rl := [(8, 1, 15), (8, 0, 14), (2, 7, 13), (2, 6, 12), (2, 5, 11), (2, 4, 10), (2, 3, 9), (2, 2, 8), (2, 1, 7), (2, 0, 3), (3, 2, 6), (3, 1, 5), (3, 0, 4)]) (fun _ => gho rfl rfl rfl)) d_L_init_87 cd_K_init lk_L_43 im_K_init rfl rfl (st := [sx_p 16, .inl 2, sx_p 8]) rfl rfl (Nat.le_of_ble_eq_true rfl) ⟨by decide, by decide, by decide⟩ (fun _ _ hq => ?_)
  obtain ⟨rfl, rfl⟩ := hq
  show sx_V _ _ _ _ (14, 711) _ _ [sx_p 16, .inl 2, sx_p 8] (gh 16 (sx_u (sx_u (sx_u (sx_u (sx_u (sx_u Md 14 4 1) 14 8 999) 15 4 1) 15 8 999) 16 4 1) 16 8 999) [(8, 1, 15), (8, 0, 14), (2, 7, 13), (2, 6, 12), (2, 5, 11), (2, 4, 10), (2, 3, 9), (2, 2, 8), (2, 1, 7), (2, 0, 3), (3, 2, 6), (3, 1, 5), (3, 0, 4)]) _
  refine gh_aast (t := 0) (ci := 7) (i := 2) d_L_init_90 (gho rfl rfl rfl) rfl rfl (gho rfl rfl rfl) (by decide) (by decide) (by decide) (by decide) rfl ?_
  refine sx_iinc (l' := [some (sx_p 2), some (.inl 3)]) d_L_init_91 rfl (by decide) rfl rfl ?_
  refine sx_goto (tgt := 72) d_L_init_94 (by decide) ?_
  refine sx_iload_n d_L_init_72 rfl ?_
  refine sx_bipush d_L_init_73 (by decide) ?_
  refine sx_icmp_ge (tgt := 97) d_L_init_75 (by decide) ⟨by decide, by decide⟩ ⟨by decide, by decide⟩ (fun c75_83 => absurd c75_83 (by decide)) (fun _ => ?_)
  refine sx_aload_n d_L_init_78 rfl ?_
  refine sx_getR (r := some (8)) d_L_init_79 fl_L_24 (gho rfl rfl rfl) rfl (by decide) (by decide) rfl ?_
  refine sx_iload_n d_L_init_82 rfl ?_
  refine gh_new (ci := 7) (cs2 := (15, 722)) (n2 := 17) d_L_init_83 rfl (by decide) tw_52 tw_54 tw_4 ⟨by decide, by decide⟩ rfl (((((((((((((hd.zb 16 rfl).u (a := 14) rfl _ _)).u (a := 14) rfl _ _)).u (a := 15) rfl _ _)).u (a := 15) rfl _ _)).u (a := 16) rfl _ _)).u (a := 16) rfl _ _)) rfl rfl rfl ?_
  refine sx_dup rfl d_L_init_86 ?_
  refine sx_callI (c_K_init (n := 17) (a := 17) (M := (sx_u (sx_u (sx_u (sx_u (sx_u (sx_u Md 14 4 1) 14 8 999) 15 4 1) 15 8 999) 16 4 1) 16 8 999)) (rl := [(8, 2, 16), (8, 1, 15), (8, 0, 14), (2, 7, 13), (2, 6, 12), (2, 5, 11), (2, 4, 10), (2, 3, 9), (2, 2, 8), (2, 1, 7), (2, 0, 3), (3, 2, 6), (3, 1, 5), (3, 0, 4)]) (fun _ => gho rfl rfl rfl)) d_L_init_87 cd_K_init lk_L_43 im_K_init rfl rfl (st := [sx_p 17, .inl 3, sx_p 8]) rfl rfl (Nat.le_of_ble_eq_true rfl) ⟨by decide, by decide, by decide⟩ (fun _ _ hq => ?_)
  obtain ⟨rfl, rfl⟩ := hq
  show sx_V _ _ _ _ (15, 722) _ _ [sx_p 17, .inl 3, sx_p 8] (gh 17 (sx_u (sx_u (sx_u (sx_u (sx_u (sx_u (sx_u (sx_u Md 14 4 1) 14 8 999) 15 4 1) 15 8 999) 16 4 1) 16 8 999) 17 4 1) 17 8 999) [(8, 2, 16), (8, 1, 15), (8, 0, 14), (2, 7, 13), (2, 6, 12), (2, 5, 11), (2, 4, 10), (2, 3, 9), (2, 2, 8), (2, 1, 7), (2, 0, 3), (3, 2, 6), (3, 1, 5), (3, 0, 4)]) _
  refine gh_aast (t := 0) (ci := 7) (i := 3) d_L_init_90 (gho rfl rfl rfl) rfl rfl (gho rfl rfl rfl) (by decide) (by decide) (by decide) (by decide) rfl ?_
  refine sx_iinc (l' := [some (sx_p 2), some (.inl 4)]) d_L_init_91 rfl (by decide) rfl rfl ?_
  refine sx_goto (tgt := 72) d_L_init_94 (by decide) ?_
  refine sx_iload_n d_L_init_72 rfl ?_
  refine sx_bipush d_L_init_73 (by decide) ?_
  refine sx_icmp_ge (tgt := 97) d_L_init_75 (by decide) ⟨by decide, by decide⟩ ⟨by decide, by decide⟩ (fun c75_97 => absurd c75_97 (by decide)) (fun _ => ?_)
  refine sx_aload_n d_L_init_78 rfl ?_
  refine sx_getR (r := some (8)) d_L_init_79 fl_L_24 (gho rfl rfl rfl) rfl (by decide) (by decide) rfl ?_
  refine sx_iload_n d_L_init_82 rfl ?_
  refine gh_new (ci := 7) (cs2 := (16, 733)) (n2 := 18) d_L_init_83 rfl (by decide) tw_52 tw_54 tw_4 ⟨by decide, by decide⟩ rfl (((((((((((((((((hd.zb 17 rfl).u (a := 14) rfl _ _)).u (a := 14) rfl _ _)).u (a := 15) rfl _ _)).u (a := 15) rfl _ _)).u (a := 16) rfl _ _)).u (a := 16) rfl _ _)).u (a := 17) rfl _ _)).u (a := 17) rfl _ _)) rfl rfl rfl ?_
  refine sx_dup rfl d_L_init_86 ?_
  refine sx_callI (c_K_init (n := 18) (a := 18) (M := (sx_u (sx_u (sx_u (sx_u (sx_u (sx_u (sx_u (sx_u Md 14 4 1) 14 8 999) 15 4 1) 15 8 999) 16 4 1) 16 8 999) 17 4 1) 17 8 999)) (rl := [(8, 3, 17), (8, 2, 16), (8, 1, 15), (8, 0, 14), (2, 7, 13), (2, 6, 12), (2, 5, 11), (2, 4, 10), (2, 3, 9), (2, 2, 8), (2, 1, 7), (2, 0, 3), (3, 2, 6), (3, 1, 5), (3, 0, 4)]) (fun _ => gho rfl rfl rfl)) d_L_init_87 cd_K_init lk_L_43 im_K_init rfl rfl (st := [sx_p 18, .inl 4, sx_p 8]) rfl rfl (Nat.le_of_ble_eq_true rfl) ⟨by decide, by decide, by decide⟩ (fun _ _ hq => ?_)
  obtain ⟨rfl, rfl⟩ := hq
  show sx_V _ _ _ _ (16, 733) _ _ [sx_p 18, .inl 4, sx_p 8] (gh 18 (sx_u (sx_u (sx_u (sx_u (sx_u (sx_u (sx_u (sx_u (sx_u (sx_u Md 14 4 1) 14 8 999) 15 4 1) 15 8 999) 16 4 1) 16 8 999) 17 4 1) 17 8 999) 18 4 1) 18 8 999) [(8, 3, 17), (8, 2, 16), (8, 1, 15), (8, 0, 14), (2, 7, 13), (2, 6, 12), (2, 5, 11), (2, 4, 10), (2, 3, 9), (2, 2, 8), (2, 1, 7), (2, 0, 3), (3, 2, 6), (3, 1, 5), (3, 0, 4)]) _
  refine gh_aast (t := 0) (ci := 7) (i := 4) d_L_init_90 (gho rfl rfl rfl) rfl rfl (gho rfl rfl rfl) (by decide) (by decide) (by decide) (by decide) rfl ?_
  refine sx_iinc (l' := [some (sx_p 2), some (.inl 5)]) d_L_init_91 rfl (by decide) rfl rfl ?_
  refine sx_goto (tgt := 72) d_L_init_94 (by decide) ?_
  refine sx_iload_n d_L_init_72 rfl ?_
  refine sx_bipush d_L_init_73 (by decide) ?_
  refine sx_icmp_ge (tgt := 97) d_L_init_75 (by decide) ⟨by decide, by decide⟩ ⟨by decide, by decide⟩ (fun c75_111 => absurd c75_111 (by decide)) (fun _ => ?_)
  refine sx_aload_n d_L_init_78 rfl ?_
  refine sx_getR (r := some (8)) d_L_init_79 fl_L_24 (gho rfl rfl rfl) rfl (by decide) (by decide) rfl ?_
  refine sx_iload_n d_L_init_82 rfl ?_
  refine gh_new (ci := 7) (cs2 := (17, 744)) (n2 := 19) d_L_init_83 rfl (by decide) tw_52 tw_54 tw_4 ⟨by decide, by decide⟩ rfl (((((((((((((((((((((hd.zb 18 rfl).u (a := 14) rfl _ _)).u (a := 14) rfl _ _)).u (a := 15) rfl _ _)).u (a := 15) rfl _ _)).u (a := 16) rfl _ _)).u (a := 16) rfl _ _)).u (a := 17) rfl _ _)).u (a := 17) rfl _ _)).u (a := 18) rfl _ _)).u (a := 18) rfl _ _)) rfl rfl rfl ?_
  refine sx_dup rfl d_L_init_86 ?_
  refine sx_callI (c_K_init (n := 19) (a := 19) (M := (sx_u (sx_u (sx_u (sx_u (sx_u (sx_u (sx_u (sx_u (sx_u (sx_u Md 14 4 1) 14 8 999) 15 4 1) 15 8 999) 16 4 1) 16 8 999) 17 4 1) 17 8 999) 18 4 1) 18 8 999)) (rl := [(8, 4, 18), (8, 3, 17), (8, 2, 16), (8, 1, 15), (8, 0, 14), (2, 7, 13), (2, 6, 12), (2, 5, 11), (2, 4, 10), (2, 3, 9), (2, 2, 8), (2, 1, 7), (2, 0, 3), (3, 2, 6), (3, 1, 5), (3, 0, 4)]) (fun _ => gho rfl rfl rfl)) d_L_init_87 cd_K_init lk_L_43 im_K_init rfl rfl (st := [sx_p 19, .inl 5, sx_p 8]) rfl rfl (Nat.le_of_ble_eq_true rfl) ⟨by decide, by decide, by decide⟩ (fun _ _ hq => ?_)
  obtain ⟨rfl, rfl⟩ := hq
  show sx_V _ _ _ _ (17, 744) _ _ [sx_p 19, .inl 5, sx_p 8] (gh 19 (sx_u (sx_u (sx_u (sx_u (sx_u (sx_u (sx_u (sx_u (sx_u (sx_u (sx_u (sx_u Md 14 4 1) 14 8 999) 15 4 1) 15 8 999) 16 4 1) 16 8 999) 17 4 1) 17 8 999) 18 4 1) 18 8 999) 19 4 1) 19 8 999) [(8, 4, 18), (8, 3, 17), (8, 2, 16), (8, 1, 15), (8, 0, 14), (2, 7, 13), (2, 6, 12), (2, 5, 11), (2, 4, 10), (2, 3, 9), (2, 2, 8), (2, 1, 7), (2, 0, 3), (3, 2, 6), (3, 1, 5), (3, 0, 4)]) _
  refine gh_aast (t := 0) (ci := 7) (i := 5) d_L_init_90 (gho rfl rfl rfl) rfl rfl (gho rfl rfl rfl) (by decide) (by decide) (by decide) (by decide) rfl ?_
  refine sx_iinc (l' := [some (sx_p 2), some (.inl 6)]) d_L_init_91 rfl (by decide) rfl rfl ?_
  refine sx_goto (tgt := 72) d_L_init_94 (by decide) ?_
  refine sx_iload_n d_L_init_72 rfl ?_
  refine sx_bipush d_L_init_73 (by decide) ?_
  refine sx_icmp_ge (tgt := 97) d_L_init_75 (by decide) ⟨by decide, by decide⟩ ⟨by decide, by decide⟩ (fun _ => ?_) (fun c75_125 => absurd c75_125 (by decide))
  refine sx_iconst d_L_init_97 ?_
  refine sx_istore_n (l' := [some (sx_p 2), some (.inl 0)]) d_L_init_98 (by decide) rfl rfl ?_
  show sx_V _ _ _ _ (17, 744) 99 [some (sx_p 2), some (.inl ((0 : Nat) : Int))] [] (gh 19 (sx_u (sx_u (sx_u (sx_u (sx_u (sx_u (sx_u (sx_u (sx_u (sx_u (sx_u (sx_u Md 14 4 1) 14 8 999) 15 4 1) 15 8 999) 16 4 1) 16 8 999) 17 4 1) 17 8 999) 18 4 1) 18 8 999) 19 4 1) 19 8 999) rl_W) _
  refine l_L_gaps (sx_u (sx_u (sx_u (sx_u (sx_u (sx_u (sx_u (sx_u (sx_u (sx_u (sx_u (sx_u Md 14 4 1) 14 8 999) 15 4 1) 15 8 999) 16 4 1) 16 8 999) 17 4 1) 17 8 999) 18 4 1) 18 8 999) 19 4 1) 19 8 999) _ (fun M1 hf hv hR => ?_) 37 0 (sx_u (sx_u (sx_u (sx_u (sx_u (sx_u (sx_u (sx_u (sx_u (sx_u (sx_u (sx_u Md 14 4 1) 14 8 999) 15 4 1) 15 8 999) 16 4 1) 16 8 999) 17 4 1) 17 8 999) 18 4 1) 18 8 999) 19 4 1) 19 8 999) (by omega) (by omega) (fun _ _ _ => rfl) (fun _ h => absurd h (Nat.not_lt_zero _)) (((((((((((((hd.2.1).u _ _ (by omega)).u _ _ (by omega)).u _ _ (by omega)).u _ _ (by omega)).u _ _ (by omega)).u _ _ (by omega)).u _ _ (by omega)).u _ _ (by omega)).u _ _ (by omega)).u _ _ (by omega)).u _ _ (by omega)).u _ _ (by omega))
  refine sx_iconst d_L_init_121 ?_
  refine sx_istore_n (l' := [some (sx_p 2), some (.inl 0)]) d_L_init_122 (by decide) rfl rfl ?_
  refine sx_iload_n d_L_init_123 rfl ?_
  refine sx_iconst d_L_init_124 ?_
  refine sx_icmp_ge (tgt := 141) d_L_init_125 (by decide) ⟨by decide, by decide⟩ ⟨by decide, by decide⟩ (fun c125_4 => absurd c125_4 (by decide)) (fun _ => ?_)
  refine sx_aload_n d_L_init_128 rfl ?_
  refine sx_getR (r := some (10)) d_L_init_129 fl_L_31 (gho rfl rfl rfl) rfl (by decide) (by decide) rfl ?_
  refine sx_iload_n d_L_init_132 rfl ?_
  refine sx_iconst d_L_init_133 ?_
  refine sx_iast (h2 := gh 19 (sx_u M1 10 0 4) rl_W) d_L_init_134 (gho rfl rfl rfl) (by omega) (by omega) (by decide) rfl ?_
  refine sx_iinc (l' := [some (sx_p 2), some (.inl 1)]) d_L_init_135 rfl (by decide) rfl rfl ?_
  refine sx_goto (tgt := 123) d_L_init_138 (by decide) ?_
  refine sx_iload_n d_L_init_123 rfl ?_
  refine sx_iconst d_L_init_124 ?_
  refine sx_icmp_ge (tgt := 141) d_L_init_125 (by decide) ⟨by decide, by decide⟩ ⟨by decide, by decide⟩ (fun c125_14 => absurd c125_14 (by decide)) (fun _ => ?_)
  refine sx_aload_n d_L_init_128 rfl ?_
  refine sx_getR (r := some (10)) d_L_init_129 fl_L_31 (gho rfl rfl rfl) rfl (by decide) (by decide) rfl ?_
  refine sx_iload_n d_L_init_132 rfl ?_
  refine sx_iconst d_L_init_133 ?_
  refine sx_iast (h2 := gh 19 (sx_u (sx_u M1 10 0 4) 10 1 4) rl_W) d_L_init_134 (gho rfl rfl rfl) (by omega) (by omega) (by decide) rfl ?_
  refine sx_iinc (l' := [some (sx_p 2), some (.inl 2)]) d_L_init_135 rfl (by decide) rfl rfl ?_
  refine sx_goto (tgt := 123) d_L_init_138 (by decide) ?_
  refine sx_iload_n d_L_init_123 rfl ?_
  refine sx_iconst d_L_init_124 ?_
  refine sx_icmp_ge (tgt := 141) d_L_init_125 (by decide) ⟨by decide, by decide⟩ ⟨by decide, by decide⟩ (fun c125_24 => absurd c125_24 (by decide)) (fun _ => ?_)
  refine sx_aload_n d_L_init_128 rfl ?_
  refine sx_getR (r := some (10)) d_L_init_129 fl_L_31 (gho rfl rfl rfl) rfl (by decide) (by decide) rfl ?_
  refine sx_iload_n d_L_init_132 rfl ?_
  refine sx_iconst d_L_init_133 ?_
  refine sx_iast (h2 := gh 19 (sx_u (sx_u (sx_u M1 10 0 4) 10 1 4) 10 2 4) rl_W) d_L_init_134 (gho rfl rfl rfl) (by omega) (by omega) (by decide) rfl ?_
  refine sx_iinc (l' := [some (sx_p 2), some (.inl 3)]) d_L_init_135 rfl (by decide) rfl rfl ?_
  refine sx_goto (tgt := 123) d_L_init_138 (by decide) ?_
  refine sx_iload_n d_L_init_123 rfl ?_
  refine sx_iconst d_L_init_124 ?_
  refine sx_icmp_ge (tgt := 141) d_L_init_125 (by decide) ⟨by decide, by decide⟩ ⟨by decide, by decide⟩ (fun c125_34 => absurd c125_34 (by decide)) (fun _ => ?_)
  refine sx_aload_n d_L_init_128 rfl ?_
  refine sx_getR (r := some (10)) d_L_init_129 fl_L_31 (gho rfl rfl rfl) rfl (by decide) (by decide) rfl ?_
  refine sx_iload_n d_L_init_132 rfl ?_
  refine sx_iconst d_L_init_133 ?_
  refine sx_iast (h2 := gh 19 (sx_u (sx_u (sx_u (sx_u M1 10 0 4) 10 1 4) 10 2 4) 10 3 4) rl_W) d_L_init_134 (gho rfl rfl rfl) (by omega) (by omega) (by decide) rfl ?_
  refine sx_iinc (l' := [some (sx_p 2), some (.inl 4)]) d_L_init_135 rfl (by decide) rfl rfl ?_
  refine sx_goto (tgt := 123) d_L_init_138 (by decide) ?_
  refine sx_iload_n d_L_init_123 rfl ?_
  refine sx_iconst d_L_init_124 ?_
  refine sx_icmp_ge (tgt := 141) d_L_init_125 (by decide) ⟨by decide, by decide⟩ ⟨by decide, by decide⟩ (fun _ => ?_) (fun c125_44 => absurd c125_44 (by decide))
  refine sx_retV d_L_init_141 rfl ⟨by decide, by decide⟩ ?_
  refine ⟨rfl, _, rfl, ?_⟩
  exact LZ_of hd hf hv hR
