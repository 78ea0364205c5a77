/-- what taking over the search's outcome leaves -/
def tko (nw : Nat) (ag : Int) (M M2 : Nat → Nat → Int) : Prop := (∀ a k, a ≠ 1 → a ≠ 23 → a ≠ 24 → a ≠ 50 → M2 a k = M a k) ∧ M2 1 7 = 1 ∧ M2 1 8 = M 25 13 ∧ M2 1 9 = (if M 25 11 = 0 then 1 else 0) ∧ M2 1 10 = M 25 10 ∧ (∀ i, i < nw → M2 23 i = M 30 i ∧ M2 24 i = M 31 i ∧ M2 50 i = if ag ≠ 0 ∧ ¬ (M 23 i = M 30 i ∧ M 24 i = M 31 i) then 1 else 0) ∧ IR M2
def tkn (M M2 : Nat → Nat → Int) : Prop := (∀ a k, a ≠ 1 → M2 a k = M a k) ∧ M2 1 7 = M 1 7 ∧ M2 1 8 = M 1 8 ∧ M2 1 9 = (if M 25 11 = 0 then 1 else 0) ∧ M2 1 10 = M 25 10 ∧ IR M2
theorem z_el {P : Prop} [Decidable P] {y : sx_Y} {k : Nat × Nat × Nat} {L : Nat} {xs : Nat → Int32} {av : List sx_v} {h : sx_h} {M : Nat → Nat → Int} (q : sx_R y k L xs av h (fun v h2 => v = some (.inl (if P then 0 else 1)) ∧ h2 = gm M)) : sx_R y k L xs av h (fun v h2 => ∃ z, v = some (.inl z) ∧ (z = 0 ∨ z = 1) ∧ (z = 1 ↔ ¬ P) ∧ h2 = gm M) := by
  refine q.mono ?_
  rintro v h2 ⟨rfl, rfl⟩
  refine ⟨_, rfl, ?_, ?_, rfl⟩
  · split <;> omega
  · split
    · rename_i h; exact ⟨fun k => absurd k (by decide), fun k => absurd h k⟩
    · rename_i h; exact ⟨fun _ => h, fun _ => rfl⟩
set_option maxRecDepth 100000 in
set_option maxHeartbeats 4000000 in
theorem l_T_take {L : Nat} {xs : Nat → Int32} (M : Nat → Nat → Int) (hR : IR M) (nw : Nat) (hnw : M 2 9 = (nw : Int)) (h6 : nw ≤ 6) (ag : Int) (hag : ag = 0 ∨ ag = 1) : ∀ (n i : Nat) (M1 : Nat → Nat → Int) (y3 y4 : Option sx_v), nw - i < n → i ≤ nw → (∀ a k, a ≠ 23 → a ≠ 24 → a ≠ 50 → M1 a k = M a k) → (∀ i2, i2 < i → M1 23 i2 = M 30 i2 ∧ M1 24 i2 = M 31 i2 ∧ M1 50 i2 = if ag ≠ 0 ∧ ¬ (M 23 i2 = M 30 i2 ∧ M 24 i2 = M 31 i2) then 1 else 0) → (∀ i2, i ≤ i2 → M1 23 i2 = M 23 i2 ∧ M1 24 i2 = M 24 i2) → IR M1 → sx_V y_T_takeOutcome (2, 0, 0) L xs (0, 0) 44 [some (sx_p 1), some (.inl ag), some (.inl (i : Int)), y3, y4] [] (gm M1) (fun v h2 => v = some (.inl 1) ∧ ∃ M2, h2 = gm (sx_u (sx_u M2 1 8 (M 25 13)) 1 7 1) ∧ (∀ a k, a ≠ 23 → a ≠ 24 → a ≠ 50 → M2 a k = M a k) ∧ (∀ i2, i2 < nw → M2 23 i2 = M 30 i2 ∧ M2 24 i2 = M 31 i2 ∧ M2 50 i2 = if ag ≠ 0 ∧ ¬ (M 23 i2 = M 30 i2 ∧ M 24 i2 = M 31 i2) then 1 else 0) ∧ IR M2) := by
  intro n
  induction n with
  | zero => intro i M1 y3 y4 h1 h2; omega
  | succ n ih =>
    intro i M1 y3 y4 hn hi hfr hz hpl hR1
    refine sx_iload_n d_T_takeOutcome_44 rfl ?_
    refine sx_aload_n d_T_takeOutcome_45 rfl ?_
    refine sx_getR (r := some (2)) d_T_takeOutcome_46 fl_T_10 (go rfl rfl rfl) (by decide) (by decide) (by decide) rfl ?_
    refine sx_getI (z := (nw : Int)) d_T_takeOutcome_49 fl_T_80 (go rfl rfl rfl) (by decide) (by decide) (by decide) ((hfr 2 9 (by decide) (by decide) (by decide)).trans hnw) ?_
    refine sx_icmp_ge (tgt := 128) d_T_takeOutcome_52 (by decide) (by omega) (by omega) (fun c52_12 => ?_) (fun c52_12 => ?_)
    · refine sx_aload_n d_T_takeOutcome_128 rfl ?_
      refine sx_aload_n d_T_takeOutcome_129 rfl ?_
      refine sx_getR (r := some (25)) d_T_takeOutcome_130 fl_T_37 (go rfl rfl rfl) (by decide) (by decide) (by decide) rfl ?_
      refine sx_getI (z := (M 25 13)) d_T_takeOutcome_133 fl_T_251 (go rfl rfl rfl) (by decide) (by decide) (by decide) (hfr 25 13 (by decide) (by decide) (by decide)) ?_
      refine sx_putI (h2 := gm (sx_u M1 1 8 (M 25 13))) d_T_takeOutcome_136 fl_T_146 (go rfl rfl rfl) (by decide) (by decide) (by decide) (fun q hq => Or.inl (nf_T_8 q hq)) (Or.inl rfl) rfl ?_
      refine sx_aload_n d_T_takeOutcome_139 rfl ?_
      refine sx_iconst d_T_takeOutcome_140 ?_
      refine sx_putI (h2 := gm (sx_u (sx_u M1 1 8 (M 25 13)) 1 7 1)) d_T_takeOutcome_141 fl_T_186 (go rfl rfl rfl) (by decide) (by decide) (by decide) (fun q hq => Or.inl (nf_T_7 q hq)) (Or.inr ⟨rfl, (Or.inr rfl)⟩) rfl ?_
      refine sx_iconst d_T_takeOutcome_144 ?_
      refine sx_retI d_T_takeOutcome_145 (Or.inr ⟨rfl, by first | exact Or.inl rfl | exact Or.inr rfl | omega⟩) ⟨Nat.zero_le _, Nat.zero_le _⟩ ?_
      have e0 : i = nw := by omega
      subst e0
      exact ⟨rfl, M1, rfl, hfr, hz, hR1⟩
    · refine sx_aload_n d_T_takeOutcome_55 rfl ?_
      refine sx_getR (r := some (25)) d_T_takeOutcome_56 fl_T_37 (go rfl rfl rfl) (by decide) (by decide) (by decide) rfl ?_
      refine sx_getR (r := some (29)) d_T_takeOutcome_59 fl_T_242 (go rfl rfl rfl) (by decide) (by decide) (by decide) rfl ?_
      refine sx_getR (r := some (30)) d_T_takeOutcome_62 fl_T_159 (go rfl rfl rfl) (by decide) (by decide) (by decide) rfl ?_
      refine sx_iload_n d_T_takeOutcome_65 rfl ?_
      refine sx_iald (z := (M 30 i)) d_T_takeOutcome_66 (go rfl rfl rfl) (by omega) (by omega) (by decide) (hfr 30 i (by decide) (by decide) (by decide)) ?_
      refine sx_istore_n (l' := [some (sx_p 1), some (.inl ag), some (.inl (i : Int)), some (.inl (M 30 i)), y4]) d_T_takeOutcome_67 (by decide) rfl rfl ?_
      refine sx_aload_n d_T_takeOutcome_68 rfl ?_
      refine sx_getR (r := some (25)) d_T_takeOutcome_69 fl_T_37 (go rfl rfl rfl) (by decide) (by decide) (by decide) rfl ?_
      refine sx_getR (r := some (29)) d_T_takeOutcome_72 fl_T_242 (go rfl rfl rfl) (by decide) (by decide) (by decide) rfl ?_
      refine sx_getR (r := some (31)) d_T_takeOutcome_75 fl_T_166 (go rfl rfl rfl) (by decide) (by decide) (by decide) rfl ?_
      refine sx_iload_n d_T_takeOutcome_78 rfl ?_
      refine sx_iald (z := (M 31 i)) d_T_takeOutcome_79 (go rfl rfl rfl) (by omega) (by omega) (by decide) (hfr 31 i (by decide) (by decide) (by decide)) ?_
      refine sx_istore (l' := [some (sx_p 1), some (.inl ag), some (.inl (i : Int)), some (.inl (M 30 i)), some (.inl (M 31 i))]) d_T_takeOutcome_80 (by decide) rfl rfl ?_
      have p23 : M1 23 i = M 23 i := (hpl i (by omega)).1
      have p24 : M1 24 i = M 24 i := (hpl i (by omega)).2
      refine sx_aload_n d_T_takeOutcome_82 rfl ?_
      refine sx_getR (r := some (50)) d_T_takeOutcome_83 fl_T_57 (go rfl rfl rfl) (by decide) (by decide) (by decide) rfl ?_
      refine sx_iload_n d_T_takeOutcome_86 rfl ?_
      refine sx_iload_n d_T_takeOutcome_87 rfl ?_
      refine sx_if_eq (tgt := 109) d_T_takeOutcome_88 (by decide) (by omega) (fun c88_46 => ?_) (fun c88_46 => ?_)
      · refine sx_iconst d_T_takeOutcome_109 ?_
        refine sx_zast (h2 := gm (sx_u M1 50 i 0)) d_T_takeOutcome_110 (go rfl rfl rfl) (by omega) (by omega) (by decide) (Or.inl rfl) rfl ?_
        refine sx_aload_n d_T_takeOutcome_111 rfl ?_
        refine sx_getR (r := some (22)) d_T_takeOutcome_112 fl_T_28 (go rfl rfl rfl) (by decide) (by decide) (by decide) rfl ?_
        refine sx_iload_n d_T_takeOutcome_115 rfl ?_
        refine sx_iload_n d_T_takeOutcome_116 rfl ?_
        refine sx_iload d_T_takeOutcome_117 rfl ?_
        refine sx_callV (c_P_put (sx_u M1 50 i 0) 22 23 24 (fun _ => go rfl rfl rfl) (fun _ => go rfl rfl rfl) (fun _ => go rfl rfl rfl) (fun _ => rfl) (fun _ => rfl) i (by omega) (M 30 i) (M 31 i)) d_T_takeOutcome_119 cd_P_put lk_T_248 im_P_put se_P_put (go rfl rfl rfl) rfl rfl (by decide) (st := []) rfl rfl (Nat.le_of_ble_eq_true rfl) ⟨by decide, Nat.le_refl _, Nat.le_refl _⟩ (fun _ _ hq => ?_)
        obtain ⟨rfl, rfl⟩ := hq
        show sx_V _ _ _ _ (0, 0) _ _ [] (gm (sx_u (sx_u (sx_u M1 50 i 0) 23 i (M 30 i)) 24 i (M 31 i))) _
        refine sx_iinc (l' := [some (sx_p 1), some (.inl ag), some (.inl ((i : Int) + 1)), some (.inl (M 30 i)), some (.inl (M 31 i))]) d_T_takeOutcome_122 rfl (by decide) rfl rfl ?_
        refine sx_goto (tgt := 44) d_T_takeOutcome_125 (by decide) ?_
        have e1 : ((i : Int) + 1) = ((i + 1 : Nat) : Int) := by omega
        rw [e1]
        refine ih (i + 1) _ _ _ (by omega) (by omega) (fun a k h1 h2 h3 => ?_) (fun i2 hi2 => ?_) (fun i2 hi2 => ?_) (((hR1.u _ _ (by omega)).u _ _ (hR _ _)).u _ _ (hR _ _))
        · rw [sx_u_ne h2, sx_u_ne h1, sx_u_ne h3]; exact hfr a k h1 h2 h3
        · by_cases q : i2 = i
          · subst q; refine ⟨by simp [sx_u], by simp [sx_u], ?_⟩; simp only [sx_u]; simp; (try rw [p23, p24] at *); first | (rw [if_pos ⟨by omega, by omega⟩]; done) | (rw [if_neg (fun k => by omega)]; done) | (split <;> omega) | simp_all
          · simp [sx_u, q]; have := hz i2 (by omega); simpa using this
        · have q : i2 ≠ i := by omega
          simp [sx_u, q]; exact hpl i2 (by omega)
      · refine sx_aload_n d_T_takeOutcome_91 rfl ?_
        refine sx_getR (r := some (22)) d_T_takeOutcome_92 fl_T_28 (go rfl rfl rfl) (by decide) (by decide) (by decide) rfl ?_
        refine sx_iload_n d_T_takeOutcome_95 rfl ?_
        refine sx_iload_n d_T_takeOutcome_96 rfl ?_
        refine sx_iload d_T_takeOutcome_97 rfl ?_
        refine sx_callV (z_el (c_P_isElse M1 hR1 22 23 24 (fun _ => go rfl rfl rfl) (fun _ => go rfl rfl rfl) (fun _ => go rfl rfl rfl) (fun _ => rfl) (fun _ => rfl) i (by omega) (M 30 i) (M 31 i) (hR _ _) (hR _ _))) d_T_takeOutcome_99 cd_P_isElsewhere lk_T_245 im_P_isElsewhere se_P_isElsewhere (go rfl rfl rfl) rfl rfl (by decide) (st := [.inl (i : Int), sx_p 50]) rfl rfl (Nat.le_of_ble_eq_true rfl) ⟨by decide, Nat.le_refl _, Nat.le_refl _⟩ (fun _ _ hq => ?_)
        obtain ⟨z41, rfl, z41b, z41i, rfl⟩ := hq
        show sx_V _ _ _ _ (0, 0) _ _ [.inl z41, .inl (i : Int), sx_p 50] (gm M1) _
        refine sx_if_eq (tgt := 109) d_T_takeOutcome_102 (by decide) (by omega) (fun c102_76 => ?_) (fun c102_76 => ?_)
        · refine sx_iconst d_T_takeOutcome_109 ?_
          refine sx_zast (h2 := gm (sx_u M1 50 i 0)) d_T_takeOutcome_110 (go rfl rfl rfl) (by omega) (by omega) (by decide) (Or.inl rfl) rfl ?_
          refine sx_aload_n d_T_takeOutcome_111 rfl ?_
          refine sx_getR (r := some (22)) d_T_takeOutcome_112 fl_T_28 (go rfl rfl rfl) (by decide) (by decide) (by decide) rfl ?_
          refine sx_iload_n d_T_takeOutcome_115 rfl ?_
          refine sx_iload_n d_T_takeOutcome_116 rfl ?_
          refine sx_iload d_T_takeOutcome_117 rfl ?_
          refine sx_callV (c_P_put (sx_u M1 50 i 0) 22 23 24 (fun _ => go rfl rfl rfl) (fun _ => go rfl rfl rfl) (fun _ => go rfl rfl rfl) (fun _ => rfl) (fun _ => rfl) i (by omega) (M 30 i) (M 31 i)) d_T_takeOutcome_119 cd_P_put lk_T_248 im_P_put se_P_put (go rfl rfl rfl) rfl rfl (by decide) (st := []) rfl rfl (Nat.le_of_ble_eq_true rfl) ⟨by decide, Nat.le_refl _, Nat.le_refl _⟩ (fun _ _ hq => ?_)
          obtain ⟨rfl, rfl⟩ := hq
          show sx_V _ _ _ _ (0, 0) _ _ [] (gm (sx_u (sx_u (sx_u M1 50 i 0) 23 i (M 30 i)) 24 i (M 31 i))) _
          refine sx_iinc (l' := [some (sx_p 1), some (.inl ag), some (.inl ((i : Int) + 1)), some (.inl (M 30 i)), some (.inl (M 31 i))]) d_T_takeOutcome_122 rfl (by decide) rfl rfl ?_
          refine sx_goto (tgt := 44) d_T_takeOutcome_125 (by decide) ?_
          have e1 : ((i : Int) + 1) = ((i + 1 : Nat) : Int) := by omega
          rw [e1]
          refine ih (i + 1) _ _ _ (by omega) (by omega) (fun a k h1 h2 h3 => ?_) (fun i2 hi2 => ?_) (fun i2 hi2 => ?_) (((hR1.u _ _ (by omega)).u _ _ (hR _ _)).u _ _ (hR _ _))
          · rw [sx_u_ne h2, sx_u_ne h1, sx_u_ne h3]; exact hfr a k h1 h2 h3
          · by_cases q : i2 = i
            · subst q; refine ⟨by simp [sx_u], by simp [sx_u], ?_⟩; simp only [sx_u]; simp; (try rw [p23, p24] at *); first | (rw [if_pos ⟨by omega, by omega⟩]; done) | (rw [if_neg (fun k => by omega)]; done) | (split <;> omega) | simp_all
            · simp [sx_u, q]; have := hz i2 (by omega); simpa using this
          · have q : i2 ≠ i := by omega
            simp [sx_u, q]; exact hpl i2 (by omega)
        · refine sx_iconst d_T_takeOutcome_105 ?_
          refine sx_goto (tgt := 110) d_T_takeOutcome_106 (by decide) ?_
          refine sx_zast (h2 := gm (sx_u M1 50 i 1)) d_T_takeOutcome_110 (go rfl rfl rfl) (by omega) (by omega) (by decide) (Or.inr rfl) rfl ?_
          refine sx_aload_n d_T_takeOutcome_111 rfl ?_
          refine sx_getR (r := some (22)) d_T_takeOutcome_112 fl_T_28 (go rfl rfl rfl) (by decide) (by decide) (by decide) rfl ?_
          refine sx_iload_n d_T_takeOutcome_115 rfl ?_
          refine sx_iload_n d_T_takeOutcome_116 rfl ?_
          refine sx_iload d_T_takeOutcome_117 rfl ?_
          refine sx_callV (c_P_put (sx_u M1 50 i 1) 22 23 24 (fun _ => go rfl rfl rfl) (fun _ => go rfl rfl rfl) (fun _ => go rfl rfl rfl) (fun _ => rfl) (fun _ => rfl) i (by omega) (M 30 i) (M 31 i)) d_T_takeOutcome_119 cd_P_put lk_T_248 im_P_put se_P_put (go rfl rfl rfl) rfl rfl (by decide) (st := []) rfl rfl (Nat.le_of_ble_eq_true rfl) ⟨by decide, Nat.le_refl _, Nat.le_refl _⟩ (fun _ _ hq => ?_)
          obtain ⟨rfl, rfl⟩ := hq
          show sx_V _ _ _ _ (0, 0) _ _ [] (gm (sx_u (sx_u (sx_u M1 50 i 1) 23 i (M 30 i)) 24 i (M 31 i))) _
          refine sx_iinc (l' := [some (sx_p 1), some (.inl ag), some (.inl ((i : Int) + 1)), some (.inl (M 30 i)), some (.inl (M 31 i))]) d_T_takeOutcome_122 rfl (by decide) rfl rfl ?_
          refine sx_goto (tgt := 44) d_T_takeOutcome_125 (by decide) ?_
          have e1 : ((i : Int) + 1) = ((i + 1 : Nat) : Int) := by omega
          rw [e1]
          refine ih (i + 1) _ _ _ (by omega) (by omega) (fun a k h1 h2 h3 => ?_) (fun i2 hi2 => ?_) (fun i2 hi2 => ?_) (((hR1.u _ _ (by omega)).u _ _ (hR _ _)).u _ _ (hR _ _))
          · rw [sx_u_ne h2, sx_u_ne h1, sx_u_ne h3]; exact hfr a k h1 h2 h3
          · by_cases q : i2 = i
            · subst q; refine ⟨by simp [sx_u], by simp [sx_u], ?_⟩; simp only [sx_u]; simp; (try rw [p23, p24] at *); first | (rw [if_pos ⟨by omega, by omega⟩]; done) | (rw [if_neg (fun k => by omega)]; done) | (split <;> omega) | simp_all
            · simp [sx_u, q]; have := hz i2 (by omega); simpa using this
          · have q : i2 ≠ i := by omega
            simp [sx_u, q]; exact hpl i2 (by omega)
set_option maxRecDepth 100000 in
set_option maxHeartbeats 4000000 in
theorem c_T_take {L : Nat} {xs : Nat → Int32} (M : Nat → Nat → Int) (hR : IR M) (nw : Nat) (hnw : M 2 9 = (nw : Int)) (h6 : nw ≤ 6) (ag : Int) (hag : ag = 0 ∨ ag = 1) (h12 : M 25 12 = 0 ∨ M 25 12 = 1) : sx_R y_T_takeOutcome (2, 0, 0) L xs [sx_p 1, .inl ag] (gm M) (fun v h2 => ∃ z, v = some (.inl z) ∧ (z = 0 ∨ z = 1) ∧ ∃ M2, h2 = gm M2 ∧ (z = 0 → M 25 12 = 0 ∧ tkn M M2) ∧ (z = 1 → M 25 12 = 1 ∧ tko nw ag M M2)) := by
  refine sx_enter rfl (Nat.le_of_ble_eq_true rfl) rfl ?_
  show sx_V y_T_takeOutcome (2, 0, 0) L xs (0, 0) 0 [some (sx_p 1), some (.inl ag), none, none, none] [] (gm M) _
  refine sx_aload_n d_T_takeOutcome_0 rfl ?_
  refine sx_aload_n d_T_takeOutcome_1 rfl ?_
  refine sx_getR (r := some (25)) d_T_takeOutcome_2 fl_T_37 (go rfl rfl rfl) (by decide) (by decide) (by decide) rfl ?_
  refine sx_getI (z := (M 25 10)) d_T_takeOutcome_5 fl_T_233 (go rfl rfl rfl) (by decide) (by decide) (by decide) rfl ?_
  refine sx_putI (h2 := gm (sx_u M 1 10 (M 25 10))) d_T_takeOutcome_8 fl_T_153 (go rfl rfl rfl) (by decide) (by decide) (by decide) (fun q hq => Or.inl (nf_T_10 q hq)) (Or.inl rfl) rfl ?_
  refine sx_aload_n d_T_takeOutcome_11 rfl ?_
  refine sx_aload_n d_T_takeOutcome_12 rfl ?_
  refine sx_getR (r := some (25)) d_T_takeOutcome_13 fl_T_37 (go rfl rfl rfl) (by decide) (by decide) (by decide) rfl ?_
  refine sx_getI (z := (M 25 11)) d_T_takeOutcome_16 fl_T_236 (go rfl rfl rfl) (by decide) (by decide) (by decide) rfl ?_
  refine sx_if_ne (tgt := 26) d_T_takeOutcome_19 (by decide) (hR _ _) (fun c19_14 => ?_) (fun c19_14 => ?_)
  · refine sx_iconst d_T_takeOutcome_26 ?_
    refine sx_putI (h2 := gm (sx_u (sx_u M 1 10 (M 25 10)) 1 9 0)) d_T_takeOutcome_27 fl_T_149 (go rfl rfl rfl) (by decide) (by decide) (by decide) (fun q hq => Or.inl (nf_T_9 q hq)) (Or.inr ⟨rfl, (Or.inl rfl)⟩) rfl ?_
    refine sx_aload_n d_T_takeOutcome_30 rfl ?_
    refine sx_getR (r := some (25)) d_T_takeOutcome_31 fl_T_37 (go rfl rfl rfl) (by decide) (by decide) (by decide) rfl ?_
    refine sx_getI (z := (M 25 12)) d_T_takeOutcome_34 fl_T_239 (go rfl rfl rfl) (by decide) (by decide) (by decide) rfl ?_
    refine sx_if_ne (tgt := 42) d_T_takeOutcome_37 (by decide) (hR _ _) (fun c37_20 => ?_) (fun c37_20 => ?_)
    · refine sx_iconst d_T_takeOutcome_42 ?_
      refine sx_istore_n (l' := [some (sx_p 1), some (.inl ag), some (.inl 0), none, none]) d_T_takeOutcome_43 (by decide) rfl rfl ?_
      have q := l_T_take (L := L) (xs := xs) (sx_u (sx_u M 1 10 (M 25 10)) 1 9 0) ((hR.u _ _ (hR _ _)).u _ _ (by omega)) nw hnw h6 ag hag (nw + 1) 0 (sx_u (sx_u M 1 10 (M 25 10)) 1 9 0) none none (by omega) (by omega) (fun _ _ _ _ _ => rfl) (fun _ h => absurd h (Nat.not_lt_zero _)) (fun _ _ => ⟨rfl, rfl⟩) ((hR.u _ _ (hR _ _)).u _ _ (by omega))
      refine q.mono ?_
      rintro v h2 ⟨rfl, M2, rfl, k1, k2, k3⟩
      refine ⟨_, rfl, Or.inr rfl, _, rfl, fun k => absurd k (by decide), fun _ => ⟨by omega, fun a k h1 h2 h3 h4 => by rw [sx_u_ne h1, sx_u_ne h1, k1 a k h2 h3 h4, sx_u_ne h1, sx_u_ne h1], rfl, rfl, ?_, ?_, fun i hi => ?_, (k3.u _ _ (hR _ _)).u _ _ (by omega)⟩⟩
      · rw [show sx_u (sx_u M2 1 8 _) 1 7 1 1 9 = M2 1 9 from rfl, k1 1 9 (by decide) (by decide) (by decide)]; first | (rw [if_pos (by omega)]; rfl) | (rw [if_neg (by omega)]; rfl)
      · rw [show sx_u (sx_u M2 1 8 _) 1 7 1 1 10 = M2 1 10 from rfl, k1 1 10 (by decide) (by decide) (by decide)]; rfl
      · exact k2 i hi
    · refine sx_iconst d_T_takeOutcome_40 ?_
      refine sx_retI d_T_takeOutcome_41 (Or.inr ⟨rfl, by first | exact Or.inl rfl | exact Or.inr rfl | omega⟩) ⟨Nat.zero_le _, Nat.zero_le _⟩ ?_
      refine ⟨_, rfl, Or.inl rfl, _, rfl, fun _ => ⟨by omega, fun a k h => by rw [sx_u_ne h, sx_u_ne h], rfl, rfl, ?_, rfl, (hR.u _ _ (hR _ _)).u _ _ (by omega)⟩, fun k => absurd k (by decide)⟩
      first | (rw [if_pos (by omega)]; rfl) | (rw [if_neg (by omega)]; rfl)
  · refine sx_iconst d_T_takeOutcome_22 ?_
    refine sx_goto (tgt := 27) d_T_takeOutcome_23 (by decide) ?_
    refine sx_putI (h2 := gm (sx_u (sx_u M 1 10 (M 25 10)) 1 9 1)) d_T_takeOutcome_27 fl_T_149 (go rfl rfl rfl) (by decide) (by decide) (by decide) (fun q hq => Or.inl (nf_T_9 q hq)) (Or.inr ⟨rfl, (Or.inr rfl)⟩) rfl ?_
    refine sx_aload_n d_T_takeOutcome_30 rfl ?_
    refine sx_getR (r := some (25)) d_T_takeOutcome_31 fl_T_37 (go rfl rfl rfl) (by decide) (by decide) (by decide) rfl ?_
    refine sx_getI (z := (M 25 12)) d_T_takeOutcome_34 fl_T_239 (go rfl rfl rfl) (by decide) (by decide) (by decide) rfl ?_
    refine sx_if_ne (tgt := 42) d_T_takeOutcome_37 (by decide) (hR _ _) (fun c37_40 => ?_) (fun c37_40 => ?_)
    · refine sx_iconst d_T_takeOutcome_42 ?_
      refine sx_istore_n (l' := [some (sx_p 1), some (.inl ag), some (.inl 0), none, none]) d_T_takeOutcome_43 (by decide) rfl rfl ?_
      have q := l_T_take (L := L) (xs := xs) (sx_u (sx_u M 1 10 (M 25 10)) 1 9 1) ((hR.u _ _ (hR _ _)).u _ _ (by omega)) nw hnw h6 ag hag (nw + 1) 0 (sx_u (sx_u M 1 10 (M 25 10)) 1 9 1) none none (by omega) (by omega) (fun _ _ _ _ _ => rfl) (fun _ h => absurd h (Nat.not_lt_zero _)) (fun _ _ => ⟨rfl, rfl⟩) ((hR.u _ _ (hR _ _)).u _ _ (by omega))
      refine q.mono ?_
      rintro v h2 ⟨rfl, M2, rfl, k1, k2, k3⟩
      refine ⟨_, rfl, Or.inr rfl, _, rfl, fun k => absurd k (by decide), fun _ => ⟨by omega, fun a k h1 h2 h3 h4 => by rw [sx_u_ne h1, sx_u_ne h1, k1 a k h2 h3 h4, sx_u_ne h1, sx_u_ne h1], rfl, rfl, ?_, ?_, fun i hi => ?_, (k3.u _ _ (hR _ _)).u _ _ (by omega)⟩⟩
      · rw [show sx_u (sx_u M2 1 8 _) 1 7 1 1 9 = M2 1 9 from rfl, k1 1 9 (by decide) (by decide) (by decide)]; first | (rw [if_pos (by omega)]; rfl) | (rw [if_neg (by omega)]; rfl)
      · rw [show sx_u (sx_u M2 1 8 _) 1 7 1 1 10 = M2 1 10 from rfl, k1 1 10 (by decide) (by decide) (by decide)]; rfl
      · exact k2 i hi
    · refine sx_iconst d_T_takeOutcome_40 ?_
      refine sx_retI d_T_takeOutcome_41 (Or.inr ⟨rfl, by first | exact Or.inl rfl | exact Or.inr rfl | omega⟩) ⟨Nat.zero_le _, Nat.zero_le _⟩ ?_
      refine ⟨_, rfl, Or.inl rfl, _, rfl, fun _ => ⟨by omega, fun a k h => by rw [sx_u_ne h, sx_u_ne h], rfl, rfl, ?_, rfl, (hR.u _ _ (hR _ _)).u _ _ (by omega)⟩, fun k => absurd k (by decide)⟩
      first | (rw [if_pos (by omega)]; rfl) | (rw [if_neg (by omega)]; rfl)
theorem eb_01 {M M1 : Nat → Nat → Int} {ag : Int} {nw : Nat} {b : sB} (h : eb M ag nw M1 b) : M1 25 12 = 0 ∨ M1 25 12 = 1 := by
  cases b with
  | none => exact Or.inl h
  | some q => exact Or.inr h.1
set_option maxRecDepth 100000 in
set_option maxHeartbeats 4000000 in
theorem c_run_bad {L : Nat} {xs : Nat → Int32} (M : Nat → Nat → Int) (hR : IR M) (nw : Nat) (hnw : M 2 9 = (nw : Int)) (h6 : nw ≤ 6) (g : Int) (hg : sx_r g) (hbd : ¬ (1 ≤ g ∧ g ≤ 20000 ∧ 0 < nw)) : sx_R y_T_run (1, 0, 0) L xs [sx_p 1, .inl g] (gm M) (fun v h2 => v = some (.inl (-1)) ∧ h2 = gm M) := by
  refine sx_enter rfl (Nat.le_of_ble_eq_true rfl) rfl ?_
  show sx_V y_T_run (1, 0, 0) L xs (0, 0) 0 [some (sx_p 1), some (.inl g)] [] (gm M) _
  refine sx_iload_n d_T_run_0 rfl ?_
  refine sx_iconst d_T_run_1 ?_
  refine sx_sipush d_T_run_2 (by decide) ?_
  refine sx_callS (z_of (c_isWithin M g 1 20000 (by omega) (by omega) (by omega))) d_T_run_5 cd_T_isWithin lk_T_76 st_T_isWithin (st := []) rfl rfl (Nat.le_of_ble_eq_true rfl) ⟨by decide, Nat.le_refl _, Nat.le_refl _⟩ (fun _ _ hq => ?_)
  obtain ⟨z42, rfl, z42b, z42i, rfl⟩ := hq
  show sx_V _ _ _ _ (0, 0) _ _ [.inl z42] (gm M) _
  refine sx_if_eq (tgt := 21) d_T_run_8 (by decide) (by omega) (fun c8_11 => ?_) (fun c8_11 => ?_)
  · refine sx_iconst d_T_run_21 ?_
    refine sx_retI d_T_run_22 (Or.inl rfl) ⟨Nat.zero_le _, Nat.zero_le _⟩ ?_
    exact ⟨rfl, rfl⟩
  · refine sx_aload_n d_T_run_11 rfl ?_
    refine sx_getR (r := some (2)) d_T_run_12 fl_T_10 (go rfl rfl rfl) (by decide) (by decide) (by decide) rfl ?_
    refine sx_getI (z := (nw : Int)) d_T_run_15 fl_T_80 (go rfl rfl rfl) (by decide) (by decide) (by decide) hnw ?_
    refine sx_if_ne (tgt := 23) d_T_run_18 (by decide) (by omega) (fun c18_18 => ?_) (fun c18_18 => ?_)
    · omega
    · refine sx_iconst d_T_run_21 ?_
      refine sx_retI d_T_run_22 (Or.inl rfl) ⟨Nat.zero_le _, Nat.zero_le _⟩ ?_
      exact ⟨rfl, rfl⟩
set_option maxRecDepth 100000 in
set_option maxHeartbeats 4000000 in
theorem c_run_ok {L : Nat} {xs : Nat → Int32} (M : Nat → Nat → Int) (nw nb : Nat) (hP : PH M nw nb) (g : Int) (hg : 1 ≤ g ∧ g ≤ 20000) (h1 : 1 ≤ nw) (S D : Nat → Int) : sx_R y_T_run (21, 0, 0) L xs [sx_p 1, .inl g] (gm M) (fun v h2 => ∃ M2, h2 = gm M2 ∧ ∃ M1, ST M 0 g nw 0 S D (fs g (GG M 0 nw nb) (CC M) nw 0 S D (0, none)) M1 ∧ ((M1 25 12 = 0 ∧ v = some (.inl (-1)) ∧ tkn M1 M2) ∨ (M1 25 12 = 1 ∧ v = some (.inl (M1 25 13)) ∧ tko nw 0 M1 M2))) := by
  have h6 := hP.2.2.2.1
  refine sx_enter rfl (Nat.le_of_ble_eq_true rfl) rfl ?_
  show sx_V y_T_run (21, 0, 0) L xs (0, 0) 0 [some (sx_p 1), some (.inl g)] [] (gm M) _
  refine sx_iload_n d_T_run_0 rfl ?_
  refine sx_iconst d_T_run_1 ?_
  refine sx_sipush d_T_run_2 (by decide) ?_
  refine sx_callS (z_of (c_isWithin M g 1 20000 (by omega) (by omega) (by omega))) d_T_run_5 cd_T_isWithin lk_T_76 st_T_isWithin (st := []) rfl rfl (Nat.le_of_ble_eq_true rfl) ⟨by decide, Nat.le_refl _, Nat.le_refl _⟩ (fun _ _ hq => ?_)
  obtain ⟨z43, rfl, z43b, z43i, rfl⟩ := hq
  show sx_V _ _ _ _ (0, 0) _ _ [.inl z43] (gm M) _
  refine sx_if_eq (tgt := 21) d_T_run_8 (by decide) (by omega) (fun c8_12 => ?_) (fun c8_12 => ?_)
  · omega
  · refine sx_aload_n d_T_run_11 rfl ?_
    refine sx_getR (r := some (2)) d_T_run_12 fl_T_10 (go rfl rfl rfl) (by decide) (by decide) (by decide) rfl ?_
    refine sx_getI (z := (nw : Int)) d_T_run_15 fl_T_80 (go rfl rfl rfl) (by decide) (by decide) (by decide) hP.2.2.1 ?_
    refine sx_if_ne (tgt := 23) d_T_run_18 (by decide) (by omega) (fun c18_17 => ?_) (fun c18_17 => ?_)
    · refine sx_aload_n d_T_run_23 rfl ?_
      refine sx_getR (r := some (25)) d_T_run_24 fl_T_37 (go rfl rfl rfl) (by decide) (by decide) (by decide) rfl ?_
      refine sx_iload_n d_T_run_27 rfl ?_
      refine sx_iconst d_T_run_28 ?_
      refine sx_callV (c_S_seek M 0 g nw nb hP hg (Or.inl rfl) h1 S D) d_T_run_29 cd_S_seek lk_T_138 im_S_seek se_S_seek (go rfl rfl rfl) rfl rfl (by decide) (st := []) rfl rfl (Nat.le_of_ble_eq_true rfl) ⟨by decide, Nat.le_refl _, Nat.le_refl _⟩ (fun _ _ hq => ?_)
      obtain ⟨rfl, m5, rfl, m5S⟩ := hq
      have h12 : m5 25 12 = 0 ∨ m5 25 12 = 1 := eb_01 m5S.2.2.2.2.2.2.1
      show sx_V _ _ _ _ (0, 0) _ _ [] (gm m5) _
      refine sx_aload_n d_T_run_32 rfl ?_
      refine sx_iconst d_T_run_33 ?_
      refine sx_callV (c_T_take m5 m5S.2.1 nw ((m5S.1 2 9 (by decide)).trans hP.2.2.1) hP.2.2.2.1 0 (Or.inl rfl) h12) d_T_run_34 cd_T_takeOutcome lk_T_142 im_T_takeOutcome se_T_takeOutcome (go rfl rfl rfl) rfl rfl (by decide) (st := []) rfl rfl (Nat.le_of_ble_eq_true rfl) ⟨by decide, Nat.le_refl _, Nat.le_refl _⟩ (fun _ _ hq => ?_)
      obtain ⟨z, rfl, hz, m6, rfl, hz0, hz1⟩ := hq
      show sx_V _ _ _ _ (0, 0) _ _ [.inl z] (gm m6) _
      refine sx_if_eq (tgt := 47) d_T_run_37 (by decide) (by omega) (fun c37_31 => ?_) (fun c37_31 => ?_)
      · refine sx_iconst d_T_run_47 ?_
        refine sx_retI d_T_run_48 (Or.inl rfl) ⟨Nat.zero_le _, Nat.zero_le _⟩ ?_
        refine ⟨m6, rfl, m5, m5S, Or.inl ⟨(hz0 (by omega)).1, rfl, (hz0 (by omega)).2⟩⟩
      · refine sx_aload_n d_T_run_40 rfl ?_
        refine sx_getI (z := (m6 1 8)) d_T_run_41 fl_T_146 (go rfl rfl rfl) (by decide) (by decide) (by decide) rfl ?_
        refine sx_goto (tgt := 48) d_T_run_44 (by decide) ?_
        refine sx_retI d_T_run_48 (Or.inl rfl) ⟨Nat.zero_le _, Nat.zero_le _⟩ ?_
        have q := hz1 (by omega)
        refine ⟨m6, rfl, m5, m5S, Or.inr ⟨q.1, ?_, q.2⟩⟩
        congr 2
        exact q.2.2.2.1
    · omega
set_option maxRecDepth 100000 in
set_option maxHeartbeats 4000000 in
theorem c_replan_bad {L : Nat} {xs : Nat → Int32} (M : Nat → Nat → Int) (hR : IR M) (nw : Nat) (hnw : M 2 9 = (nw : Int)) (h6 : nw ≤ 6) (g : Int) (hg : sx_r g) (hbd : ¬ (1 ≤ g ∧ g ≤ 20000 ∧ M 1 7 ≠ 0)) : sx_R y_T_replan (1, 0, 0) L xs [sx_p 1, .inl g] (gm M) (fun v h2 => v = some (.inl (-1)) ∧ h2 = gm M) := by
  refine sx_enter rfl (Nat.le_of_ble_eq_true rfl) rfl ?_
  show sx_V y_T_replan (1, 0, 0) L xs (0, 0) 0 [some (sx_p 1), some (.inl g)] [] (gm M) _
  refine sx_iload_n d_T_replan_0 rfl ?_
  refine sx_iconst d_T_replan_1 ?_
  refine sx_sipush d_T_replan_2 (by decide) ?_
  refine sx_callS (z_of (c_isWithin M g 1 20000 (by omega) (by omega) (by omega))) d_T_replan_5 cd_T_isWithin lk_T_76 st_T_isWithin (st := []) rfl rfl (Nat.le_of_ble_eq_true rfl) ⟨by decide, Nat.le_refl _, Nat.le_refl _⟩ (fun _ _ hq => ?_)
  obtain ⟨z44, rfl, z44b, z44i, rfl⟩ := hq
  show sx_V _ _ _ _ (0, 0) _ _ [.inl z44] (gm M) _
  refine sx_if_eq (tgt := 18) d_T_replan_8 (by decide) (by omega) (fun c8_11 => ?_) (fun c8_11 => ?_)
  · refine sx_iconst d_T_replan_18 ?_
    refine sx_retI d_T_replan_19 (Or.inl rfl) ⟨Nat.zero_le _, Nat.zero_le _⟩ ?_
    exact ⟨rfl, rfl⟩
  · refine sx_aload_n d_T_replan_11 rfl ?_
    refine sx_getI (z := (M 1 7)) d_T_replan_12 fl_T_186 (go rfl rfl rfl) (by decide) (by decide) (by decide) rfl ?_
    refine sx_if_ne (tgt := 20) d_T_replan_15 (by decide) (hR _ _) (fun c15_17 => ?_) (fun c15_17 => ?_)
    · omega
    · refine sx_iconst d_T_replan_18 ?_
      refine sx_retI d_T_replan_19 (Or.inl rfl) ⟨Nat.zero_le _, Nat.zero_le _⟩ ?_
      exact ⟨rfl, rfl⟩
set_option maxRecDepth 100000 in
set_option maxHeartbeats 4000000 in
theorem c_replan_ok {L : Nat} {xs : Nat → Int32} (M : Nat → Nat → Int) (nw nb : Nat) (hP : PH M nw nb) (g : Int) (hg : 1 ≤ g ∧ g ≤ 20000) (h1 : 1 ≤ nw) (S D : Nat → Int) (h7 : M 1 7 ≠ 0) : sx_R y_T_replan (21, 0, 0) L xs [sx_p 1, .inl g] (gm M) (fun v h2 => ∃ M2, h2 = gm M2 ∧ ∃ M1, ST M 1 g nw 0 S D (fs g (GG M 1 nw nb) (CC M) nw 0 S D (0, none)) M1 ∧ ((M1 25 12 = 0 ∧ v = some (.inl (-1)) ∧ tkn M1 M2) ∨ (M1 25 12 = 1 ∧ v = some (.inl (M1 25 14)) ∧ tko nw 1 M1 M2))) := by
  have h6 := hP.2.2.2.1
  refine sx_enter rfl (Nat.le_of_ble_eq_true rfl) rfl ?_
  show sx_V y_T_replan (21, 0, 0) L xs (0, 0) 0 [some (sx_p 1), some (.inl g)] [] (gm M) _
  refine sx_iload_n d_T_replan_0 rfl ?_
  refine sx_iconst d_T_replan_1 ?_
  refine sx_sipush d_T_replan_2 (by decide) ?_
  refine sx_callS (z_of (c_isWithin M g 1 20000 (by omega) (by omega) (by omega))) d_T_replan_5 cd_T_isWithin lk_T_76 st_T_isWithin (st := []) rfl rfl (Nat.le_of_ble_eq_true rfl) ⟨by decide, Nat.le_refl _, Nat.le_refl _⟩ (fun _ _ hq => ?_)
  obtain ⟨z45, rfl, z45b, z45i, rfl⟩ := hq
  show sx_V _ _ _ _ (0, 0) _ _ [.inl z45] (gm M) _
  refine sx_if_eq (tgt := 18) d_T_replan_8 (by decide) (by omega) (fun c8_12 => ?_) (fun c8_12 => ?_)
  · omega
  · refine sx_aload_n d_T_replan_11 rfl ?_
    refine sx_getI (z := (M 1 7)) d_T_replan_12 fl_T_186 (go rfl rfl rfl) (by decide) (by decide) (by decide) rfl ?_
    refine sx_if_ne (tgt := 20) d_T_replan_15 (by decide) (hP.2.1 _ _) (fun c15_16 => ?_) (fun c15_16 => ?_)
    · refine sx_aload_n d_T_replan_20 rfl ?_
      refine sx_getR (r := some (25)) d_T_replan_21 fl_T_37 (go rfl rfl rfl) (by decide) (by decide) (by decide) rfl ?_
      refine sx_iload_n d_T_replan_24 rfl ?_
      refine sx_iconst d_T_replan_25 ?_
      refine sx_callV (c_S_seek M 1 g nw nb hP hg (Or.inr rfl) h1 S D) d_T_replan_26 cd_S_seek lk_T_138 im_S_seek se_S_seek (go rfl rfl rfl) rfl rfl (by decide) (st := []) rfl rfl (Nat.le_of_ble_eq_true rfl) ⟨by decide, Nat.le_refl _, Nat.le_refl _⟩ (fun _ _ hq => ?_)
      obtain ⟨rfl, m5, rfl, m5S⟩ := hq
      have h12 : m5 25 12 = 0 ∨ m5 25 12 = 1 := eb_01 m5S.2.2.2.2.2.2.1
      show sx_V _ _ _ _ (0, 0) _ _ [] (gm m5) _
      refine sx_aload_n d_T_replan_29 rfl ?_
      refine sx_iconst d_T_replan_30 ?_
      refine sx_callV (c_T_take m5 m5S.2.1 nw ((m5S.1 2 9 (by decide)).trans hP.2.2.1) hP.2.2.2.1 1 (Or.inr rfl) h12) d_T_replan_31 cd_T_takeOutcome lk_T_142 im_T_takeOutcome se_T_takeOutcome (go rfl rfl rfl) rfl rfl (by decide) (st := []) rfl rfl (Nat.le_of_ble_eq_true rfl) ⟨by decide, Nat.le_refl _, Nat.le_refl _⟩ (fun _ _ hq => ?_)
      obtain ⟨z, rfl, hz, m6, rfl, hz0, hz1⟩ := hq
      show sx_V _ _ _ _ (0, 0) _ _ [.inl z] (gm m6) _
      refine sx_if_eq (tgt := 47) d_T_replan_34 (by decide) (by omega) (fun c34_30 => ?_) (fun c34_30 => ?_)
      · refine sx_iconst d_T_replan_47 ?_
        refine sx_retI d_T_replan_48 (Or.inl rfl) ⟨Nat.zero_le _, Nat.zero_le _⟩ ?_
        refine ⟨m6, rfl, m5, m5S, Or.inl ⟨(hz0 (by omega)).1, rfl, (hz0 (by omega)).2⟩⟩
      · refine sx_aload_n d_T_replan_37 rfl ?_
        refine sx_getR (r := some (25)) d_T_replan_38 fl_T_37 (go rfl rfl rfl) (by decide) (by decide) (by decide) rfl ?_
        refine sx_getI (z := (m6 25 14)) d_T_replan_41 fl_T_213 (go rfl rfl rfl) (by decide) (by decide) (by decide) rfl ?_
        refine sx_goto (tgt := 48) d_T_replan_44 (by decide) ?_
        refine sx_retI d_T_replan_48 (Or.inl rfl) ⟨Nat.zero_le _, Nat.zero_le _⟩ ?_
        have q := hz1 (by omega)
        refine ⟨m6, rfl, m5, m5S, Or.inr ⟨q.1, ?_, q.2⟩⟩
        congr 2
        exact q.2.1 25 14 (by decide) (by decide) (by decide) (by decide)
    · omega
