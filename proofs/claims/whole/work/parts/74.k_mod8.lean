set_option maxRecDepth 100000 in
set_option maxHeartbeats 4000000 in
theorem m_work_bad {L : Nat} {xs : Nat → Int32} (M : Nat → Nat → Int) (nc nw nb : Nat) (hM : MR M nc nw nb) (M1 : Nat → Nat → Int) (M1s : sf M M1) (M1R : IR M1) (c f t s b : Int) (hc : sx_r c) (hf : sx_r f) (ht : sx_r t) (hs : sx_r s) (hb : sx_r b) (hbd : ¬ (0 ≤ c ∧ c < nc ∧ 0 ≤ f ∧ f < t ∧ t ≤ 200 ∧ 1 ≤ s ∧ s ≤ 50 ∧ nw < 6)) : sx_R y_M_work (1, 0, 0) L xs [sx_p 51, .inl c, .inl f, .inl t, .inl s, .inl b] (gm M1) (fun v h2 => v = some (.inl (-1)) ∧ h2 = gm M1) := by
  have w6 := hM.w6
  have c4 := hM.c4
  have b8 := hM.b8
  have r33 : 0 ≤ M 3 3 ∧ M 3 3 ≤ 200 := by (have := hM.dy.2.2.2; have := dy_le (dr M) 200; omega)
  refine sx_enter rfl (Nat.le_of_ble_eq_true rfl) rfl ?_
  show sx_V y_M_work (1, 0, 0) L xs (0, 0) 0 [some (sx_p 51), some (.inl c), some (.inl f), some (.inl t), some (.inl s), some (.inl b), none] [] (gm M1) _
  refine sx_iload_n d_M_work_0 rfl ?_
  refine sx_iconst d_M_work_1 ?_
  refine sx_aload_n d_M_work_2 rfl ?_
  refine sx_getI (z := (nc : Int)) d_M_work_3 fl_M_107 (go rfl rfl rfl) (by decide) (by decide) (by decide) ((M1s 51 0 (by decide) (by decide) (by omega)).trans hM.mcn) ?_
  refine sx_iconst d_M_work_6 ?_
  refine sx_isub d_M_work_7 ?_
  refine sx_callS (c_M_within M1 c 0 ((nc : Int) - 1) (by omega) (by omega) (by omega)) d_M_work_8 cd_M_within lk_M_103 st_M_within (st := []) rfl rfl (Nat.le_of_ble_eq_true rfl) ⟨by decide, Nat.le_refl _, Nat.le_refl _⟩ (fun _ _ hq => ?_)
  obtain ⟨z118, rfl, z118b, z118i, rfl⟩ := hq
  show sx_V _ _ _ _ (0, 0) _ _ [.inl z118] (gm M1) _
  refine sx_if_eq (tgt := 58) d_M_work_11 (by decide) (by first | omega | exact hM.ir _ _) (fun c11_18 => ?_) (fun c11_18 => ?_)
  · refine sx_iconst d_M_work_58 ?_
    refine sx_retI d_M_work_59 (Or.inl rfl) ⟨Nat.zero_le _, Nat.zero_le _⟩ ?_
    exact ⟨rfl, rfl⟩
  · refine sx_iload_n d_M_work_14 rfl ?_
    refine sx_iconst d_M_work_15 ?_
    refine sx_sipush d_M_work_16 (by decide) ?_
    refine sx_callS (c_M_within M1 f 0 199 (by omega) (by omega) (by omega)) d_M_work_19 cd_M_within lk_M_103 st_M_within (st := []) rfl rfl (Nat.le_of_ble_eq_true rfl) ⟨by decide, Nat.le_refl _, Nat.le_refl _⟩ (fun _ _ hq => ?_)
    obtain ⟨z119, rfl, z119b, z119i, rfl⟩ := hq
    show sx_V _ _ _ _ (0, 0) _ _ [.inl z119] (gm M1) _
    refine sx_if_eq (tgt := 58) d_M_work_22 (by decide) (by first | omega | exact hM.ir _ _) (fun c22_28 => ?_) (fun c22_28 => ?_)
    · refine sx_iconst d_M_work_58 ?_
      refine sx_retI d_M_work_59 (Or.inl rfl) ⟨Nat.zero_le _, Nat.zero_le _⟩ ?_
      exact ⟨rfl, rfl⟩
    · refine sx_iload_n d_M_work_25 rfl ?_
      refine sx_iload_n d_M_work_26 rfl ?_
      refine sx_iconst d_M_work_27 ?_
      refine sx_iadd d_M_work_28 ?_
      refine sx_sipush d_M_work_29 (by decide) ?_
      refine sx_callS (c_M_within M1 t (f + 1) 200 (by omega) (by omega) (by omega)) d_M_work_32 cd_M_within lk_M_103 st_M_within (st := []) rfl rfl (Nat.le_of_ble_eq_true rfl) ⟨by decide, Nat.le_refl _, Nat.le_refl _⟩ (fun _ _ hq => ?_)
      obtain ⟨z120, rfl, z120b, z120i, rfl⟩ := hq
      show sx_V _ _ _ _ (0, 0) _ _ [.inl z120] (gm M1) _
      refine sx_if_eq (tgt := 58) d_M_work_35 (by decide) (by first | omega | exact hM.ir _ _) (fun c35_40 => ?_) (fun c35_40 => ?_)
      · refine sx_iconst d_M_work_58 ?_
        refine sx_retI d_M_work_59 (Or.inl rfl) ⟨Nat.zero_le _, Nat.zero_le _⟩ ?_
        exact ⟨rfl, rfl⟩
      · refine sx_iload d_M_work_38 rfl ?_
        refine sx_iconst d_M_work_40 ?_
        refine sx_bipush d_M_work_41 (by decide) ?_
        refine sx_callS (c_M_within M1 s 1 50 (by omega) (by omega) (by omega)) d_M_work_43 cd_M_within lk_M_103 st_M_within (st := []) rfl rfl (Nat.le_of_ble_eq_true rfl) ⟨by decide, Nat.le_refl _, Nat.le_refl _⟩ (fun _ _ hq => ?_)
        obtain ⟨z121, rfl, z121b, z121i, rfl⟩ := hq
        show sx_V _ _ _ _ (0, 0) _ _ [.inl z121] (gm M1) _
        refine sx_if_eq (tgt := 58) d_M_work_46 (by decide) (by first | omega | exact hM.ir _ _) (fun c46_50 => ?_) (fun c46_50 => ?_)
        · refine sx_iconst d_M_work_58 ?_
          refine sx_retI d_M_work_59 (Or.inl rfl) ⟨Nat.zero_le _, Nat.zero_le _⟩ ?_
          exact ⟨rfl, rfl⟩
        · refine sx_aload_n d_M_work_49 rfl ?_
          refine sx_getI (z := (nw : Int)) d_M_work_50 fl_M_95 (go rfl rfl rfl) (by decide) (by decide) (by decide) ((M1s 51 2 (by decide) (by decide) (by omega)).trans hM.mwn) ?_
          refine sx_bipush d_M_work_53 (by decide) ?_
          refine sx_icmp_ne (tgt := 60) d_M_work_55 (by decide) (by first | omega | exact hM.ir _ _) ⟨by decide, by decide⟩ (fun c55_57 => ?_) (fun c55_57 => ?_)
          · omega
          · refine sx_iconst d_M_work_58 ?_
            refine sx_retI d_M_work_59 (Or.inl rfl) ⟨Nat.zero_le _, Nat.zero_le _⟩ ?_
            exact ⟨rfl, rfl⟩
set_option maxRecDepth 100000 in
set_option maxHeartbeats 4000000 in
theorem l_M_work {L : Nat} {xs : Nat → Int32} (nw : Nat) (h5 : nw < 6) (Mw : Nat → Nat → Int) (hw51 : Mw 51 2 = (nw : Int) + 1) (y1 y2 y3 y4 y5 : Int) : ∀ (n i : Nat) (M2 : Nat → Nat → Int), nw + 1 - i < n → i ≤ nw + 1 → (∀ a k, a ≠ 58 → M2 a k = Mw a k) → IR M2 → (∀ a b2, a ≤ nw → b2 ≤ nw → M2 58 (6 * a + b2) = (if (b2 = nw ∧ a < i) ∨ (a = nw ∧ b2 < i) then -1 else Mw 58 (6 * a + b2))) → sx_V y_M_work (1, 0, 0) L xs (0, 0) 147 [some (sx_p 51), some (.inl y1), some (.inl y2), some (.inl y3), some (.inl y4), some (.inl y5), some (.inl (i : Int))] [] (gm M2) (fun v h2 => ∃ v2 Mg M2, v = some (.inl v2) ∧ v2 = (nw : Int) ∧ h2 = gm M2 ∧ (∀ a k, a ≠ 58 → Mg a k = Mw a k) ∧ (∀ a b2, a ≤ nw → b2 ≤ nw → Mg 58 (6 * a + b2) = (if (b2 = nw ∧ a < (nw + 1)) ∨ (a = nw ∧ b2 < (nw + 1)) then -1 else Mw 58 (6 * a + b2))) ∧ chg Mg M2) := by
  intro n
  induction n with
  | zero => intro i M2 h1 h2; omega
  | succ n ih =>
    intro i M2 hn hi hfr hR2 hgp
    refine sx_iload d_M_work_147 rfl ?_
    refine sx_aload_n d_M_work_149 rfl ?_
    refine sx_getI (z := ((nw : Int) + 1)) d_M_work_150 fl_M_95 (go rfl rfl rfl) (by decide) (by decide) (by decide) ((hfr 51 2 (by decide)).trans hw51) ?_
    refine sx_icmp_ge (tgt := 198) d_M_work_153 (by decide) (by omega) (by omega) (fun c153_11 => ?_) (fun c153_11 => ?_)
    · refine sx_aload_n d_M_work_198 rfl ?_
      refine sx_callV (c_M_chg M2 hR2) d_M_work_199 cd_M_changed lk_M_110 im_M_changed se_M_changed (go rfl rfl rfl) rfl rfl (by decide) (st := []) rfl rfl (Nat.le_of_ble_eq_true rfl) ⟨by decide, Nat.le_refl _, Nat.le_refl _⟩ (fun _ _ hq => ?_)
      obtain ⟨rfl, h10m, rfl, h10mg⟩ := hq
      show sx_V _ _ _ _ (0, 0) _ _ [] (gm h10m) _
      refine sx_aload_n d_M_work_202 rfl ?_
      refine sx_getI (z := ((nw : Int) + 1)) d_M_work_203 fl_M_95 (go rfl rfl rfl) (by decide) (by decide) (by decide) (((h10mg).1 51 2 (by omega)).trans ((hfr 51 2 (by decide)).trans hw51)) ?_
      refine sx_iconst d_M_work_206 ?_
      refine sx_isub d_M_work_207 ?_
      refine sx_retI d_M_work_208 (Or.inl rfl) ⟨Nat.zero_le _, Nat.zero_le _⟩ ?_
      have e0 : i = nw + 1 := by omega
      subst e0
      exact ⟨_, M2, h10m, rfl, by omega, rfl, hfr, hgp, h10mg⟩
    · refine sx_aload_n d_M_work_156 rfl ?_
      refine sx_getR (r := some (58)) d_M_work_157 fl_M_29 (go rfl rfl rfl) (by decide) (by decide) (by decide) rfl ?_
      refine sx_bipush d_M_work_160 (by decide) ?_
      refine sx_iload d_M_work_162 rfl ?_
      refine sx_imul d_M_work_164 ?_
      refine sx_aload_n d_M_work_165 rfl ?_
      refine sx_getI (z := ((nw : Int) + 1)) d_M_work_166 fl_M_95 (go rfl rfl rfl) (by decide) (by decide) (by decide) ((hfr 51 2 (by decide)).trans hw51) ?_
      refine sx_iadd d_M_work_169 ?_
      refine sx_iconst d_M_work_170 ?_
      refine sx_isub d_M_work_171 ?_
      refine sx_iconst d_M_work_172 ?_
      refine sx_iast (h2 := gm (sx_u M2 58 (Int.toNat (((6 * (i : Int)) + ((nw : Int) + 1)) - 1)) (-1))) d_M_work_173 (go rfl rfl rfl) (by omega) (by omega) (by decide) rfl ?_
      refine sx_aload_n d_M_work_174 rfl ?_
      refine sx_getR (r := some (58)) d_M_work_175 fl_M_29 (go rfl rfl rfl) (by decide) (by decide) (by decide) rfl ?_
      refine sx_bipush d_M_work_178 (by decide) ?_
      refine sx_aload_n d_M_work_180 rfl ?_
      refine sx_getI (z := ((nw : Int) + 1)) d_M_work_181 fl_M_95 (go rfl rfl rfl) (by decide) (by decide) (by decide) ((hfr 51 2 (by decide)).trans hw51) ?_
      refine sx_iconst d_M_work_184 ?_
      refine sx_isub d_M_work_185 ?_
      refine sx_imul d_M_work_186 ?_
      refine sx_iload d_M_work_187 rfl ?_
      refine sx_iadd d_M_work_189 ?_
      refine sx_iconst d_M_work_190 ?_
      refine sx_iast (h2 := gm (sx_u (sx_u M2 58 (Int.toNat (((6 * (i : Int)) + ((nw : Int) + 1)) - 1)) (-1)) 58 (Int.toNat ((6 * (((nw : Int) + 1) - 1)) + (i : Int))) (-1))) d_M_work_191 (go rfl rfl rfl) (by omega) (by omega) (by decide) rfl ?_
      refine sx_iinc (l' := [some (sx_p 51), some (.inl y1), some (.inl y2), some (.inl y3), some (.inl y4), some (.inl y5), some (.inl ((i : Int) + 1))]) d_M_work_192 rfl (by decide) rfl rfl ?_
      refine sx_goto (tgt := 147) d_M_work_195 (by decide) ?_
      have e1 : ((i : Int) + 1) = ((i + 1 : Nat) : Int) := by omega
      have g1 : (Int.toNat (((6 * (i : Int)) + ((nw : Int) + 1)) - 1)) = 6 * i + nw := by omega
      have g2 : (Int.toNat ((6 * (((nw : Int) + 1) - 1)) + (i : Int))) = 6 * nw + i := by omega
      rw [e1, g1, g2]
      refine ih (i + 1) _ (by omega) (by omega) (fun a k h => by rw [sx_u_ne h, sx_u_ne h]; exact hfr a k h) ((hR2.u _ _ (by omega)).u _ _ (by omega)) (fun a b2 ha hb => ?_)
      have hg0 := hgp a b2 ha hb
      by_cases q1 : a = nw ∧ b2 = i
      · rw [q1.1, q1.2, sx_us, if_pos (by omega)]
      · rw [sx_uk (by omega)]
        by_cases q2 : a = i ∧ b2 = nw
        · rw [q2.1, q2.2, sx_us, if_pos (by omega)]
        · rw [sx_uk (by omega), hg0]
          by_cases q3 : (b2 = nw ∧ a < i) ∨ (a = nw ∧ b2 < i)
          · rw [if_pos q3, if_pos (by omega)]
          · rw [if_neg q3, if_neg (by omega)]
set_option maxRecDepth 100000 in
set_option maxHeartbeats 4000000 in
theorem m_work_ok {L : Nat} {xs : Nat → Int32} (M : Nat → Nat → Int) (nc nw nb : Nat) (hM : MR M nc nw nb) (M1 : Nat → Nat → Int) (M1s : sf M M1) (M1R : IR M1) (c : Nat) (f t s b : Int) (hb : b = 0 ∨ b = 1) (hg : c < nc ∧ 0 ≤ f ∧ f < t ∧ t ≤ 200 ∧ 1 ≤ s ∧ s ≤ 50 ∧ nw < 6) : sx_R y_M_work (1, 0, 0) L xs [sx_p 51, .inl (c : Int), .inl f, .inl t, .inl s, .inl b] (gm M1) (fun v h2 => ∃ v2 Mg M2, v = some (.inl v2) ∧ v2 = (nw : Int) ∧ h2 = gm M2 ∧ (∀ a k, a ≠ 58 → Mg a k = (sx_u (sx_u (sx_u (sx_u (sx_u (sx_u (sx_u (sx_u M1 53 nw (c : Int)) 54 nw f) 55 nw t) 56 nw s) 57 nw b) 59 nw 0) 60 nw 999) 51 2 ((nw : Int) + 1)) a k) ∧ (∀ a b2, a ≤ nw → b2 ≤ nw → Mg 58 (6 * a + b2) = (if (b2 = nw ∧ a < (nw + 1)) ∨ (a = nw ∧ b2 < (nw + 1)) then -1 else (sx_u (sx_u (sx_u (sx_u (sx_u (sx_u (sx_u (sx_u M1 53 nw (c : Int)) 54 nw f) 55 nw t) 56 nw s) 57 nw b) 59 nw 0) 60 nw 999) 51 2 ((nw : Int) + 1)) 58 (6 * a + b2))) ∧ chg Mg M2) := by
  have w6 := hM.w6
  have c4 := hM.c4
  have b8 := hM.b8
  have r33 : 0 ≤ M 3 3 ∧ M 3 3 ≤ 200 := by (have := hM.dy.2.2.2; have := dy_le (dr M) 200; omega)
  refine sx_enter rfl (Nat.le_of_ble_eq_true rfl) rfl ?_
  show sx_V y_M_work (1, 0, 0) L xs (0, 0) 0 [some (sx_p 51), some (.inl (c : Int)), some (.inl f), some (.inl t), some (.inl s), some (.inl b), none] [] (gm M1) _
  refine sx_iload_n d_M_work_0 rfl ?_
  refine sx_iconst d_M_work_1 ?_
  refine sx_aload_n d_M_work_2 rfl ?_
  refine sx_getI (z := (nc : Int)) d_M_work_3 fl_M_107 (go rfl rfl rfl) (by decide) (by decide) (by decide) ((M1s 51 0 (by decide) (by decide) (by omega)).trans hM.mcn) ?_
  refine sx_iconst d_M_work_6 ?_
  refine sx_isub d_M_work_7 ?_
  refine sx_callS (c_M_within M1 (c : Int) 0 ((nc : Int) - 1) (by omega) (by omega) (by omega)) d_M_work_8 cd_M_within lk_M_103 st_M_within (st := []) rfl rfl (Nat.le_of_ble_eq_true rfl) ⟨by decide, Nat.le_refl _, Nat.le_refl _⟩ (fun _ _ hq => ?_)
  obtain ⟨z122, rfl, z122b, z122i, rfl⟩ := hq
  show sx_V _ _ _ _ (0, 0) _ _ [.inl z122] (gm M1) _
  refine sx_if_eq (tgt := 58) d_M_work_11 (by decide) (by omega) (fun c11_18 => ?_) (fun c11_18 => ?_)
  · omega
  · refine sx_iload_n d_M_work_14 rfl ?_
    refine sx_iconst d_M_work_15 ?_
    refine sx_sipush d_M_work_16 (by decide) ?_
    refine sx_callS (c_M_within M1 f 0 199 (by omega) (by omega) (by omega)) d_M_work_19 cd_M_within lk_M_103 st_M_within (st := []) rfl rfl (Nat.le_of_ble_eq_true rfl) ⟨by decide, Nat.le_refl _, Nat.le_refl _⟩ (fun _ _ hq => ?_)
    obtain ⟨z123, rfl, z123b, z123i, rfl⟩ := hq
    show sx_V _ _ _ _ (0, 0) _ _ [.inl z123] (gm M1) _
    refine sx_if_eq (tgt := 58) d_M_work_22 (by decide) (by omega) (fun c22_26 => ?_) (fun c22_26 => ?_)
    · omega
    · refine sx_iload_n d_M_work_25 rfl ?_
      refine sx_iload_n d_M_work_26 rfl ?_
      refine sx_iconst d_M_work_27 ?_
      refine sx_iadd d_M_work_28 ?_
      refine sx_sipush d_M_work_29 (by decide) ?_
      refine sx_callS (c_M_within M1 t (f + 1) 200 (by omega) (by omega) (by omega)) d_M_work_32 cd_M_within lk_M_103 st_M_within (st := []) rfl rfl (Nat.le_of_ble_eq_true rfl) ⟨by decide, Nat.le_refl _, Nat.le_refl _⟩ (fun _ _ hq => ?_)
      obtain ⟨z124, rfl, z124b, z124i, rfl⟩ := hq
      show sx_V _ _ _ _ (0, 0) _ _ [.inl z124] (gm M1) _
      refine sx_if_eq (tgt := 58) d_M_work_35 (by decide) (by omega) (fun c35_36 => ?_) (fun c35_36 => ?_)
      · omega
      · refine sx_iload d_M_work_38 rfl ?_
        refine sx_iconst d_M_work_40 ?_
        refine sx_bipush d_M_work_41 (by decide) ?_
        refine sx_callS (c_M_within M1 s 1 50 (by omega) (by omega) (by omega)) d_M_work_43 cd_M_within lk_M_103 st_M_within (st := []) rfl rfl (Nat.le_of_ble_eq_true rfl) ⟨by decide, Nat.le_refl _, Nat.le_refl _⟩ (fun _ _ hq => ?_)
        obtain ⟨z125, rfl, z125b, z125i, rfl⟩ := hq
        show sx_V _ _ _ _ (0, 0) _ _ [.inl z125] (gm M1) _
        refine sx_if_eq (tgt := 58) d_M_work_46 (by decide) (by omega) (fun c46_44 => ?_) (fun c46_44 => ?_)
        · omega
        · refine sx_aload_n d_M_work_49 rfl ?_
          refine sx_getI (z := (nw : Int)) d_M_work_50 fl_M_95 (go rfl rfl rfl) (by decide) (by decide) (by decide) ((M1s 51 2 (by decide) (by decide) (by omega)).trans hM.mwn) ?_
          refine sx_bipush d_M_work_53 (by decide) ?_
          refine sx_icmp_ne (tgt := 60) d_M_work_55 (by decide) (by omega) ⟨by decide, by decide⟩ (fun c55_49 => ?_) (fun c55_49 => ?_)
          · refine sx_aload_n d_M_work_60 rfl ?_
            refine sx_getR (r := some (53)) d_M_work_61 fl_M_13 (go rfl rfl rfl) (by decide) (by decide) (by decide) rfl ?_
            refine sx_aload_n d_M_work_64 rfl ?_
            refine sx_getI (z := (nw : Int)) d_M_work_65 fl_M_95 (go rfl rfl rfl) (by decide) (by decide) (by decide) ((M1s 51 2 (by decide) (by decide) (by omega)).trans hM.mwn) ?_
            refine sx_iload_n d_M_work_68 rfl ?_
            refine sx_iast (h2 := gm (sx_u M1 53 nw (c : Int))) d_M_work_69 (go rfl rfl rfl) (by omega) (by omega) (by decide) rfl ?_
            refine sx_aload_n d_M_work_70 rfl ?_
            refine sx_getR (r := some (54)) d_M_work_71 fl_M_16 (go rfl rfl rfl) (by decide) (by decide) (by decide) rfl ?_
            refine sx_aload_n d_M_work_74 rfl ?_
            refine sx_getI (z := (nw : Int)) d_M_work_75 fl_M_95 (go rfl rfl rfl) (by decide) (by decide) (by decide) ((M1s 51 2 (by decide) (by decide) (by omega)).trans hM.mwn) ?_
            refine sx_iload_n d_M_work_78 rfl ?_
            refine sx_iast (h2 := gm (sx_u (sx_u M1 53 nw (c : Int)) 54 nw f)) d_M_work_79 (go rfl rfl rfl) (by omega) (by omega) (by decide) rfl ?_
            refine sx_aload_n d_M_work_80 rfl ?_
            refine sx_getR (r := some (55)) d_M_work_81 fl_M_19 (go rfl rfl rfl) (by decide) (by decide) (by decide) rfl ?_
            refine sx_aload_n d_M_work_84 rfl ?_
            refine sx_getI (z := (nw : Int)) d_M_work_85 fl_M_95 (go rfl rfl rfl) (by decide) (by decide) (by decide) ((M1s 51 2 (by decide) (by decide) (by omega)).trans hM.mwn) ?_
            refine sx_iload_n d_M_work_88 rfl ?_
            refine sx_iast (h2 := gm (sx_u (sx_u (sx_u M1 53 nw (c : Int)) 54 nw f) 55 nw t)) d_M_work_89 (go rfl rfl rfl) (by omega) (by omega) (by decide) rfl ?_
            refine sx_aload_n d_M_work_90 rfl ?_
            refine sx_getR (r := some (56)) d_M_work_91 fl_M_22 (go rfl rfl rfl) (by decide) (by decide) (by decide) rfl ?_
            refine sx_aload_n d_M_work_94 rfl ?_
            refine sx_getI (z := (nw : Int)) d_M_work_95 fl_M_95 (go rfl rfl rfl) (by decide) (by decide) (by decide) ((M1s 51 2 (by decide) (by decide) (by omega)).trans hM.mwn) ?_
            refine sx_iload d_M_work_98 rfl ?_
            refine sx_iast (h2 := gm (sx_u (sx_u (sx_u (sx_u M1 53 nw (c : Int)) 54 nw f) 55 nw t) 56 nw s)) d_M_work_100 (go rfl rfl rfl) (by omega) (by omega) (by decide) rfl ?_
            refine sx_aload_n d_M_work_101 rfl ?_
            refine sx_getR (r := some (57)) d_M_work_102 fl_M_25 (go rfl rfl rfl) (by decide) (by decide) (by decide) rfl ?_
            refine sx_aload_n d_M_work_105 rfl ?_
            refine sx_getI (z := (nw : Int)) d_M_work_106 fl_M_95 (go rfl rfl rfl) (by decide) (by decide) (by decide) ((M1s 51 2 (by decide) (by decide) (by omega)).trans hM.mwn) ?_
            refine sx_iload d_M_work_109 rfl ?_
            refine sx_zast (h2 := gm (sx_u (sx_u (sx_u (sx_u (sx_u M1 53 nw (c : Int)) 54 nw f) 55 nw t) 56 nw s) 57 nw b)) d_M_work_111 (go rfl rfl rfl) (by omega) (by omega) (by decide) hb rfl ?_
            refine sx_aload_n d_M_work_112 rfl ?_
            refine sx_getR (r := some (59)) d_M_work_113 fl_M_32 (go rfl rfl rfl) (by decide) (by decide) (by decide) rfl ?_
            refine sx_aload_n d_M_work_116 rfl ?_
            refine sx_getI (z := (nw : Int)) d_M_work_117 fl_M_95 (go rfl rfl rfl) (by decide) (by decide) (by decide) ((M1s 51 2 (by decide) (by decide) (by omega)).trans hM.mwn) ?_
            refine sx_iconst d_M_work_120 ?_
            refine sx_iast (h2 := gm (sx_u (sx_u (sx_u (sx_u (sx_u (sx_u M1 53 nw (c : Int)) 54 nw f) 55 nw t) 56 nw s) 57 nw b) 59 nw 0)) d_M_work_121 (go rfl rfl rfl) (by omega) (by omega) (by decide) rfl ?_
            refine sx_aload_n d_M_work_122 rfl ?_
            refine sx_getR (r := some (60)) d_M_work_123 fl_M_35 (go rfl rfl rfl) (by decide) (by decide) (by decide) rfl ?_
            refine sx_aload_n d_M_work_126 rfl ?_
            refine sx_getI (z := (nw : Int)) d_M_work_127 fl_M_95 (go rfl rfl rfl) (by decide) (by decide) (by decide) ((M1s 51 2 (by decide) (by decide) (by omega)).trans hM.mwn) ?_
            refine sx_sipush d_M_work_130 (by decide) ?_
            refine sx_iast (h2 := gm (sx_u (sx_u (sx_u (sx_u (sx_u (sx_u (sx_u M1 53 nw (c : Int)) 54 nw f) 55 nw t) 56 nw s) 57 nw b) 59 nw 0) 60 nw 999)) d_M_work_133 (go rfl rfl rfl) (by omega) (by omega) (by decide) rfl ?_
            refine sx_aload_n d_M_work_134 rfl ?_
            refine sx_dup rfl d_M_work_135 ?_
            refine sx_getI (z := (nw : Int)) d_M_work_136 fl_M_95 (go rfl rfl rfl) (by decide) (by decide) (by decide) ((M1s 51 2 (by decide) (by decide) (by omega)).trans hM.mwn) ?_
            refine sx_iconst d_M_work_139 ?_
            refine sx_iadd d_M_work_140 ?_
            refine sx_putI (h2 := gm (sx_u (sx_u (sx_u (sx_u (sx_u (sx_u (sx_u (sx_u M1 53 nw (c : Int)) 54 nw f) 55 nw t) 56 nw s) 57 nw b) 59 nw 0) 60 nw 999) 51 2 ((nw : Int) + 1))) d_M_work_141 fl_M_95 (go rfl rfl rfl) (by decide) (by decide) (by decide) (fun q hq => Or.inl (nf_M_2 q hq)) (Or.inl rfl) rfl ?_
            refine sx_iconst d_M_work_144 ?_
            refine sx_istore (l' := [some (sx_p 51), some (.inl (c : Int)), some (.inl f), some (.inl t), some (.inl s), some (.inl b), some (.inl 0)]) d_M_work_145 (by decide) rfl rfl ?_
            exact l_M_work nw (by omega) (sx_u (sx_u (sx_u (sx_u (sx_u (sx_u (sx_u (sx_u M1 53 nw (c : Int)) 54 nw f) 55 nw t) 56 nw s) 57 nw b) 59 nw 0) 60 nw 999) 51 2 ((nw : Int) + 1)) rfl _ _ _ _ _ 8 0 _ (by omega) (by omega) (fun _ _ _ => rfl) (((((((((M1R).u _ _ (by omega)).u _ _ (by omega)).u _ _ (by omega)).u _ _ (by omega)).u _ _ (by omega)).u _ _ (by omega)).u _ _ (by omega)).u _ _ (by omega)) (fun a b2 ha hb2 => by rw [if_neg (by omega)])
          · omega
set_option maxRecDepth 100000 in
set_option maxHeartbeats 4000000 in
theorem m_late_bad {L : Nat} {xs : Nat → Int32} (M : Nat → Nat → Int) (nc nw nb : Nat) (hM : MR M nc nw nb) (M1 : Nat → Nat → Int) (M1s : sf M M1) (M1R : IR M1) (w d : Int) (hw : sx_r w) (hd : sx_r d) (hbd : ¬ (M 1 7 ≠ 0 ∧ 0 ≤ w ∧ w < nw ∧ 0 ≤ d ∧ d ≤ 100)) : sx_R y_M_late (1, 0, 0) L xs [sx_p 51, .inl w, .inl d] (gm M1) (fun v h2 => v = some (.inl (0)) ∧ h2 = gm M1) := by
  have w6 := hM.w6
  have c4 := hM.c4
  have b8 := hM.b8
  have r33 : 0 ≤ M 3 3 ∧ M 3 3 ≤ 200 := by (have := hM.dy.2.2.2; have := dy_le (dr M) 200; omega)
  refine sx_enter rfl (Nat.le_of_ble_eq_true rfl) rfl ?_
  show sx_V y_M_late (1, 0, 0) L xs (0, 0) 0 [some (sx_p 51), some (.inl w), some (.inl d)] [] (gm M1) _
  refine sx_aload_n d_M_late_0 rfl ?_
  refine sx_getI (z := (M 1 7)) d_M_late_1 fl_M_99 (go rfl rfl rfl) (by decide) (by decide) (by decide) ((M1s 51 19 (by decide) (by decide) (by omega)).trans hM.mha) ?_
  refine sx_if_eq (tgt := 25) d_M_late_4 (by decide) (by first | omega | exact hM.ir _ _) (fun c4_11 => ?_) (fun c4_11 => ?_)
  · refine sx_iconst d_M_late_25 ?_
    refine sx_retI d_M_late_26 (Or.inr ⟨rfl, by first | exact Or.inl rfl | exact Or.inr rfl | omega⟩) ⟨Nat.zero_le _, Nat.zero_le _⟩ ?_
    exact ⟨rfl, rfl⟩
  · refine sx_aload_n d_M_late_7 rfl ?_
    refine sx_iload_n d_M_late_8 rfl ?_
    refine sx_callV (c_M_isWork M nc nw nb hM M1 M1s w (by omega)) d_M_late_9 cd_M_isWork lk_M_113 im_M_isWork se_M_isWork (go rfl rfl rfl) rfl rfl (by decide) (st := []) rfl rfl (Nat.le_of_ble_eq_true rfl) ⟨by decide, Nat.le_refl _, Nat.le_refl _⟩ (fun _ _ hq => ?_)
    obtain ⟨z126, rfl, z126b, z126i, rfl⟩ := hq
    show sx_V _ _ _ _ (0, 0) _ _ [.inl z126] (gm M1) _
    refine sx_if_eq (tgt := 25) d_M_late_12 (by decide) (by first | omega | exact hM.ir _ _) (fun c12_20 => ?_) (fun c12_20 => ?_)
    · refine sx_iconst d_M_late_25 ?_
      refine sx_retI d_M_late_26 (Or.inr ⟨rfl, by first | exact Or.inl rfl | exact Or.inr rfl | omega⟩) ⟨Nat.zero_le _, Nat.zero_le _⟩ ?_
      exact ⟨rfl, rfl⟩
    · refine sx_iload_n d_M_late_15 rfl ?_
      refine sx_iconst d_M_late_16 ?_
      refine sx_bipush d_M_late_17 (by decide) ?_
      refine sx_callS (c_M_within M1 d 0 100 (by omega) (by omega) (by omega)) d_M_late_19 cd_M_within lk_M_103 st_M_within (st := []) rfl rfl (Nat.le_of_ble_eq_true rfl) ⟨by decide, Nat.le_refl _, Nat.le_refl _⟩ (fun _ _ hq => ?_)
      obtain ⟨z127, rfl, z127b, z127i, rfl⟩ := hq
      show sx_V _ _ _ _ (0, 0) _ _ [.inl z127] (gm M1) _
      refine sx_if_ne (tgt := 27) d_M_late_22 (by decide) (by first | omega | exact hM.ir _ _) (fun c22_30 => ?_) (fun c22_30 => ?_)
      · omega
      · refine sx_iconst d_M_late_25 ?_
        refine sx_retI d_M_late_26 (Or.inr ⟨rfl, by first | exact Or.inl rfl | exact Or.inr rfl | omega⟩) ⟨Nat.zero_le _, Nat.zero_le _⟩ ?_
        exact ⟨rfl, rfl⟩
set_option maxRecDepth 100000 in
set_option maxHeartbeats 4000000 in
theorem m_late_ok {L : Nat} {xs : Nat → Int32} (M : Nat → Nat → Int) (nc nw nb : Nat) (hM : MR M nc nw nb) (M1 : Nat → Nat → Int) (M1s : sf M M1) (M1R : IR M1) (w : Nat) (d : Int) (hd : sx_r d) (hg : M 1 7 ≠ 0 ∧ w < nw ∧ 0 ≤ d ∧ d ≤ 100) : sx_R y_M_late (1, 0, 0) L xs [sx_p 51, .inl (w : Int), .inl d] (gm M1) (fun v h2 => v = some (.inl 1) ∧ h2 = gm (sx_u M1 70 w (M 23 w + d))) := by
  have w6 := hM.w6
  have c4 := hM.c4
  have b8 := hM.b8
  have r33 : 0 ≤ M 3 3 ∧ M 3 3 ≤ 200 := by (have := hM.dy.2.2.2; have := dy_le (dr M) 200; omega)
  refine sx_enter rfl (Nat.le_of_ble_eq_true rfl) rfl ?_
  show sx_V y_M_late (1, 0, 0) L xs (0, 0) 0 [some (sx_p 51), some (.inl (w : Int)), some (.inl d)] [] (gm M1) _
  refine sx_aload_n d_M_late_0 rfl ?_
  refine sx_getI (z := (M 1 7)) d_M_late_1 fl_M_99 (go rfl rfl rfl) (by decide) (by decide) (by decide) ((M1s 51 19 (by decide) (by decide) (by omega)).trans hM.mha) ?_
  refine sx_if_eq (tgt := 25) d_M_late_4 (by decide) (by first | omega | exact hM.ir _ _) (fun c4_11 => ?_) (fun c4_11 => ?_)
  · omega
  · refine sx_aload_n d_M_late_7 rfl ?_
    refine sx_iload_n d_M_late_8 rfl ?_
    refine sx_callV (c_M_isWork M nc nw nb hM M1 M1s (w : Int) (by omega)) d_M_late_9 cd_M_isWork lk_M_113 im_M_isWork se_M_isWork (go rfl rfl rfl) rfl rfl (by decide) (st := []) rfl rfl (Nat.le_of_ble_eq_true rfl) ⟨by decide, Nat.le_refl _, Nat.le_refl _⟩ (fun _ _ hq => ?_)
    obtain ⟨z128, rfl, z128b, z128i, rfl⟩ := hq
    show sx_V _ _ _ _ (0, 0) _ _ [.inl z128] (gm M1) _
    refine sx_if_eq (tgt := 25) d_M_late_12 (by decide) (by first | omega | exact hM.ir _ _) (fun c12_18 => ?_) (fun c12_18 => ?_)
    · omega
    · refine sx_iload_n d_M_late_15 rfl ?_
      refine sx_iconst d_M_late_16 ?_
      refine sx_bipush d_M_late_17 (by decide) ?_
      refine sx_callS (c_M_within M1 d 0 100 (by omega) (by omega) (by omega)) d_M_late_19 cd_M_within lk_M_103 st_M_within (st := []) rfl rfl (Nat.le_of_ble_eq_true rfl) ⟨by decide, Nat.le_refl _, Nat.le_refl _⟩ (fun _ _ hq => ?_)
      obtain ⟨z129, rfl, z129b, z129i, rfl⟩ := hq
      show sx_V _ _ _ _ (0, 0) _ _ [.inl z129] (gm M1) _
      refine sx_if_ne (tgt := 27) d_M_late_22 (by decide) (by first | omega | exact hM.ir _ _) (fun c22_26 => ?_) (fun c22_26 => ?_)
      · refine sx_aload_n d_M_late_27 rfl ?_
        refine sx_getR (r := some (70)) d_M_late_28 fl_M_65 (go rfl rfl rfl) (by decide) (by decide) (by decide) rfl ?_
        refine sx_iload_n d_M_late_31 rfl ?_
        refine sx_aload_n d_M_late_32 rfl ?_
        refine sx_getR (r := some (67)) d_M_late_33 fl_M_56 (go rfl rfl rfl) (by decide) (by decide) (by decide) rfl ?_
        refine sx_iload_n d_M_late_36 rfl ?_
        refine sx_iald (z := (M 23 w)) d_M_late_37 (go rfl rfl rfl) (by omega) (by omega) (by decide) ((M1s 67 w (by decide) (by decide) (by omega)).trans (hM.mst (by omega) w (by omega)).1) ?_
        refine sx_iload_n d_M_late_38 rfl ?_
        refine sx_iadd d_M_late_39 ?_
        refine sx_iast (h2 := gm (sx_u M1 70 w ((M 23 w) + d))) d_M_late_40 (go rfl rfl rfl) (by omega) (by omega) (by decide) rfl ?_
        refine sx_iconst d_M_late_41 ?_
        refine sx_retI d_M_late_42 (Or.inr ⟨rfl, by first | exact Or.inl rfl | exact Or.inr rfl | omega⟩) ⟨Nat.zero_le _, Nat.zero_le _⟩ ?_
        exact ⟨rfl, rfl⟩
      · omega
set_option maxRecDepth 100000 in
set_option maxHeartbeats 4000000 in
theorem m_freeze_bad {L : Nat} {xs : Nat → Int32} (M : Nat → Nat → Int) (nc nw nb : Nat) (hM : MR M nc nw nb) (M1 : Nat → Nat → Int) (M1s : sf M M1) (M1R : IR M1) (d : Int) (hd : sx_r d) (hbd : ¬ (M 1 7 ≠ 0 ∧ 0 ≤ d)) : sx_R y_M_freeze (1, 0, 0) L xs [sx_p 51, .inl d] (gm M1) (fun v h2 => v = some (.inl (-1)) ∧ h2 = gm M1) := by
  have w6 := hM.w6
  have c4 := hM.c4
  have b8 := hM.b8
  have r33 : 0 ≤ M 3 3 ∧ M 3 3 ≤ 200 := by (have := hM.dy.2.2.2; have := dy_le (dr M) 200; omega)
  refine sx_enter rfl (Nat.le_of_ble_eq_true rfl) rfl ?_
  show sx_V y_M_freeze (1, 0, 0) L xs (0, 0) 0 [some (sx_p 51), some (.inl d), none, none] [] (gm M1) _
  refine sx_aload_n d_M_freeze_0 rfl ?_
  refine sx_getI (z := (M 1 7)) d_M_freeze_1 fl_M_99 (go rfl rfl rfl) (by decide) (by decide) (by decide) ((M1s 51 19 (by decide) (by decide) (by omega)).trans hM.mha) ?_
  refine sx_if_eq (tgt := 11) d_M_freeze_4 (by decide) (by first | omega | exact hM.ir _ _) (fun c4_11 => ?_) (fun c4_11 => ?_)
  · refine sx_iconst d_M_freeze_11 ?_
    refine sx_retI d_M_freeze_12 (Or.inl rfl) ⟨Nat.zero_le _, Nat.zero_le _⟩ ?_
    exact ⟨rfl, rfl⟩
  · refine sx_iload_n d_M_freeze_7 rfl ?_
    refine sx_if_ge (tgt := 13) d_M_freeze_8 (by decide) (by first | omega | exact hM.ir _ _) (fun c8_16 => ?_) (fun c8_16 => ?_)
    · omega
    · refine sx_iconst d_M_freeze_11 ?_
      refine sx_retI d_M_freeze_12 (Or.inl rfl) ⟨Nat.zero_le _, Nat.zero_le _⟩ ?_
      exact ⟨rfl, rfl⟩
set_option maxRecDepth 100000 in
set_option maxHeartbeats 4000000 in
theorem l_M_frz {L : Nat} {xs : Nat → Int32} (M : Nat → Nat → Int) (nc nw nb : Nat) (hM : MR M nc nw nb) (M1 : Nat → Nat → Int) (M1s : sf M M1) (M1R : IR M1) (d : Int) (hd : sx_r d) (h7 : M 1 7 ≠ 0) : ∀ (n i : Nat) (M2 : Nat → Nat → Int), nw - i < n → i ≤ nw → (∀ a k, ¬ (a = 69 ∧ k < nw) → M2 a k = M1 a k) → (∀ w, w < i → M2 69 w = if M 23 w < d then 1 else 0) → IR M2 → sx_V y_M_freeze (1, 0, 0) L xs (0, 0) 17 [some (sx_p 51), some (.inl d), some (.inl (sm (fun j => if M 23 j < d then 1 else 0) i)), some (.inl (i : Int))] [] (gm M2) (fun v h2 => v = some (.inl (sm (fun j => if M 23 j < d then 1 else 0) nw)) ∧ ∃ M2, h2 = gm M2 ∧ (∀ a k, ¬ (a = 69 ∧ k < nw) → M2 a k = M1 a k) ∧ (∀ w, w < nw → M2 69 w = if M 23 w < d then 1 else 0) ∧ IR M2) := by
  have w6 := hM.w6
  have c4 := hM.c4
  have b8 := hM.b8
  have r33 : 0 ≤ M 3 3 ∧ M 3 3 ≤ 200 := by (have := hM.dy.2.2.2; have := dy_le (dr M) 200; omega)
  intro n
  induction n with
  | zero => intro i M2 h1 h2; omega
  | succ n ih =>
    intro i M2 hn hi hfr hz hR2
    refine sx_iload_n d_M_freeze_17 rfl ?_
    refine sx_aload_n d_M_freeze_18 rfl ?_
    refine sx_getI (z := (nw : Int)) d_M_freeze_19 fl_M_95 (go rfl rfl rfl) (by decide) (by decide) (by decide) ((hfr 51 2 (by omega)).trans ((M1s 51 2 (by decide) (by decide) (by omega)).trans hM.mwn)) ?_
    refine sx_icmp_ge (tgt := 69) d_M_freeze_22 (by decide) (by first | omega | exact hM.ir _ _) (by first | omega | exact hM.ir _ _) (fun c22_15 => ?_) (fun c22_15 => ?_)
    · refine sx_iload_n d_M_freeze_69 rfl ?_
      refine sx_retI d_M_freeze_70 (Or.inl rfl) ⟨Nat.zero_le _, Nat.zero_le _⟩ ?_
      have e0 : i = nw := by omega
      subst e0
      exact ⟨rfl, M2, rfl, hfr, hz, hR2⟩
    · refine sx_aload_n d_M_freeze_25 rfl ?_
      refine sx_getR (r := some (69)) d_M_freeze_26 fl_M_62 (go rfl rfl rfl) (by decide) (by decide) (by decide) rfl ?_
      refine sx_iload_n d_M_freeze_29 rfl ?_
      refine sx_aload_n d_M_freeze_30 rfl ?_
      refine sx_getR (r := some (67)) d_M_freeze_31 fl_M_56 (go rfl rfl rfl) (by decide) (by decide) (by decide) rfl ?_
      refine sx_iload_n d_M_freeze_34 rfl ?_
      refine sx_iald (z := (M 23 i)) d_M_freeze_35 (go rfl rfl rfl) (by omega) (by omega) (by decide) ((hfr 67 i (by omega)).trans ((M1s 67 i (by decide) (by decide) (by omega)).trans (hM.mst h7 i (by omega)).1)) ?_
      refine sx_iload_n d_M_freeze_36 rfl ?_
      refine sx_icmp_ge (tgt := 44) d_M_freeze_37 (by decide) (by first | omega | exact hM.ir _ _) (by first | omega | exact hM.ir _ _) (fun c37_29 => ?_) (fun c37_29 => ?_)
      · refine sx_iconst d_M_freeze_44 ?_
        refine sx_zast (h2 := gm (sx_u M2 69 i 0)) d_M_freeze_45 (go rfl rfl rfl) (by omega) (by omega) (by decide) (Or.inl rfl) rfl ?_
        refine sx_iload_n d_M_freeze_46 rfl ?_
        refine sx_aload_n d_M_freeze_47 rfl ?_
        refine sx_getR (r := some (69)) d_M_freeze_48 fl_M_62 (go rfl rfl rfl) (by decide) (by decide) (by decide) rfl ?_
        refine sx_iload_n d_M_freeze_51 rfl ?_
        refine sx_zald (z := 0) d_M_freeze_52 (go rfl rfl rfl) (by omega) (by omega) (by decide) sx_us ?_
        refine sx_if_eq (tgt := 60) d_M_freeze_53 (by decide) ⟨by decide, by decide⟩ (fun c53_37 => ?_) (fun c53_37 => ?_)
        · refine sx_iconst d_M_freeze_60 ?_
          refine sx_iadd d_M_freeze_61 ?_
          refine sx_istore_n (l' := [some (sx_p 51), some (.inl d), some (.inl ((sm (fun j => if M 23 j < d then 1 else 0) i) + 0)), some (.inl (i : Int))]) d_M_freeze_62 (by decide) rfl rfl ?_
          refine sx_iinc (l' := [some (sx_p 51), some (.inl d), some (.inl ((sm (fun j => if M 23 j < d then 1 else 0) i) + 0)), some (.inl ((i : Int) + 1))]) d_M_freeze_63 rfl (by decide) rfl rfl ?_
          refine sx_goto (tgt := 17) d_M_freeze_66 (by decide) ?_
          have e1 : ((i : Int) + 1) = ((i + 1 : Nat) : Int) := by omega
          rw [e1]
          have e2 : ((sm (fun j => if M 23 j < d then 1 else 0) i) + 0) = sm (fun j => if M 23 j < d then 1 else 0) (i + 1) := by (simp only [sm]; first | rw [if_pos (by omega)] | rw [if_neg (by omega)])
          rw [e2]
          refine ih (i + 1) _ (by omega) (by omega) (fun a k h => by (unfold sx_u; rw [if_neg (by omega)]; exact hfr a k h)) (fun j hj => ?_) (hR2.u _ _ (by omega))
          by_cases q : j = i
          · subst q; rw [sx_us]; first | rw [if_pos (by omega)] | rw [if_neg (by omega)]
          · rw [sx_uk q]; exact hz j (by omega)
        · omega
      · refine sx_iconst d_M_freeze_40 ?_
        refine sx_goto (tgt := 45) d_M_freeze_41 (by decide) ?_
        refine sx_zast (h2 := gm (sx_u M2 69 i 1)) d_M_freeze_45 (go rfl rfl rfl) (by omega) (by omega) (by decide) (Or.inr rfl) rfl ?_
        refine sx_iload_n d_M_freeze_46 rfl ?_
        refine sx_aload_n d_M_freeze_47 rfl ?_
        refine sx_getR (r := some (69)) d_M_freeze_48 fl_M_62 (go rfl rfl rfl) (by decide) (by decide) (by decide) rfl ?_
        refine sx_iload_n d_M_freeze_51 rfl ?_
        refine sx_zald (z := 1) d_M_freeze_52 (go rfl rfl rfl) (by omega) (by omega) (by decide) sx_us ?_
        refine sx_if_eq (tgt := 60) d_M_freeze_53 (by decide) ⟨by decide, by decide⟩ (fun c53_60 => ?_) (fun c53_60 => ?_)
        · omega
        · refine sx_iconst d_M_freeze_56 ?_
          refine sx_goto (tgt := 61) d_M_freeze_57 (by decide) ?_
          refine sx_iadd d_M_freeze_61 ?_
          refine sx_istore_n (l' := [some (sx_p 51), some (.inl d), some (.inl ((sm (fun j => if M 23 j < d then 1 else 0) i) + 1)), some (.inl (i : Int))]) d_M_freeze_62 (by decide) rfl rfl ?_
          refine sx_iinc (l' := [some (sx_p 51), some (.inl d), some (.inl ((sm (fun j => if M 23 j < d then 1 else 0) i) + 1)), some (.inl ((i : Int) + 1))]) d_M_freeze_63 rfl (by decide) rfl rfl ?_
          refine sx_goto (tgt := 17) d_M_freeze_66 (by decide) ?_
          have e1 : ((i : Int) + 1) = ((i + 1 : Nat) : Int) := by omega
          rw [e1]
          have e2 : ((sm (fun j => if M 23 j < d then 1 else 0) i) + 1) = sm (fun j => if M 23 j < d then 1 else 0) (i + 1) := by (simp only [sm]; first | rw [if_pos (by omega)] | rw [if_neg (by omega)])
          rw [e2]
          refine ih (i + 1) _ (by omega) (by omega) (fun a k h => by (unfold sx_u; rw [if_neg (by omega)]; exact hfr a k h)) (fun j hj => ?_) (hR2.u _ _ (by omega))
          by_cases q : j = i
          · subst q; rw [sx_us]; first | rw [if_pos (by omega)] | rw [if_neg (by omega)]
          · rw [sx_uk q]; exact hz j (by omega)
set_option maxRecDepth 100000 in
set_option maxHeartbeats 4000000 in
theorem m_freeze_ok {L : Nat} {xs : Nat → Int32} (M : Nat → Nat → Int) (nc nw nb : Nat) (hM : MR M nc nw nb) (M1 : Nat → Nat → Int) (M1s : sf M M1) (M1R : IR M1) (d : Int) (hd : sx_r d) (h7 : M 1 7 ≠ 0) (h0 : 0 ≤ d) : sx_R y_M_freeze (1, 0, 0) L xs [sx_p 51, .inl d] (gm M1) (fun v h2 => v = some (.inl (sm (fun j => if M 23 j < d then 1 else 0) nw)) ∧ ∃ M2, h2 = gm M2 ∧ (∀ a k, ¬ (a = 69 ∧ k < nw) → M2 a k = M1 a k) ∧ (∀ w, w < nw → M2 69 w = if M 23 w < d then 1 else 0) ∧ IR M2) := by
  have w6 := hM.w6
  have c4 := hM.c4
  have b8 := hM.b8
  have r33 : 0 ≤ M 3 3 ∧ M 3 3 ≤ 200 := by (have := hM.dy.2.2.2; have := dy_le (dr M) 200; omega)
  refine sx_enter rfl (Nat.le_of_ble_eq_true rfl) rfl ?_
  show sx_V y_M_freeze (1, 0, 0) L xs (0, 0) 0 [some (sx_p 51), some (.inl d), none, none] [] (gm M1) _
  refine sx_aload_n d_M_freeze_0 rfl ?_
  refine sx_getI (z := (M 1 7)) d_M_freeze_1 fl_M_99 (go rfl rfl rfl) (by decide) (by decide) (by decide) ((M1s 51 19 (by decide) (by decide) (by omega)).trans hM.mha) ?_
  refine sx_if_eq (tgt := 11) d_M_freeze_4 (by decide) (by first | omega | exact hM.ir _ _) (fun c4_11 => ?_) (fun c4_11 => ?_)
  · omega
  · refine sx_iload_n d_M_freeze_7 rfl ?_
    refine sx_if_ge (tgt := 13) d_M_freeze_8 (by decide) (by first | omega | exact hM.ir _ _) (fun c8_14 => ?_) (fun c8_14 => ?_)
    · refine sx_iconst d_M_freeze_13 ?_
      refine sx_istore_n (l' := [some (sx_p 51), some (.inl d), some (.inl 0), none]) d_M_freeze_14 (by decide) rfl rfl ?_
      refine sx_iconst d_M_freeze_15 ?_
      refine sx_istore_n (l' := [some (sx_p 51), some (.inl d), some (.inl 0), some (.inl 0)]) d_M_freeze_16 (by decide) rfl rfl ?_
      exact l_M_frz M nc nw nb hM M1 M1s M1R d hd h7 (nw + 1) 0 M1 (by omega) (by omega) (fun _ _ _ => rfl) (fun _ h => absurd h (Nat.not_lt_zero _)) M1R
    · omega
set_option maxRecDepth 100000 in
set_option maxHeartbeats 4000000 in
theorem m_proved {L : Nat} {xs : Nat → Int32} (M : Nat → Nat → Int) (h01 : M 51 25 = 0 ∨ M 51 25 = 1) : sx_R y_M_proved (0, 0, 0) L xs [sx_p 51] (gm M) (fun v h2 => v = some (.inl (M 51 25)) ∧ h2 = gm M) := by
  refine sx_enter rfl (Nat.le_of_ble_eq_true rfl) rfl ?_
  show sx_V y_M_proved (0, 0, 0) L xs (0, 0) 0 [some (sx_p 51)] [] (gm M) _
  refine sx_aload_n d_M_proved_0 rfl ?_
  refine sx_getI (z := (M 51 25)) d_M_proved_1 fl_M_180 (go rfl rfl rfl) (by decide) (by decide) (by decide) rfl ?_
  refine sx_retI d_M_proved_4 (Or.inr ⟨rfl, h01⟩) ⟨Nat.zero_le _, Nat.zero_le _⟩ ?_
  exact ⟨rfl, rfl⟩
set_option maxRecDepth 100000 in
set_option maxHeartbeats 4000000 in
theorem m_tried {L : Nat} {xs : Nat → Int32} (M : Nat → Nat → Int) : sx_R y_M_tried (0, 0, 0) L xs [sx_p 51] (gm M) (fun v h2 => v = some (.inl (M 51 26)) ∧ h2 = gm M) := by
  refine sx_enter rfl (Nat.le_of_ble_eq_true rfl) rfl ?_
  show sx_V y_M_tried (0, 0, 0) L xs (0, 0) 0 [some (sx_p 51)] [] (gm M) _
  refine sx_aload_n d_M_tried_0 rfl ?_
  refine sx_getI (z := (M 51 26)) d_M_tried_1 fl_M_170 (go rfl rfl rfl) (by decide) (by decide) (by decide) rfl ?_
  refine sx_retI d_M_tried_4 (Or.inl rfl) ⟨Nat.zero_le _, Nat.zero_le _⟩ ?_
  exact ⟨rfl, rfl⟩
set_option maxRecDepth 100000 in
set_option maxHeartbeats 4000000 in
theorem m_moved_bad {L : Nat} {xs : Nat → Int32} (M : Nat → Nat → Int) (nc nw nb : Nat) (hM : MR M nc nw nb) (M1 : Nat → Nat → Int) (M1s : sf M M1) (M1R : IR M1) (w : Int) (hw : sx_r w) (hbd : ¬ (M 1 7 ≠ 0 ∧ 0 ≤ w ∧ w < nw)) : sx_R y_M_moved (1, 0, 0) L xs [sx_p 51, .inl w] (gm M1) (fun v h2 => v = some (.inl 0) ∧ h2 = gm M1) := by
  have w6 := hM.w6
  have c4 := hM.c4
  have b8 := hM.b8
  have r33 : 0 ≤ M 3 3 ∧ M 3 3 ≤ 200 := by (have := hM.dy.2.2.2; have := dy_le (dr M) 200; omega)
  refine sx_enter rfl (Nat.le_of_ble_eq_true rfl) rfl ?_
  show sx_V y_M_moved (1, 0, 0) L xs (0, 0) 0 [some (sx_p 51), some (.inl w)] [] (gm M1) _
  refine sx_aload_n d_M_moved_0 rfl ?_
  refine sx_getI (z := (M 1 7)) d_M_moved_1 fl_M_99 (go rfl rfl rfl) (by decide) (by decide) (by decide) ((M1s 51 19 (by decide) (by decide) (by omega)).trans hM.mha) ?_
  refine sx_if_eq (tgt := 28) d_M_moved_4 (by decide) (by first | omega | exact hM.ir _ _) (fun c4_11 => ?_) (fun c4_11 => ?_)
  · refine sx_iconst d_M_moved_28 ?_
    refine sx_retI d_M_moved_29 (Or.inr ⟨rfl, by first | exact Or.inl rfl | exact Or.inr rfl | omega⟩) ⟨Nat.zero_le _, Nat.zero_le _⟩ ?_
    exact ⟨rfl, rfl⟩
  · refine sx_aload_n d_M_moved_7 rfl ?_
    refine sx_iload_n d_M_moved_8 rfl ?_
    refine sx_callV (c_M_isWork M nc nw nb hM M1 M1s w (by omega)) d_M_moved_9 cd_M_isWork lk_M_113 im_M_isWork se_M_isWork (go rfl rfl rfl) rfl rfl (by decide) (st := []) rfl rfl (Nat.le_of_ble_eq_true rfl) ⟨by decide, Nat.le_refl _, Nat.le_refl _⟩ (fun _ _ hq => ?_)
    obtain ⟨z130, rfl, z130b, z130i, rfl⟩ := hq
    show sx_V _ _ _ _ (0, 0) _ _ [.inl z130] (gm M1) _
    refine sx_if_eq (tgt := 28) d_M_moved_12 (by decide) (by first | omega | exact hM.ir _ _) (fun c12_20 => ?_) (fun c12_20 => ?_)
    · refine sx_iconst d_M_moved_28 ?_
      refine sx_retI d_M_moved_29 (Or.inr ⟨rfl, by first | exact Or.inl rfl | exact Or.inr rfl | omega⟩) ⟨Nat.zero_le _, Nat.zero_le _⟩ ?_
      exact ⟨rfl, rfl⟩
    · omega
set_option maxRecDepth 100000 in
set_option maxHeartbeats 4000000 in
theorem m_moved_ok {L : Nat} {xs : Nat → Int32} (M : Nat → Nat → Int) (nc nw nb : Nat) (hM : MR M nc nw nb) (M1 : Nat → Nat → Int) (M1s : sf M M1) (M1R : IR M1) (w : Nat) (hw : w < nw) (h7 : M 1 7 ≠ 0) : sx_R y_M_moved (1, 0, 0) L xs [sx_p 51, .inl (w : Int)] (gm M1) (fun v h2 => v = some (.inl (if M 50 w = 0 then 0 else 1)) ∧ h2 = gm M1) := by
  have w6 := hM.w6
  have c4 := hM.c4
  have b8 := hM.b8
  have r33 : 0 ≤ M 3 3 ∧ M 3 3 ≤ 200 := by (have := hM.dy.2.2.2; have := dy_le (dr M) 200; omega)
  refine sx_enter rfl (Nat.le_of_ble_eq_true rfl) rfl ?_
  show sx_V y_M_moved (1, 0, 0) L xs (0, 0) 0 [some (sx_p 51), some (.inl (w : Int))] [] (gm M1) _
  refine sx_aload_n d_M_moved_0 rfl ?_
  refine sx_getI (z := (M 1 7)) d_M_moved_1 fl_M_99 (go rfl rfl rfl) (by decide) (by decide) (by decide) ((M1s 51 19 (by decide) (by decide) (by omega)).trans hM.mha) ?_
  refine sx_if_eq (tgt := 28) d_M_moved_4 (by decide) (by first | omega | exact hM.ir _ _) (fun c4_11 => ?_) (fun c4_11 => ?_)
  · omega
  · refine sx_aload_n d_M_moved_7 rfl ?_
    refine sx_iload_n d_M_moved_8 rfl ?_
    refine sx_callV (c_M_isWork M nc nw nb hM M1 M1s (w : Int) (by omega)) d_M_moved_9 cd_M_isWork lk_M_113 im_M_isWork se_M_isWork (go rfl rfl rfl) rfl rfl (by decide) (st := []) rfl rfl (Nat.le_of_ble_eq_true rfl) ⟨by decide, Nat.le_refl _, Nat.le_refl _⟩ (fun _ _ hq => ?_)
    obtain ⟨z131, rfl, z131b, z131i, rfl⟩ := hq
    show sx_V _ _ _ _ (0, 0) _ _ [.inl z131] (gm M1) _
    refine sx_if_eq (tgt := 28) d_M_moved_12 (by decide) (by first | omega | exact hM.ir _ _) (fun c12_18 => ?_) (fun c12_18 => ?_)
    · omega
    · refine sx_aload_n d_M_moved_15 rfl ?_
      refine sx_getR (r := some (71)) d_M_moved_16 fl_M_68 (go rfl rfl rfl) (by decide) (by decide) (by decide) rfl ?_
      refine sx_iload_n d_M_moved_19 rfl ?_
      refine sx_zald (z := (M 50 w)) d_M_moved_20 (go rfl rfl rfl) (by omega) (by omega) (by decide) ((M1s 71 w (by decide) (by decide) (by omega)).trans (hM.mmv h7 w hw).1) ?_
      refine sx_if_eq (tgt := 28) d_M_moved_21 (by decide) (by first | omega | exact hM.ir _ _) (fun c21_24 => ?_) (fun c21_24 => ?_)
      · refine sx_iconst d_M_moved_28 ?_
        refine sx_retI d_M_moved_29 (Or.inr ⟨rfl, by first | exact Or.inl rfl | exact Or.inr rfl | omega⟩) ⟨Nat.zero_le _, Nat.zero_le _⟩ ?_
        refine ⟨?_, rfl⟩
        (repeat' first | rw [if_pos (by omega)] | rw [if_neg (by omega)])
        all_goals rfl
      · refine sx_iconst d_M_moved_24 ?_
        refine sx_goto (tgt := 29) d_M_moved_25 (by decide) ?_
        refine sx_retI d_M_moved_29 (Or.inr ⟨rfl, by first | exact Or.inl rfl | exact Or.inr rfl | omega⟩) ⟨Nat.zero_le _, Nat.zero_le _⟩ ?_
        refine ⟨?_, rfl⟩
        (repeat' first | rw [if_pos (by omega)] | rw [if_neg (by omega)])
        all_goals rfl
/-- what taking the best over leaves -/
def tkm (nw : Nat) (ag : Int) (M1 M2 : Nat → Nat → Int) : Prop := (∀ a k, a ≠ 67 → a ≠ 68 → a ≠ 71 → M2 a k = sx_u M1 51 19 1 a k) ∧ (∀ w, w < nw → M2 71 w = if ag ≠ 0 ∧ ¬ (M1 78 w = M1 67 w ∧ M1 79 w = M1 68 w) then 1 else 0) ∧ (∀ w, w < nw → M2 67 w = M1 78 w ∧ M2 68 w = M1 79 w) ∧ IR M2
set_option maxRecDepth 100000 in
set_option maxHeartbeats 4000000 in
theorem l_M_tk2 {L : Nat} {xs : Nat → Int32} (M1 : Nat → Nat → Int) (M1R : IR M1) (nw : Nat) (h6 : nw ≤ 6) (hw1 : M1 51 2 = (nw : Int)) (ag : Int) (hag : ag = 0 ∨ ag = 1) : ∀ (n i : Nat) (M2 : Nat → Nat → Int), nw - i < n → i ≤ nw → (∀ a k, a ≠ 67 → a ≠ 68 → a ≠ 71 → M2 a k = M1 a k) → (∀ w, w < nw → M2 71 w = if ag ≠ 0 ∧ ¬ (M1 78 w = M1 67 w ∧ M1 79 w = M1 68 w) then 1 else 0) → (∀ w, w < i → M2 67 w = M1 78 w ∧ M2 68 w = M1 79 w) → IR M2 → sx_V y_M_take (0, 0, 0) L xs (0, 0) 63 [some (sx_p 51), some (.inl ag), some (.inl (i : Int))] [] (gm M2) (fun v h2 => v = none ∧ ∃ M3, h2 = gm M3 ∧ tkm nw ag M1 M3) := by
  intro n
  induction n with
  | zero => intro i M2 h1 h2; omega
  | succ n ih =>
    intro i M2 hn hi hfr hmv hcp hR2
    refine sx_iload_n d_M_take_63 rfl ?_
    refine sx_aload_n d_M_take_64 rfl ?_
    refine sx_getI (z := (nw : Int)) d_M_take_65 fl_M_95 (go rfl rfl rfl) (by decide) (by decide) (by decide) ((hfr 51 2 (by decide) (by decide) (by decide)).trans hw1) ?_
    refine sx_icmp_ge (tgt := 101) d_M_take_68 (by decide) (by omega) (by omega) (fun c68_11 => ?_) (fun c68_11 => ?_)
    · refine sx_aload_n d_M_take_101 rfl ?_
      refine sx_iconst d_M_take_102 ?_
      refine sx_putI (h2 := gm (sx_u M2 51 19 1)) d_M_take_103 fl_M_99 (go rfl rfl rfl) (by decide) (by decide) (by decide) (fun q hq => Or.inl (nf_M_19 q hq)) (Or.inr ⟨rfl, (Or.inr rfl)⟩) rfl ?_
      refine sx_retV d_M_take_106 rfl ⟨Nat.zero_le _, Nat.zero_le _⟩ ?_
      have e0 : i = nw := by omega
      subst e0
      exact ⟨rfl, _, rfl, fun a k h1 h2 h3 => by (unfold sx_u; by_cases q : a = 51 ∧ k = 19; (rw [if_pos q, if_pos q]); (rw [if_neg q, if_neg q]; exact hfr a k h1 h2 h3)), hmv, hcp, hR2.u _ _ (by omega)⟩
    · refine sx_aload_n d_M_take_71 rfl ?_
      refine sx_getR (r := some (67)) d_M_take_72 fl_M_56 (go rfl rfl rfl) (by decide) (by decide) (by decide) rfl ?_
      refine sx_iload_n d_M_take_75 rfl ?_
      refine sx_aload_n d_M_take_76 rfl ?_
      refine sx_getR (r := some (78)) d_M_take_77 fl_M_89 (go rfl rfl rfl) (by decide) (by decide) (by decide) rfl ?_
      refine sx_iload_n d_M_take_80 rfl ?_
      refine sx_iald (z := (M1 78 i)) d_M_take_81 (go rfl rfl rfl) (by omega) (by omega) (by decide) (hfr 78 i (by decide) (by decide) (by decide)) ?_
      refine sx_iast (h2 := gm (sx_u M2 67 i (M1 78 i))) d_M_take_82 (go rfl rfl rfl) (by omega) (by omega) (by decide) rfl ?_
      refine sx_aload_n d_M_take_83 rfl ?_
      refine sx_getR (r := some (68)) d_M_take_84 fl_M_59 (go rfl rfl rfl) (by decide) (by decide) (by decide) rfl ?_
      refine sx_iload_n d_M_take_87 rfl ?_
      refine sx_aload_n d_M_take_88 rfl ?_
      refine sx_getR (r := some (79)) d_M_take_89 fl_M_92 (go rfl rfl rfl) (by decide) (by decide) (by decide) rfl ?_
      refine sx_iload_n d_M_take_92 rfl ?_
      refine sx_iald (z := (M1 79 i)) d_M_take_93 (go rfl rfl rfl) (by omega) (by omega) (by decide) (hfr 79 i (by decide) (by decide) (by decide)) ?_
      refine sx_iast (h2 := gm (sx_u (sx_u M2 67 i (M1 78 i)) 68 i (M1 79 i))) d_M_take_94 (go rfl rfl rfl) (by omega) (by omega) (by decide) rfl ?_
      refine sx_iinc (l' := [some (sx_p 51), some (.inl ag), some (.inl ((i : Int) + 1))]) d_M_take_95 rfl (by decide) rfl rfl ?_
      refine sx_goto (tgt := 63) d_M_take_98 (by decide) ?_
      have e1 : ((i : Int) + 1) = ((i + 1 : Nat) : Int) := by omega
      rw [e1]
      refine ih (i + 1) _ (by omega) (by omega) (fun a k h1 h2 h3 => by rw [sx_u_ne h2, sx_u_ne h1]; exact hfr a k h1 h2 h3) (fun w hw => by rw [sx_u_ne (by decide), sx_u_ne (by decide)]; exact hmv w hw) (fun j hj => ?_) ((hR2.u _ _ (M1R _ _)).u _ _ (M1R _ _))
      by_cases q : j = i
      · subst q; exact ⟨by rw [sx_u_ne (by decide), sx_us], by rw [sx_us]⟩
      · rw [sx_uk q, sx_uk q, sx_uk q, sx_uk q]; exact hcp j (by omega)
set_option maxRecDepth 100000 in
set_option maxHeartbeats 4000000 in
theorem l_M_tk1 {L : Nat} {xs : Nat → Int32} (M1 : Nat → Nat → Int) (M1R : IR M1) (nw : Nat) (h6 : nw ≤ 6) (hw1 : M1 51 2 = (nw : Int)) (ag : Int) (hag : ag = 0 ∨ ag = 1) : ∀ (n i : Nat) (M2 : Nat → Nat → Int), nw - i < n → i ≤ nw → (∀ a k, a ≠ 71 → M2 a k = M1 a k) → (∀ w, w < i → M2 71 w = if ag ≠ 0 ∧ ¬ (M1 78 w = M1 67 w ∧ M1 79 w = M1 68 w) then 1 else 0) → IR M2 → sx_V y_M_take (0, 0, 0) L xs (0, 0) 2 [some (sx_p 51), some (.inl ag), some (.inl (i : Int))] [] (gm M2) (fun v h2 => v = none ∧ ∃ M3, h2 = gm M3 ∧ tkm nw ag M1 M3) := by
  intro n
  induction n with
  | zero => intro i M2 h1 h2; omega
  | succ n ih =>
    intro i M2 hn hi hfr hmv hR2
    refine sx_iload_n d_M_take_2 rfl ?_
    refine sx_aload_n d_M_take_3 rfl ?_
    refine sx_getI (z := (nw : Int)) d_M_take_4 fl_M_95 (go rfl rfl rfl) (by decide) (by decide) (by decide) ((hfr 51 2 (by decide)).trans hw1) ?_
    refine sx_icmp_ge (tgt := 61) d_M_take_7 (by decide) (by omega) (by omega) (fun c7_11 => ?_) (fun c7_11 => ?_)
    · refine sx_iconst d_M_take_61 ?_
      refine sx_istore_n (l' := [some (sx_p 51), some (.inl ag), some (.inl 0)]) d_M_take_62 (by decide) rfl rfl ?_
      have e0 : i = nw := by omega
      subst e0
      exact l_M_tk2 M1 M1R i h6 hw1 ag hag (i + 1) 0 M2 (by omega) (by omega) (fun a k _ _ h => hfr a k h) hmv (fun _ h => absurd h (Nat.not_lt_zero _)) hR2
    · refine sx_aload_n d_M_take_10 rfl ?_
      refine sx_getR (r := some (71)) d_M_take_11 fl_M_68 (go rfl rfl rfl) (by decide) (by decide) (by decide) rfl ?_
      refine sx_iload_n d_M_take_14 rfl ?_
      refine sx_iload_n d_M_take_15 rfl ?_
      refine sx_if_eq (tgt := 53) d_M_take_16 (by decide) (by omega) (fun c16_21 => ?_) (fun c16_21 => ?_)
      · refine sx_iconst d_M_take_53 ?_
        refine sx_zast (h2 := gm (sx_u M2 71 i 0)) d_M_take_54 (go rfl rfl rfl) (by omega) (by omega) (by decide) (Or.inl rfl) rfl ?_
        refine sx_iinc (l' := [some (sx_p 51), some (.inl ag), some (.inl ((i : Int) + 1))]) d_M_take_55 rfl (by decide) rfl rfl ?_
        refine sx_goto (tgt := 2) d_M_take_58 (by decide) ?_
        have e1 : ((i : Int) + 1) = ((i + 1 : Nat) : Int) := by omega
        rw [e1]
        refine ih (i + 1) _ (by omega) (by omega) (fun a k h => by rw [sx_u_ne h]; exact hfr a k h) (fun j hj => ?_) (hR2.u _ _ (by omega))
        by_cases q : j = i
        · subst q; rw [sx_us]; first | rw [if_pos ⟨by omega, fun k => by omega⟩] | rw [if_neg (fun k => by omega)]
        · rw [sx_uk q]; exact hmv j (by omega)
      · refine sx_aload_n d_M_take_19 rfl ?_
        refine sx_getR (r := some (78)) d_M_take_20 fl_M_89 (go rfl rfl rfl) (by decide) (by decide) (by decide) rfl ?_
        refine sx_iload_n d_M_take_23 rfl ?_
        refine sx_iald (z := (M1 78 i)) d_M_take_24 (go rfl rfl rfl) (by omega) (by omega) (by decide) (hfr 78 i (by decide)) ?_
        refine sx_aload_n d_M_take_25 rfl ?_
        refine sx_getR (r := some (67)) d_M_take_26 fl_M_56 (go rfl rfl rfl) (by decide) (by decide) (by decide) rfl ?_
        refine sx_iload_n d_M_take_29 rfl ?_
        refine sx_iald (z := (M1 67 i)) d_M_take_30 (go rfl rfl rfl) (by omega) (by omega) (by decide) (hfr 67 i (by decide)) ?_
        refine sx_icmp_ne (tgt := 49) d_M_take_31 (by decide) (M1R _ _) (M1R _ _) (fun c31_40 => ?_) (fun c31_40 => ?_)
        · refine sx_iconst d_M_take_49 ?_
          refine sx_goto (tgt := 54) d_M_take_50 (by decide) ?_
          refine sx_zast (h2 := gm (sx_u M2 71 i 1)) d_M_take_54 (go rfl rfl rfl) (by omega) (by omega) (by decide) (Or.inr rfl) rfl ?_
          refine sx_iinc (l' := [some (sx_p 51), some (.inl ag), some (.inl ((i : Int) + 1))]) d_M_take_55 rfl (by decide) rfl rfl ?_
          refine sx_goto (tgt := 2) d_M_take_58 (by decide) ?_
          have e1 : ((i : Int) + 1) = ((i + 1 : Nat) : Int) := by omega
          rw [e1]
          refine ih (i + 1) _ (by omega) (by omega) (fun a k h => by rw [sx_u_ne h]; exact hfr a k h) (fun j hj => ?_) (hR2.u _ _ (by omega))
          by_cases q : j = i
          · subst q; rw [sx_us]; first | rw [if_pos ⟨by omega, fun k => by omega⟩] | rw [if_neg (fun k => by omega)]
          · rw [sx_uk q]; exact hmv j (by omega)
        · refine sx_aload_n d_M_take_34 rfl ?_
          refine sx_getR (r := some (79)) d_M_take_35 fl_M_92 (go rfl rfl rfl) (by decide) (by decide) (by decide) rfl ?_
          refine sx_iload_n d_M_take_38 rfl ?_
          refine sx_iald (z := (M1 79 i)) d_M_take_39 (go rfl rfl rfl) (by omega) (by omega) (by decide) (hfr 79 i (by decide)) ?_
          refine sx_aload_n d_M_take_40 rfl ?_
          refine sx_getR (r := some (68)) d_M_take_41 fl_M_59 (go rfl rfl rfl) (by decide) (by decide) (by decide) rfl ?_
          refine sx_iload_n d_M_take_44 rfl ?_
          refine sx_iald (z := (M1 68 i)) d_M_take_45 (go rfl rfl rfl) (by omega) (by omega) (by decide) (hfr 68 i (by decide)) ?_
          refine sx_icmp_eq (tgt := 53) d_M_take_46 (by decide) (M1R _ _) (M1R _ _) (fun c46_60 => ?_) (fun c46_60 => ?_)
          · refine sx_iconst d_M_take_53 ?_
            refine sx_zast (h2 := gm (sx_u M2 71 i 0)) d_M_take_54 (go rfl rfl rfl) (by omega) (by omega) (by decide) (Or.inl rfl) rfl ?_
            refine sx_iinc (l' := [some (sx_p 51), some (.inl ag), some (.inl ((i : Int) + 1))]) d_M_take_55 rfl (by decide) rfl rfl ?_
            refine sx_goto (tgt := 2) d_M_take_58 (by decide) ?_
            have e1 : ((i : Int) + 1) = ((i + 1 : Nat) : Int) := by omega
            rw [e1]
            refine ih (i + 1) _ (by omega) (by omega) (fun a k h => by rw [sx_u_ne h]; exact hfr a k h) (fun j hj => ?_) (hR2.u _ _ (by omega))
            by_cases q : j = i
            · subst q; rw [sx_us]; first | rw [if_pos ⟨by omega, fun k => by omega⟩] | rw [if_neg (fun k => by omega)]
            · rw [sx_uk q]; exact hmv j (by omega)
          · refine sx_iconst d_M_take_49 ?_
            refine sx_goto (tgt := 54) d_M_take_50 (by decide) ?_
            refine sx_zast (h2 := gm (sx_u M2 71 i 1)) d_M_take_54 (go rfl rfl rfl) (by omega) (by omega) (by decide) (Or.inr rfl) rfl ?_
            refine sx_iinc (l' := [some (sx_p 51), some (.inl ag), some (.inl ((i : Int) + 1))]) d_M_take_55 rfl (by decide) rfl rfl ?_
            refine sx_goto (tgt := 2) d_M_take_58 (by decide) ?_
            have e1 : ((i : Int) + 1) = ((i + 1 : Nat) : Int) := by omega
            rw [e1]
            refine ih (i + 1) _ (by omega) (by omega) (fun a k h => by rw [sx_u_ne h]; exact hfr a k h) (fun j hj => ?_) (hR2.u _ _ (by omega))
            by_cases q : j = i
            · subst q; rw [sx_us]; first | rw [if_pos ⟨by omega, fun k => by omega⟩] | rw [if_neg (fun k => by omega)]
            · rw [sx_uk q]; exact hmv j (by omega)
set_option maxRecDepth 100000 in
set_option maxHeartbeats 4000000 in
theorem c_M_take {L : Nat} {xs : Nat → Int32} (M1 : Nat → Nat → Int) (M1R : IR M1) (nw : Nat) (h6 : nw ≤ 6) (hw1 : M1 51 2 = (nw : Int)) (ag : Int) (hag : ag = 0 ∨ ag = 1) : sx_R y_M_take (0, 0, 0) L xs [sx_p 51, .inl ag] (gm M1) (fun v h2 => v = none ∧ ∃ M3, h2 = gm M3 ∧ tkm nw ag M1 M3) := by
  refine sx_enter rfl (Nat.le_of_ble_eq_true rfl) rfl ?_
  show sx_V y_M_take (0, 0, 0) L xs (0, 0) 0 [some (sx_p 51), some (.inl ag), none] [] (gm M1) _
  refine sx_iconst d_M_take_0 ?_
  refine sx_istore_n (l' := [some (sx_p 51), some (.inl ag), some (.inl 0)]) d_M_take_1 (by decide) rfl rfl ?_
  exact l_M_tk1 M1 M1R nw h6 hw1 ag hag (nw + 1) 0 M1 (by omega) (by omega) (fun _ _ _ => rfl) (fun _ h => absurd h (Nat.not_lt_zero _)) M1R
theorem eb2_01 {M M1 : Nat → Nat → Int} {ag : Int} {nw : Nat} {b : sB} (h : eb2 M ag nw M1 b) : M1 51 33 = 0 ∨ M1 51 33 = 1 := by
  cases b with
  | none => exact Or.inl h
  | some q => exact Or.inr h.1
set_option maxRecDepth 100000 in
set_option maxHeartbeats 4000000 in
theorem m_run_bad {L : Nat} {xs : Nat → Int32} (M : Nat → Nat → Int) (nc nw nb : Nat) (hM : MR M nc nw nb) (M1 : Nat → Nat → Int) (M1s : sf M M1) (M1R : IR M1) (g : Int) (hg : sx_r g) (hbd : ¬ (1 ≤ g ∧ g ≤ 20000 ∧ 0 < nw)) : sx_R y_M_run (1, 0, 0) L xs [sx_p 51, .inl g] (gm M1) (fun v h2 => v = some (.inl (-1)) ∧ h2 = gm M1) := by
  have w6 := hM.w6
  have c4 := hM.c4
  have b8 := hM.b8
  have r33 : 0 ≤ M 3 3 ∧ M 3 3 ≤ 200 := by (have := hM.dy.2.2.2; have := dy_le (dr M) 200; omega)
  refine sx_enter rfl (Nat.le_of_ble_eq_true rfl) rfl ?_
  show sx_V y_M_run (1, 0, 0) L xs (0, 0) 0 [some (sx_p 51), some (.inl g)] [] (gm M1) _
  refine sx_iload_n d_M_run_0 rfl ?_
  refine sx_iconst d_M_run_1 ?_
  refine sx_sipush d_M_run_2 (by decide) ?_
  refine sx_callS (c_M_within M1 g 1 20000 (by omega) (by omega) (by omega)) d_M_run_5 cd_M_within lk_M_103 st_M_within (st := []) rfl rfl (Nat.le_of_ble_eq_true rfl) ⟨by decide, Nat.le_refl _, Nat.le_refl _⟩ (fun _ _ hq => ?_)
  obtain ⟨z132, rfl, z132b, z132i, rfl⟩ := hq
  show sx_V _ _ _ _ (0, 0) _ _ [.inl z132] (gm M1) _
  refine sx_if_eq (tgt := 18) d_M_run_8 (by decide) (by first | omega | exact hM.ir _ _) (fun c8_15 => ?_) (fun c8_15 => ?_)
  · refine sx_iconst d_M_run_18 ?_
    refine sx_retI d_M_run_19 (Or.inl rfl) ⟨Nat.zero_le _, Nat.zero_le _⟩ ?_
    exact ⟨rfl, rfl⟩
  · refine sx_aload_n d_M_run_11 rfl ?_
    refine sx_getI (z := (nw : Int)) d_M_run_12 fl_M_95 (go rfl rfl rfl) (by decide) (by decide) (by decide) ((M1s 51 2 (by decide) (by decide) (by omega)).trans hM.mwn) ?_
    refine sx_if_ne (tgt := 20) d_M_run_15 (by decide) (by first | omega | exact hM.ir _ _) (fun c15_21 => ?_) (fun c15_21 => ?_)
    · omega
    · refine sx_iconst d_M_run_18 ?_
      refine sx_retI d_M_run_19 (Or.inl rfl) ⟨Nat.zero_le _, Nat.zero_le _⟩ ?_
      exact ⟨rfl, rfl⟩
set_option maxRecDepth 100000 in
set_option maxHeartbeats 4000000 in
theorem m_run_ok {L : Nat} {xs : Nat → Int32} (M : Nat → Nat → Int) (nc nw nb : Nat) (hM : MR M nc nw nb) (M1 : Nat → Nat → Int) (M1s : sf M M1) (M1R : IR M1) (g : Int) (hg : 1 ≤ g ∧ g ≤ 20000) (h1 : 1 ≤ nw) (S0 D0 : Nat → Int) : sx_R y_M_run (5, 0, 0) L xs [sx_p 51, .inl g] (gm M1) (fun v h2 => ∃ M3, sf M M3 ∧ IR M3 ∧ lwf M1 M3 ∧ M3 51 26 = (fs g (GG M 0 nw nb) (CC M) nw 0 S0 D0 (0, none)).1.1 ∧ M3 51 25 = (if (fs g (GG M 0 nw nb) (CC M) nw 0 S0 D0 (0, none)).2 = true then 0 else 1) ∧ eb2 M 0 nw M3 (fs g (GG M 0 nw nb) (CC M) nw 0 S0 D0 (0, none)).1.2 ∧ ((M3 51 33 = 0 ∧ v = some (.inl (-1)) ∧ h2 = gm M3) ∨ (M3 51 33 = 1 ∧ v = some (.inl (M3 51 34)) ∧ ∃ M4, h2 = gm M4 ∧ tkm nw 0 M3 M4))) := by
  have w6 := hM.w6
  have c4 := hM.c4
  have b8 := hM.b8
  have r33 : 0 ≤ M 3 3 ∧ M 3 3 ≤ 200 := by (have := hM.dy.2.2.2; have := dy_le (dr M) 200; omega)
  refine sx_enter rfl (Nat.le_of_ble_eq_true rfl) rfl ?_
  show sx_V y_M_run (5, 0, 0) L xs (0, 0) 0 [some (sx_p 51), some (.inl g)] [] (gm M1) _
  refine sx_iload_n d_M_run_0 rfl ?_
  refine sx_iconst d_M_run_1 ?_
  refine sx_sipush d_M_run_2 (by decide) ?_
  refine sx_callS (c_M_within M1 g 1 20000 (by omega) (by omega) (by omega)) d_M_run_5 cd_M_within lk_M_103 st_M_within (st := []) rfl rfl (Nat.le_of_ble_eq_true rfl) ⟨by decide, Nat.le_refl _, Nat.le_refl _⟩ (fun _ _ hq => ?_)
  obtain ⟨z133, rfl, z133b, z133i, rfl⟩ := hq
  show sx_V _ _ _ _ (0, 0) _ _ [.inl z133] (gm M1) _
  refine sx_if_eq (tgt := 18) d_M_run_8 (by decide) (by first | omega | exact hM.ir _ _) (fun c8_15 => ?_) (fun c8_15 => ?_)
  · omega
  · refine sx_aload_n d_M_run_11 rfl ?_
    refine sx_getI (z := (nw : Int)) d_M_run_12 fl_M_95 (go rfl rfl rfl) (by decide) (by decide) (by decide) ((M1s 51 2 (by decide) (by decide) (by omega)).trans hM.mwn) ?_
    refine sx_if_ne (tgt := 20) d_M_run_15 (by decide) (by first | omega | exact hM.ir _ _) (fun c15_19 => ?_) (fun c15_19 => ?_)
    · refine sx_aload_n d_M_run_20 rfl ?_
      refine sx_iload_n d_M_run_21 rfl ?_
      refine sx_iconst d_M_run_22 ?_
      refine sx_callV (c_M_search M nc nw nb hM M1 M1s M1R 0 (Or.inl rfl) (fun k => absurd rfl k) g hg h1 S0 D0) d_M_run_23 cd_M_search lk_M_183 im_M_search se_M_search (go rfl rfl rfl) rfl rfl (by decide) (st := []) rfl rfl (Nat.le_of_ble_eq_true rfl) ⟨by decide, Nat.le_refl _, Nat.le_refl _⟩ (fun _ _ hq => ?_)
      obtain ⟨rfl, M3, rfl, M3s, M3R, M3l, M3t, M3p, M3b⟩ := hq
      have hb01 := eb2_01 M3b
      show sx_V _ _ _ _ (0, 0) _ _ [] (gm M3) _
      refine sx_aload_n d_M_run_26 rfl ?_
      refine sx_getI (z := (M3 51 33)) d_M_run_27 fl_M_144 (go rfl rfl rfl) (by decide) (by decide) (by decide) rfl ?_
      refine sx_if_ne (tgt := 35) d_M_run_30 (by decide) (by first | omega | exact hM.ir _ _) (fun c30_29 => ?_) (fun c30_29 => ?_)
      · refine sx_aload_n d_M_run_35 rfl ?_
        refine sx_iconst d_M_run_36 ?_
        refine sx_callV (c_M_take M3 M3R nw hM.w6 ((M3s 51 2 (by decide) (by decide) (by omega)).trans hM.mwn) 0 (Or.inl rfl)) d_M_run_37 cd_M_take lk_M_187 im_M_take se_M_take (go rfl rfl rfl) rfl rfl (by decide) (st := []) rfl rfl (Nat.le_of_ble_eq_true rfl) ⟨by decide, Nat.le_refl _, Nat.le_refl _⟩ (fun _ _ hq => ?_)
        obtain ⟨rfl, M4, rfl, M4t⟩ := hq
        show sx_V _ _ _ _ (0, 0) _ _ [] (gm M4) _
        refine sx_aload_n d_M_run_40 rfl ?_
        refine sx_getI (z := (M3 51 34)) d_M_run_41 fl_M_150 (go rfl rfl rfl) (by decide) (by decide) (by decide) ((M4t.1 51 _ (by decide) (by decide) (by decide)).trans rfl) ?_
        refine sx_retI d_M_run_44 (Or.inl rfl) ⟨Nat.zero_le _, Nat.zero_le _⟩ ?_
        exact ⟨M3, M3s, M3R, M3l, M3t, M3p, M3b, Or.inr ⟨by omega, rfl, M4, rfl, M4t⟩⟩
      · refine sx_iconst d_M_run_33 ?_
        refine sx_retI d_M_run_34 (Or.inl rfl) ⟨Nat.zero_le _, Nat.zero_le _⟩ ?_
        exact ⟨M3, M3s, M3R, M3l, M3t, M3p, M3b, Or.inl ⟨by omega, rfl, rfl⟩⟩
    · omega
set_option maxRecDepth 100000 in
set_option maxHeartbeats 4000000 in
theorem m_replan_bad {L : Nat} {xs : Nat → Int32} (M : Nat → Nat → Int) (nc nw nb : Nat) (hM : MR M nc nw nb) (M1 : Nat → Nat → Int) (M1s : sf M M1) (M1R : IR M1) (g : Int) (hg : sx_r g) (hbd : ¬ (1 ≤ g ∧ g ≤ 20000 ∧ M 1 7 ≠ 0)) : sx_R y_M_replan (1, 0, 0) L xs [sx_p 51, .inl g] (gm M1) (fun v h2 => v = some (.inl (-1)) ∧ h2 = gm M1) := by
  have w6 := hM.w6
  have c4 := hM.c4
  have b8 := hM.b8
  have r33 : 0 ≤ M 3 3 ∧ M 3 3 ≤ 200 := by (have := hM.dy.2.2.2; have := dy_le (dr M) 200; omega)
  refine sx_enter rfl (Nat.le_of_ble_eq_true rfl) rfl ?_
  show sx_V y_M_replan (1, 0, 0) L xs (0, 0) 0 [some (sx_p 51), some (.inl g)] [] (gm M1) _
  refine sx_iload_n d_M_replan_0 rfl ?_
  refine sx_iconst d_M_replan_1 ?_
  refine sx_sipush d_M_replan_2 (by decide) ?_
  refine sx_callS (c_M_within M1 g 1 20000 (by omega) (by omega) (by omega)) d_M_replan_5 cd_M_within lk_M_103 st_M_within (st := []) rfl rfl (Nat.le_of_ble_eq_true rfl) ⟨by decide, Nat.le_refl _, Nat.le_refl _⟩ (fun _ _ hq => ?_)
  obtain ⟨z134, rfl, z134b, z134i, rfl⟩ := hq
  show sx_V _ _ _ _ (0, 0) _ _ [.inl z134] (gm M1) _
  refine sx_if_eq (tgt := 18) d_M_replan_8 (by decide) (by first | omega | exact hM.ir _ _) (fun c8_15 => ?_) (fun c8_15 => ?_)
  · refine sx_iconst d_M_replan_18 ?_
    refine sx_retI d_M_replan_19 (Or.inl rfl) ⟨Nat.zero_le _, Nat.zero_le _⟩ ?_
    exact ⟨rfl, rfl⟩
  · refine sx_aload_n d_M_replan_11 rfl ?_
    refine sx_getI (z := (M 1 7)) d_M_replan_12 fl_M_99 (go rfl rfl rfl) (by decide) (by decide) (by decide) ((M1s 51 19 (by decide) (by decide) (by omega)).trans hM.mha) ?_
    refine sx_if_ne (tgt := 20) d_M_replan_15 (by decide) (by first | omega | exact hM.ir _ _) (fun c15_21 => ?_) (fun c15_21 => ?_)
    · omega
    · refine sx_iconst d_M_replan_18 ?_
      refine sx_retI d_M_replan_19 (Or.inl rfl) ⟨Nat.zero_le _, Nat.zero_le _⟩ ?_
      exact ⟨rfl, rfl⟩
set_option maxRecDepth 100000 in
set_option maxHeartbeats 4000000 in
theorem m_replan_ok {L : Nat} {xs : Nat → Int32} (M : Nat → Nat → Int) (nc nw nb : Nat) (hM : MR M nc nw nb) (M1 : Nat → Nat → Int) (M1s : sf M M1) (M1R : IR M1) (g : Int) (hg : 1 ≤ g ∧ g ≤ 20000) (h1 : 1 ≤ nw) (S0 D0 : Nat → Int) (h7 : M 1 7 ≠ 0) : sx_R y_M_replan (5, 0, 0) L xs [sx_p 51, .inl g] (gm M1) (fun v h2 => ∃ M3, sf M M3 ∧ IR M3 ∧ lwf M1 M3 ∧ M3 51 26 = (fs g (GG M 1 nw nb) (CC M) nw 0 S0 D0 (0, none)).1.1 ∧ M3 51 25 = (if (fs g (GG M 1 nw nb) (CC M) nw 0 S0 D0 (0, none)).2 = true then 0 else 1) ∧ eb2 M 1 nw M3 (fs g (GG M 1 nw nb) (CC M) nw 0 S0 D0 (0, none)).1.2 ∧ ((M3 51 33 = 0 ∧ v = some (.inl (-1)) ∧ h2 = gm M3) ∨ (M3 51 33 = 1 ∧ v = some (.inl (M3 51 35)) ∧ ∃ M4, h2 = gm M4 ∧ tkm nw 1 M3 M4))) := by
  have w6 := hM.w6
  have c4 := hM.c4
  have b8 := hM.b8
  have r33 : 0 ≤ M 3 3 ∧ M 3 3 ≤ 200 := by (have := hM.dy.2.2.2; have := dy_le (dr M) 200; omega)
  refine sx_enter rfl (Nat.le_of_ble_eq_true rfl) rfl ?_
  show sx_V y_M_replan (5, 0, 0) L xs (0, 0) 0 [some (sx_p 51), some (.inl g)] [] (gm M1) _
  refine sx_iload_n d_M_replan_0 rfl ?_
  refine sx_iconst d_M_replan_1 ?_
  refine sx_sipush d_M_replan_2 (by decide) ?_
  refine sx_callS (c_M_within M1 g 1 20000 (by omega) (by omega) (by omega)) d_M_replan_5 cd_M_within lk_M_103 st_M_within (st := []) rfl rfl (Nat.le_of_ble_eq_true rfl) ⟨by decide, Nat.le_refl _, Nat.le_refl _⟩ (fun _ _ hq => ?_)
  obtain ⟨z135, rfl, z135b, z135i, rfl⟩ := hq
  show sx_V _ _ _ _ (0, 0) _ _ [.inl z135] (gm M1) _
  refine sx_if_eq (tgt := 18) d_M_replan_8 (by decide) (by first | omega | exact hM.ir _ _) (fun c8_15 => ?_) (fun c8_15 => ?_)
  · omega
  · refine sx_aload_n d_M_replan_11 rfl ?_
    refine sx_getI (z := (M 1 7)) d_M_replan_12 fl_M_99 (go rfl rfl rfl) (by decide) (by decide) (by decide) ((M1s 51 19 (by decide) (by decide) (by omega)).trans hM.mha) ?_
    refine sx_if_ne (tgt := 20) d_M_replan_15 (by decide) (by first | omega | exact hM.ir _ _) (fun c15_19 => ?_) (fun c15_19 => ?_)
    · refine sx_aload_n d_M_replan_20 rfl ?_
      refine sx_iload_n d_M_replan_21 rfl ?_
      refine sx_iconst d_M_replan_22 ?_
      refine sx_callV (c_M_search M nc nw nb hM M1 M1s M1R 1 (Or.inr rfl) (fun _ => h7) g hg h1 S0 D0) d_M_replan_23 cd_M_search lk_M_183 im_M_search se_M_search (go rfl rfl rfl) rfl rfl (by decide) (st := []) rfl rfl (Nat.le_of_ble_eq_true rfl) ⟨by decide, Nat.le_refl _, Nat.le_refl _⟩ (fun _ _ hq => ?_)
      obtain ⟨rfl, M3, rfl, M3s, M3R, M3l, M3t, M3p, M3b⟩ := hq
      have hb01 := eb2_01 M3b
      show sx_V _ _ _ _ (0, 0) _ _ [] (gm M3) _
      refine sx_aload_n d_M_replan_26 rfl ?_
      refine sx_getI (z := (M3 51 33)) d_M_replan_27 fl_M_144 (go rfl rfl rfl) (by decide) (by decide) (by decide) rfl ?_
      refine sx_if_ne (tgt := 35) d_M_replan_30 (by decide) (by first | omega | exact hM.ir _ _) (fun c30_29 => ?_) (fun c30_29 => ?_)
      · refine sx_aload_n d_M_replan_35 rfl ?_
        refine sx_iconst d_M_replan_36 ?_
        refine sx_callV (c_M_take M3 M3R nw hM.w6 ((M3s 51 2 (by decide) (by decide) (by omega)).trans hM.mwn) 1 (Or.inr rfl)) d_M_replan_37 cd_M_take lk_M_187 im_M_take se_M_take (go rfl rfl rfl) rfl rfl (by decide) (st := []) rfl rfl (Nat.le_of_ble_eq_true rfl) ⟨by decide, Nat.le_refl _, Nat.le_refl _⟩ (fun _ _ hq => ?_)
        obtain ⟨rfl, M4, rfl, M4t⟩ := hq
        show sx_V _ _ _ _ (0, 0) _ _ [] (gm M4) _
        refine sx_aload_n d_M_replan_40 rfl ?_
        refine sx_getI (z := (M3 51 35)) d_M_replan_41 fl_M_156 (go rfl rfl rfl) (by decide) (by decide) (by decide) ((M4t.1 51 _ (by decide) (by decide) (by decide)).trans rfl) ?_
        refine sx_retI d_M_replan_44 (Or.inl rfl) ⟨Nat.zero_le _, Nat.zero_le _⟩ ?_
        exact ⟨M3, M3s, M3R, M3l, M3t, M3p, M3b, Or.inr ⟨by omega, rfl, M4, rfl, M4t⟩⟩
      · refine sx_iconst d_M_replan_33 ?_
        refine sx_retI d_M_replan_34 (Or.inl rfl) ⟨Nat.zero_le _, Nat.zero_le _⟩ ?_
        exact ⟨M3, M3s, M3R, M3l, M3t, M3p, M3b, Or.inl ⟨by omega, rfl, rfl⟩⟩
    · omega
