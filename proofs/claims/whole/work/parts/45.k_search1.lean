set_option maxRecDepth 100000 in
set_option maxHeartbeats 4000000 in
theorem c_S_isMove {L : Nat} {xs : Nat → Int32} (M : Nat → Nat → Int) (hR : IR M) (l : Nat) (hl : l < 6) (s d : Int) (hs : sx_r s) (hd : sx_r d) : sx_R y_S_isMove (2, 0, 0) L xs [sx_p 25, .inl (l : Int), .inl s, .inl d] (gm M) (fun v h2 => v = some (.inl (if M 25 8 ≠ 0 ∧ ¬ (M 23 l = s ∧ M 24 l = d) then 1 else 0)) ∧ h2 = gm M) := by
  refine sx_enter rfl (Nat.le_of_ble_eq_true rfl) rfl ?_
  show sx_V y_S_isMove (2, 0, 0) L xs (0, 0) 0 [some (sx_p 25), some (.inl (l : Int)), some (.inl s), some (.inl d)] [] (gm M) _
  refine sx_aload_n d_S_isMove_0 rfl ?_
  refine sx_getI (z := (M 25 8)) d_S_isMove_1 fl_S_46 (go rfl rfl rfl) (by decide) (by decide) (by decide) rfl ?_
  refine sx_if_eq (tgt := 24) d_S_isMove_4 (by decide) (hR _ _) (fun c4_7 => ?_) (fun c4_7 => ?_)
  · refine sx_iconst d_S_isMove_24 ?_
    refine sx_retI d_S_isMove_25 (Or.inr ⟨rfl, by first | exact Or.inl rfl | exact Or.inr rfl | omega⟩) ⟨Nat.zero_le _, Nat.zero_le _⟩ ?_
    refine ⟨?_, rfl⟩
    congr 2
    by_cases q : M 23 l = s ∧ M 24 l = d <;> simp_all
  · refine sx_aload_n d_S_isMove_7 rfl ?_
    refine sx_getR (r := some (22)) d_S_isMove_8 fl_S_42 (go rfl rfl rfl) (by decide) (by decide) (by decide) rfl ?_
    refine sx_iload_n d_S_isMove_11 rfl ?_
    refine sx_iload_n d_S_isMove_12 rfl ?_
    refine sx_iload_n d_S_isMove_13 rfl ?_
    refine sx_callV (c_P_isElse M hR 22 23 24 (fun _ => go rfl rfl rfl) (fun _ => go rfl rfl rfl) (fun _ => go rfl rfl rfl) (fun _ => rfl) (fun _ => rfl) l hl s d hs hd) d_S_isMove_14 cd_P_isElsewhere lk_S_126 im_P_isElsewhere se_P_isElsewhere (go rfl rfl rfl) rfl rfl (by decide) (st := []) rfl rfl (Nat.le_of_ble_eq_true rfl) ⟨by decide, Nat.le_refl _, Nat.le_refl _⟩ (fun _ _ hq => ?_)
    obtain ⟨rfl, rfl⟩ := hq
    show sx_V _ _ _ _ (0, 0) _ _ [.inl (if M 23 l = s ∧ M 24 l = d then 0 else 1)] (gm M) _
    refine sx_if_eq (tgt := 24) d_S_isMove_17 (by decide) (by first | omega | (split <;> omega)) (fun c17_21 => ?_) (fun c17_21 => ?_)
    · refine sx_iconst d_S_isMove_24 ?_
      refine sx_retI d_S_isMove_25 (Or.inr ⟨rfl, by first | exact Or.inl rfl | exact Or.inr rfl | omega⟩) ⟨Nat.zero_le _, Nat.zero_le _⟩ ?_
      refine ⟨?_, rfl⟩
      congr 2
      by_cases q : M 23 l = s ∧ M 24 l = d <;> simp_all
    · refine sx_iconst d_S_isMove_20 ?_
      refine sx_goto (tgt := 25) d_S_isMove_21 (by decide) ?_
      refine sx_retI d_S_isMove_25 (Or.inr ⟨rfl, by first | exact Or.inl rfl | exact Or.inr rfl | omega⟩) ⟨Nat.zero_le _, Nat.zero_le _⟩ ?_
      refine ⟨?_, rfl⟩
      congr 2
      by_cases q : M 23 l = s ∧ M 24 l = d <;> simp_all
set_option maxRecDepth 100000 in
set_option maxHeartbeats 4000000 in
theorem c_S_isBetter {L : Nat} {xs : Nat → Int32} (M : Nat → Nat → Int) (hR : IR M) (e n : Int) (he : sx_r e) (hn : sx_r n) : sx_R y_S_isBetter (0, 0, 0) L xs [sx_p 25, .inl e, .inl n] (gm M) (fun v h2 => v = some (.inl (if M 25 12 = 0 ∨ n < M 25 14 ∨ (n = M 25 14 ∧ e < M 25 13) then 1 else 0)) ∧ h2 = gm M) := by
  refine sx_enter rfl (Nat.le_of_ble_eq_true rfl) rfl ?_
  show sx_V y_S_isBetter (0, 0, 0) L xs (0, 0) 0 [some (sx_p 25), some (.inl e), some (.inl n)] [] (gm M) _
  refine sx_aload_n d_S_isBetter_0 rfl ?_
  refine sx_getI (z := (M 25 12)) d_S_isBetter_1 fl_S_60 (go rfl rfl rfl) (by decide) (by decide) (by decide) rfl ?_
  refine sx_if_eq (tgt := 31) d_S_isBetter_4 (by decide) (hR _ _) (fun c4_7 => ?_) (fun c4_7 => ?_)
  · refine sx_iconst d_S_isBetter_31 ?_
    refine sx_goto (tgt := 36) d_S_isBetter_32 (by decide) ?_
    refine sx_retI d_S_isBetter_36 (Or.inr ⟨rfl, by first | exact Or.inl rfl | exact Or.inr rfl | omega⟩) ⟨Nat.zero_le _, Nat.zero_le _⟩ ?_
    refine ⟨?_, rfl⟩
    congr 2
    first | rw [if_pos (by omega)] | rw [if_neg (by omega)]
  · refine sx_iload_n d_S_isBetter_7 rfl ?_
    refine sx_aload_n d_S_isBetter_8 rfl ?_
    refine sx_getI (z := (M 25 14)) d_S_isBetter_9 fl_S_129 (go rfl rfl rfl) (by decide) (by decide) (by decide) rfl ?_
    refine sx_icmp_lt (tgt := 31) d_S_isBetter_12 (by decide) hn (hR _ _) (fun c12_17 => ?_) (fun c12_17 => ?_)
    · refine sx_iconst d_S_isBetter_31 ?_
      refine sx_goto (tgt := 36) d_S_isBetter_32 (by decide) ?_
      refine sx_retI d_S_isBetter_36 (Or.inr ⟨rfl, by first | exact Or.inl rfl | exact Or.inr rfl | omega⟩) ⟨Nat.zero_le _, Nat.zero_le _⟩ ?_
      refine ⟨?_, rfl⟩
      congr 2
      first | rw [if_pos (by omega)] | rw [if_neg (by omega)]
    · refine sx_iload_n d_S_isBetter_15 rfl ?_
      refine sx_aload_n d_S_isBetter_16 rfl ?_
      refine sx_getI (z := (M 25 14)) d_S_isBetter_17 fl_S_129 (go rfl rfl rfl) (by decide) (by decide) (by decide) rfl ?_
      refine sx_icmp_ne (tgt := 35) d_S_isBetter_20 (by decide) hn (hR _ _) (fun c20_27 => ?_) (fun c20_27 => ?_)
      · refine sx_iconst d_S_isBetter_35 ?_
        refine sx_retI d_S_isBetter_36 (Or.inr ⟨rfl, by first | exact Or.inl rfl | exact Or.inr rfl | omega⟩) ⟨Nat.zero_le _, Nat.zero_le _⟩ ?_
        refine ⟨?_, rfl⟩
        congr 2
        first | rw [if_pos (by omega)] | rw [if_neg (by omega)]
      · refine sx_iload_n d_S_isBetter_23 rfl ?_
        refine sx_aload_n d_S_isBetter_24 rfl ?_
        refine sx_getI (z := (M 25 13)) d_S_isBetter_25 fl_S_132 (go rfl rfl rfl) (by decide) (by decide) (by decide) rfl ?_
        refine sx_icmp_ge (tgt := 35) d_S_isBetter_28 (by decide) he (hR _ _) (fun c28_36 => ?_) (fun c28_36 => ?_)
        · refine sx_iconst d_S_isBetter_35 ?_
          refine sx_retI d_S_isBetter_36 (Or.inr ⟨rfl, by first | exact Or.inl rfl | exact Or.inr rfl | omega⟩) ⟨Nat.zero_le _, Nat.zero_le _⟩ ?_
          refine ⟨?_, rfl⟩
          congr 2
          first | rw [if_pos (by omega)] | rw [if_neg (by omega)]
        · refine sx_iconst d_S_isBetter_31 ?_
          refine sx_goto (tgt := 36) d_S_isBetter_32 (by decide) ?_
          refine sx_retI d_S_isBetter_36 (Or.inr ⟨rfl, by first | exact Or.inl rfl | exact Or.inr rfl | omega⟩) ⟨Nat.zero_le _, Nat.zero_le _⟩ ?_
          refine ⟨?_, rfl⟩
          congr 2
          first | rw [if_pos (by omega)] | rw [if_neg (by omega)]
set_option maxRecDepth 100000 in
set_option maxHeartbeats 4000000 in
theorem c_S_keeps {L : Nat} {xs : Nat → Int32} (M : Nat → Nat → Int) (hI : IDy M) (hR : IR M) (l d : Nat) (hl : l < 6) (hd : d < 2) (s : Int) (hs : 0 ≤ s ∧ s ≤ 1000) (hW : IW M l) (hkd : 0 ≤ M (14 + l) 1 ∧ M (14 + l) 1 ≤ 3) (hO : ∀ o, o < l → IW M o) (hso : ∀ o, o < l → 0 ≤ M 27 o ∧ M 27 o ≤ 1000) : sx_R y_S_keepsRules (3, 0, 0) L xs [sx_p 25, .inl (l : Int), .inl s, .inl (d : Int)] (gm M) (fun v h2 => ∃ z, v = some (.inl z) ∧ (z = 0 ∨ z = 1) ∧ h2 = gm M ∧ (z = 1 ↔ dr M s.toNat = false ∧ (M (35 + (2 * l + d)) 0 ≤ Bd M s ∧ Bd M s ≤ M (35 + (2 * l + d)) 1) ∧ hRm M 27 l s l)) := by
  refine sx_enter rfl (Nat.le_of_ble_eq_true rfl) rfl ?_
  show sx_V y_S_keepsRules (3, 0, 0) L xs (0, 0) 0 [some (sx_p 25), some (.inl (l : Int)), some (.inl s), some (.inl (d : Int))] [] (gm M) _
  refine sx_aload_n d_S_keepsRules_0 rfl ?_
  refine sx_getR (r := some (2)) d_S_keepsRules_1 fl_S_34 (go rfl rfl rfl) (by decide) (by decide) (by decide) rfl ?_
  refine sx_getR (r := some (3)) d_S_keepsRules_4 fl_S_135 (go rfl rfl rfl) (by decide) (by decide) (by decide) rfl ?_
  refine sx_iload_n d_S_keepsRules_7 rfl ?_
  refine sx_callV (c_D_isWorking M hI s (by first | omega | (split <;> omega))) d_S_keepsRules_8 cd_D_isWorking lk_S_139 im_D_isWorking se_D_isWorking (go rfl rfl rfl) rfl rfl (by decide) (st := []) rfl rfl (Nat.le_of_ble_eq_true rfl) ⟨by decide, Nat.le_refl _, Nat.le_refl _⟩ (fun _ _ hq => ?_)
  obtain ⟨rfl, rfl⟩ := hq
  show sx_V _ _ _ _ (0, 0) _ _ [.inl (if 0 ≤ s ∧ dr M (Int.toNat s) = false then 1 else 0)] (gm M) _
  refine sx_if_eq (tgt := 62) d_S_keepsRules_11 (by decide) (by first | omega | (split <;> omega)) (fun c11_12 => ?_) (fun c11_12 => ?_)
  · refine sx_iconst d_S_keepsRules_62 ?_
    refine sx_retI d_S_keepsRules_63 (Or.inr ⟨rfl, by first | exact Or.inl rfl | exact Or.inr rfl | omega⟩) ⟨Nat.zero_le _, Nat.zero_le _⟩ ?_
    refine ⟨_, rfl, Or.inl rfl, rfl, ⟨fun k => absurd k (by decide), fun k => ?_⟩⟩
    exfalso
    obtain ⟨k1, k2, k3⟩ := k
    first | exact absurd (hzi.mpr k3) (by omega) | (clear hR hO hso; simp_all; done) | (clear hR hO hso; rw [if_pos k2] at *; simp_all)
  · refine sx_aload_n d_S_keepsRules_14 rfl ?_
    refine sx_getR (r := some (32)) d_S_keepsRules_15 fl_S_23 (go rfl rfl rfl) (by decide) (by decide) (by decide) rfl ?_
    refine sx_iload_n d_S_keepsRules_18 rfl ?_
    refine sx_iconst d_S_keepsRules_19 ?_
    refine sx_imul d_S_keepsRules_20 ?_
    refine sx_iload_n d_S_keepsRules_21 rfl ?_
    refine sx_iadd d_S_keepsRules_22 ?_
    refine sx_aald (r := some ((35 + (2 * l + d)))) d_S_keepsRules_23 (go rfl rfl rfl) (t := 1) rfl (by omega) (by omega) (by decide) (by rw [show (Int.toNat (((l : Int) * 2) + (d : Int))) = 2 * l + d by omega]; exact gr_i _ (by omega)) ?_
    refine sx_aload_n d_S_keepsRules_24 rfl ?_
    refine sx_getR (r := some (2)) d_S_keepsRules_25 fl_S_34 (go rfl rfl rfl) (by decide) (by decide) (by decide) rfl ?_
    refine sx_getR (r := some (3)) d_S_keepsRules_28 fl_S_135 (go rfl rfl rfl) (by decide) (by decide) (by decide) rfl ?_
    refine sx_iload_n d_S_keepsRules_31 rfl ?_
    refine sx_callV (c_D_before M hI s (by first | omega | (split <;> omega))) d_S_keepsRules_32 cd_D_before lk_S_145 im_D_before se_D_before (go rfl rfl rfl) rfl rfl (by decide) (st := [sx_p (35 + (2 * l + d))]) rfl rfl (Nat.le_of_ble_eq_true rfl) ⟨by decide, Nat.le_refl _, Nat.le_refl _⟩ (fun _ _ hq => ?_)
    obtain ⟨rfl, rfl⟩ := hq
    show sx_V _ _ _ _ (0, 0) _ _ [.inl (Bd M s), sx_p (35 + (2 * l + d))] (gm M) _
    have bq := Bd_r M s
    refine sx_callV (c_W_holds M hR (35 + (2 * l + d)) (fun _ => go_i _ (by omega)) (Bd M s) (by omega)) d_S_keepsRules_35 cd_W_holds lk_S_149 im_W_holds se_W_holds (go_i _ (by omega)) rfl rfl (by decide) (st := []) rfl rfl (Nat.le_of_ble_eq_true rfl) ⟨by decide, Nat.le_refl _, Nat.le_refl _⟩ (fun _ _ hq => ?_)
    obtain ⟨rfl, rfl⟩ := hq
    show sx_V _ _ _ _ (0, 0) _ _ [.inl (if M (35 + (2 * l + d)) 0 ≤ (Bd M s) ∧ (Bd M s) ≤ M (35 + (2 * l + d)) 1 then 1 else 0)] (gm M) _
    refine sx_if_eq (tgt := 62) d_S_keepsRules_38 (by decide) (by first | omega | (split <;> omega)) (fun c38_38 => ?_) (fun c38_38 => ?_)
    · refine sx_iconst d_S_keepsRules_62 ?_
      refine sx_retI d_S_keepsRules_63 (Or.inr ⟨rfl, by first | exact Or.inl rfl | exact Or.inr rfl | omega⟩) ⟨Nat.zero_le _, Nat.zero_le _⟩ ?_
      refine ⟨_, rfl, Or.inl rfl, rfl, ⟨fun k => absurd k (by decide), fun k => ?_⟩⟩
      exfalso
      obtain ⟨k1, k2, k3⟩ := k
      first | exact absurd (hzi.mpr k3) (by omega) | (clear hR hO hso; simp_all; done) | (clear hR hO hso; rw [if_pos k2] at *; simp_all)
    · refine sx_aload_n d_S_keepsRules_41 rfl ?_
      refine sx_getR (r := some (20)) d_S_keepsRules_42 fl_S_38 (go rfl rfl rfl) (by decide) (by decide) (by decide) rfl ?_
      refine sx_aload_n d_S_keepsRules_45 rfl ?_
      refine sx_getR (r := some (26)) d_S_keepsRules_46 fl_S_12 (go rfl rfl rfl) (by decide) (by decide) (by decide) rfl ?_
      refine sx_iload_n d_S_keepsRules_49 rfl ?_
      refine sx_iload_n d_S_keepsRules_50 rfl ?_
      refine sx_iload_n d_S_keepsRules_51 rfl ?_
      refine sx_callV (c_R_room M hI hR 26 27 (fun _ => go rfl rfl rfl) (fun _ => go rfl rfl rfl) (fun _ => rfl) l hl hkd l (by omega) hO hso hW s hs) d_S_keepsRules_52 cd_R_hasRoom lk_S_152 im_R_hasRoom se_R_hasRoom (go rfl rfl rfl) rfl rfl (by decide) (st := []) rfl rfl (Nat.le_of_ble_eq_true rfl) ⟨by decide, Nat.le_refl _, Nat.le_refl _⟩ (fun _ _ hq => ?_)
      obtain ⟨z, rfl, hz, rfl, hzi⟩ := hq
      show sx_V _ _ _ _ (0, 0) _ _ [.inl z] (gm M) _
      refine sx_if_eq (tgt := 62) d_S_keepsRules_55 (by decide) (by first | omega | (split <;> omega)) (fun c55_55 => ?_) (fun c55_55 => ?_)
      · refine sx_iconst d_S_keepsRules_62 ?_
        refine sx_retI d_S_keepsRules_63 (Or.inr ⟨rfl, by first | exact Or.inl rfl | exact Or.inr rfl | omega⟩) ⟨Nat.zero_le _, Nat.zero_le _⟩ ?_
        refine ⟨_, rfl, Or.inl rfl, rfl, ⟨fun k => absurd k (by decide), fun k => ?_⟩⟩
        exfalso
        obtain ⟨k1, k2, k3⟩ := k
        first | exact absurd (hzi.mpr k3) (by omega) | (clear hR hO hso; simp_all; done) | (clear hR hO hso; rw [if_pos k2] at *; simp_all)
      · refine sx_iconst d_S_keepsRules_58 ?_
        refine sx_goto (tgt := 63) d_S_keepsRules_59 (by decide) ?_
        refine sx_retI d_S_keepsRules_63 (Or.inr ⟨rfl, by first | exact Or.inl rfl | exact Or.inr rfl | omega⟩) ⟨Nat.zero_le _, Nat.zero_le _⟩ ?_
        refine ⟨_, rfl, Or.inr rfl, rfl, ⟨fun _ => ⟨?_, ?_, hzi.mp (by omega)⟩, fun _ => rfl⟩⟩
        · (split at * <;> first | exact (by assumption : 0 ≤ s ∧ _).2 | omega)
        · (split at * <;> omega)
set_option maxRecDepth 100000 in
set_option maxHeartbeats 4000000 in
theorem l_S_kab {L : Nat} {xs : Nat → Int32} (M0 : Nat → Nat → Int) (l : Nat) (hl : l < 6) : ∀ (n i : Nat) (M1 : Nat → Nat → Int), l + 1 - i < n → i ≤ l + 1 → (∀ a k, a ≠ 30 → a ≠ 31 → M1 a k = M0 a k) → IR M1 → (∀ i2, i2 < i → M1 30 i2 = M0 27 i2 ∧ M1 31 i2 = M0 28 i2) → sx_V y_S_keepAsBest (2, 0, 0) L xs (0, 0) 27 [some (sx_p 25), some (.inl (l : Int)), some (.inl (i : Int))] [] (gm M1) (fun v h2 => v = none ∧ ∃ M2, h2 = gm M2 ∧ (∀ a k, a ≠ 30 → a ≠ 31 → M2 a k = M0 a k) ∧ IR M2 ∧ (∀ i, i ≤ l → M2 30 i = M0 27 i ∧ M2 31 i = M0 28 i)) := by
  intro n
  induction n with
  | zero => intro i M1 h1 h2; omega
  | succ n ih =>
    intro i M1 hn hi hfr hR1 hb
    refine sx_iload_n d_S_keepAsBest_27 rfl ?_
    refine sx_iload_n d_S_keepAsBest_28 rfl ?_
    refine sx_icmp_gt (tgt := 64) d_S_keepAsBest_29 (by decide) ⟨by omega, by omega⟩ ⟨by omega, by omega⟩ (fun c29_10 => ?_) (fun c29_10 => ?_)
    · refine sx_retV d_S_keepAsBest_64 rfl ⟨Nat.zero_le _, Nat.zero_le _⟩ ?_
      have e0 : i = l + 1 := by omega
      subst e0
      exact ⟨rfl, _, rfl, hfr, hR1, fun i hi => hb i (by omega)⟩
    · refine sx_aload_n d_S_keepAsBest_32 rfl ?_
      refine sx_getR (r := some (29)) d_S_keepAsBest_33 fl_S_18 (go rfl rfl rfl) (by decide) (by decide) (by decide) rfl ?_
      refine sx_iload_n d_S_keepAsBest_36 rfl ?_
      refine sx_aload_n d_S_keepAsBest_37 rfl ?_
      refine sx_getR (r := some (26)) d_S_keepAsBest_38 fl_S_12 (go rfl rfl rfl) (by decide) (by decide) (by decide) rfl ?_
      refine sx_getR (r := some (27)) d_S_keepAsBest_41 fl_S_81 (go rfl rfl rfl) (by decide) (by decide) (by decide) rfl ?_
      refine sx_iload_n d_S_keepAsBest_44 rfl ?_
      refine sx_iald (z := (M1 27 i)) d_S_keepAsBest_45 (go rfl rfl rfl) (by omega) (by omega) (by decide) rfl ?_
      refine sx_aload_n d_S_keepAsBest_46 rfl ?_
      refine sx_getR (r := some (26)) d_S_keepAsBest_47 fl_S_12 (go rfl rfl rfl) (by decide) (by decide) (by decide) rfl ?_
      refine sx_getR (r := some (28)) d_S_keepAsBest_50 fl_S_84 (go rfl rfl rfl) (by decide) (by decide) (by decide) rfl ?_
      refine sx_iload_n d_S_keepAsBest_53 rfl ?_
      refine sx_iald (z := (M1 28 i)) d_S_keepAsBest_54 (go rfl rfl rfl) (by omega) (by omega) (by decide) rfl ?_
      refine sx_callV (c_P_put M1 29 30 31 (fun _ => go rfl rfl rfl) (fun _ => go rfl rfl rfl) (fun _ => go rfl rfl rfl) (fun _ => rfl) (fun _ => rfl) i (by omega) (M1 27 i) (M1 28 i)) d_S_keepAsBest_55 cd_P_put lk_S_120 im_P_put se_P_put (go rfl rfl rfl) rfl rfl (by decide) (st := []) rfl rfl (Nat.le_of_ble_eq_true rfl) ⟨by decide, Nat.le_refl _, Nat.le_refl _⟩ (fun _ _ hq => ?_)
      obtain ⟨rfl, rfl⟩ := hq
      show sx_V _ _ _ _ (0, 0) _ _ [] (gm (sx_u (sx_u M1 30 i (M1 27 i)) 31 i (M1 28 i))) _
      refine sx_iinc (l' := [some (sx_p 25), some (.inl (l : Int)), some (.inl ((i : Int) + 1))]) d_S_keepAsBest_58 rfl (by decide) rfl rfl ?_
      refine sx_goto (tgt := 27) d_S_keepAsBest_61 (by decide) ?_
      have e1 : ((i : Int) + 1) = ((i + 1 : Nat) : Int) := by omega
      rw [e1]
      have f27 := hfr 27 i (by decide) (by decide)
      have f28 := hfr 28 i (by decide) (by decide)
      refine ih (i + 1) _ (by omega) (by omega) (fun a k h1 h2 => ?_) ((hR1.u 30 i (hR1 27 i)).u 31 i (hR1 28 i)) (fun i2 hi2 => ?_)
      · simp only [sx_u, h1, h2, false_and, if_false]; exact hfr a k h1 h2
      · by_cases q : i2 = i
        · subst q; simp [sx_u, f27, f28]
        · simp [sx_u, q]; exact hb i2 (by omega)
set_option maxRecDepth 100000 in
set_option maxHeartbeats 4000000 in
theorem c_S_kab {L : Nat} {xs : Nat → Int32} (M : Nat → Nat → Int) (hR : IR M) (l : Nat) (hl : l < 6) : sx_R y_S_keepAsBest (2, 0, 0) L xs [sx_p 25, .inl (l : Int)] (gm M) (fun v h2 => v = none ∧ ∃ M2, h2 = gm M2 ∧ (∀ a k, a ≠ 30 → a ≠ 31 → M2 a k = (sx_u (sx_u (sx_u M 25 12 1) 25 13 (M 33 l)) 25 14 (M 34 l)) a k) ∧ IR M2 ∧ (∀ i, i ≤ l → M2 30 i = M 27 i ∧ M2 31 i = M 28 i)) := by
  refine sx_enter rfl (Nat.le_of_ble_eq_true rfl) rfl ?_
  show sx_V y_S_keepAsBest (2, 0, 0) L xs (0, 0) 0 [some (sx_p 25), some (.inl (l : Int)), none] [] (gm M) _
  refine sx_aload_n d_S_keepAsBest_0 rfl ?_
  refine sx_iconst d_S_keepAsBest_1 ?_
  refine sx_putI (h2 := gm (sx_u M 25 12 1)) d_S_keepAsBest_2 fl_S_60 (go rfl rfl rfl) (by decide) (by decide) (by decide) (fun q hq => Or.inl (nf_S_12 q hq)) (Or.inr ⟨rfl, (Or.inr rfl)⟩) rfl ?_
  refine sx_aload_n d_S_keepAsBest_5 rfl ?_
  refine sx_aload_n d_S_keepAsBest_6 rfl ?_
  refine sx_getR (r := some (33)) d_S_keepAsBest_7 fl_S_27 (go rfl rfl rfl) (by decide) (by decide) (by decide) rfl ?_
  refine sx_iload_n d_S_keepAsBest_10 rfl ?_
  refine sx_iald (z := (M 33 l)) d_S_keepAsBest_11 (go rfl rfl rfl) (by omega) (by omega) (by decide) (by simp [gm, sx_u]) ?_
  refine sx_putI (h2 := gm (sx_u (sx_u M 25 12 1) 25 13 (M 33 l))) d_S_keepAsBest_12 fl_S_132 (go rfl rfl rfl) (by decide) (by decide) (by decide) (fun q hq => Or.inl (nf_S_13 q hq)) (Or.inl rfl) rfl ?_
  refine sx_aload_n d_S_keepAsBest_15 rfl ?_
  refine sx_aload_n d_S_keepAsBest_16 rfl ?_
  refine sx_getR (r := some (34)) d_S_keepAsBest_17 fl_S_31 (go rfl rfl rfl) (by decide) (by decide) (by decide) rfl ?_
  refine sx_iload_n d_S_keepAsBest_20 rfl ?_
  refine sx_iald (z := (M 34 l)) d_S_keepAsBest_21 (go rfl rfl rfl) (by omega) (by omega) (by decide) (by simp [gm, sx_u]) ?_
  refine sx_putI (h2 := gm (sx_u (sx_u (sx_u M 25 12 1) 25 13 (M 33 l)) 25 14 (M 34 l))) d_S_keepAsBest_22 fl_S_129 (go rfl rfl rfl) (by decide) (by decide) (by decide) (fun q hq => Or.inl (nf_S_14 q hq)) (Or.inl rfl) rfl ?_
  refine sx_iconst d_S_keepAsBest_25 ?_
  refine sx_istore_n (l' := [some (sx_p 25), some (.inl (l : Int)), some (.inl 0)]) d_S_keepAsBest_26 (by decide) rfl rfl ?_
  have q := l_S_kab (L := L) (xs := xs) (sx_u (sx_u (sx_u M 25 12 1) 25 13 (M 33 l)) 25 14 (M 34 l)) l hl (l + 2) 0 (sx_u (sx_u (sx_u M 25 12 1) 25 13 (M 33 l)) 25 14 (M 34 l)) (by omega) (by omega) (fun _ _ _ _ => rfl) (((hR.u 25 12 ⟨by decide, by decide⟩).u 25 13 (hR _ _)).u 25 14 (hR _ _)) (fun _ h => absurd h (Nat.not_lt_zero _))
  exact q
