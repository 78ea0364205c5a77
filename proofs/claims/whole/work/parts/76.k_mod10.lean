set_option maxRecDepth 100000 in
set_option maxHeartbeats 4000000 in
theorem m_crosses_bad {L : Nat} {xs : Nat → Int32} (M : Nat → Nat → Int) (nc nw nb : Nat) (hM : MR M nc nw nb) (M1 : Nat → Nat → Int) (M1s : sf M M1) (M1R : IR M1) (a b : Int) (ha : sx_r a) (hb : sx_r b) (hbd : ¬ (M 1 7 ≠ 0 ∧ 0 ≤ a ∧ a < nw ∧ 0 ≤ b ∧ b < nw)) : sx_R y_M_crosses (1, 0, 0) L xs [sx_p 51, .inl a, .inl b] (gm M1) (fun v h2 => v = some (.inl 0) ∧ h2 = gm M1) := by
  have w6 := hM.w6
  have c4 := hM.c4
  have b8 := hM.b8
  have r33 : 0 ≤ M 3 3 ∧ M 3 3 ≤ 200 := by (have := hM.dy.2.2.2; have := dy_le (dr M) 200; omega)
  refine sx_enter rfl (Nat.le_of_ble_eq_true rfl) rfl ?_
  show sx_V y_M_crosses (1, 0, 0) L xs (0, 0) 0 [some (sx_p 51), some (.inl a), some (.inl b), none, none, none, none, none, none, none] [] (gm M1) _
  refine sx_aload_n d_M_crosses_0 rfl ?_
  refine sx_getI (z := (M 1 7)) d_M_crosses_1 fl_M_99 (go rfl rfl rfl) (by decide) (by decide) (by decide) ((M1s 51 19 (by decide) (by decide) (by omega)).trans hM.mha) ?_
  refine sx_if_eq (tgt := 23) d_M_crosses_4 (by decide) (by first | omega | exact hM.ir _ _) (fun c4_11 => ?_) (fun c4_11 => ?_)
  · refine sx_iconst d_M_crosses_23 ?_
    refine sx_retI d_M_crosses_24 (Or.inr ⟨rfl, by first | exact Or.inl rfl | exact Or.inr rfl | omega⟩) ⟨Nat.zero_le _, Nat.zero_le _⟩ ?_
    exact ⟨rfl, rfl⟩
  · refine sx_aload_n d_M_crosses_7 rfl ?_
    refine sx_iload_n d_M_crosses_8 rfl ?_
    refine sx_callV (c_M_isWork M nc nw nb hM M1 M1s a (by omega)) d_M_crosses_9 cd_M_isWork lk_M_113 im_M_isWork se_M_isWork (go rfl rfl rfl) rfl rfl (by decide) (st := []) rfl rfl (Nat.le_of_ble_eq_true rfl) ⟨by decide, Nat.le_refl _, Nat.le_refl _⟩ (fun _ _ hq => ?_)
    obtain ⟨z148, rfl, z148b, z148i, rfl⟩ := hq
    show sx_V _ _ _ _ (0, 0) _ _ [.inl z148] (gm M1) _
    refine sx_if_eq (tgt := 23) d_M_crosses_12 (by decide) (by first | omega | exact hM.ir _ _) (fun c12_20 => ?_) (fun c12_20 => ?_)
    · refine sx_iconst d_M_crosses_23 ?_
      refine sx_retI d_M_crosses_24 (Or.inr ⟨rfl, by first | exact Or.inl rfl | exact Or.inr rfl | omega⟩) ⟨Nat.zero_le _, Nat.zero_le _⟩ ?_
      exact ⟨rfl, rfl⟩
    · refine sx_aload_n d_M_crosses_15 rfl ?_
      refine sx_iload_n d_M_crosses_16 rfl ?_
      refine sx_callV (c_M_isWork M nc nw nb hM M1 M1s b (by omega)) d_M_crosses_17 cd_M_isWork lk_M_113 im_M_isWork se_M_isWork (go rfl rfl rfl) rfl rfl (by decide) (st := []) rfl rfl (Nat.le_of_ble_eq_true rfl) ⟨by decide, Nat.le_refl _, Nat.le_refl _⟩ (fun _ _ hq => ?_)
      obtain ⟨z149, rfl, z149b, z149i, rfl⟩ := hq
      show sx_V _ _ _ _ (0, 0) _ _ [.inl z149] (gm M1) _
      refine sx_if_ne (tgt := 25) d_M_crosses_20 (by decide) (by first | omega | exact hM.ir _ _) (fun c20_29 => ?_) (fun c20_29 => ?_)
      · omega
      · refine sx_iconst d_M_crosses_23 ?_
        refine sx_retI d_M_crosses_24 (Or.inr ⟨rfl, by first | exact Or.inl rfl | exact Or.inr rfl | omega⟩) ⟨Nat.zero_le _, Nat.zero_le _⟩ ?_
        exact ⟨rfl, rfl⟩
theorem shr {M : Nat → Nat → Int} {a b : Nat} {p : Int} : (fI M a b ≤ p ∧ p ≤ lA M a b) ↔ (M (14 + a) 2 ≤ p ∧ p ≤ M (14 + a) 3) ∧ (M (14 + b) 2 ≤ p ∧ p ≤ M (14 + b) 3) := by
  unfold fI lA
  (repeat' split) <;> omega
set_option maxRecDepth 100000 in
set_option maxHeartbeats 4000000 in
theorem l_M_crosses {L : Nat} {xs : Nat → Int32} (M : Nat → Nat → Int) (nc nw nb : Nat) (hM : MR M nc nw nb) (M1 : Nat → Nat → Int) (M1s : sf M M1) (M1R : IR M1) (M3 : Nat → Nat → Int) (M3q : mq M1 M3) (M3s : sf M M3) (M3R : IR M3) (hS : SLt M nw (M 23) (M 24) M3) (hV : VS M nw (M 23) (M 24)) (a b : Nat) (ha : a < nw) (hb : b < nw) : ∀ (n i : Nat) (fa fb : Int) (x6 x7 x8 x9 : Option sx_v), 201 - i < n → i ≤ 201 → (fa = 0 ∨ fa = 1) → (fb = 0 ∨ fb = 1) → (fa = 1 ↔ ez (fun q => (fI M a b ≤ q ∧ q ≤ lA M a b) ∧ pT M a (M 23 a) (M 24 a) q 0 * M (14 + b) 4 < pT M b (M 23 b) (M 24 b) q 0 * M (14 + a) 4) 0 (i : Int)) → (fb = 1 ↔ ez (fun q => (fI M a b ≤ q ∧ q ≤ lA M a b) ∧ pT M b (M 23 b) (M 24 b) q 0 * M (14 + a) 4 < pT M a (M 23 a) (M 24 a) q 0 * M (14 + b) 4) 0 (i : Int)) → sx_V y_M_crosses (4, 0, 0) L xs (0, 0) 37 [some (sx_p 51), some (.inl (a : Int)), some (.inl (b : Int)), some (.inl fa), some (.inl fb), some (.inl (i : Int)), x6, x7, x8, x9] [] (gm M3) (fun v h2 => ∃ z, v = some (.inl z) ∧ (z = 0 ∨ z = 1) ∧ (z = 1 ↔ (∃ q, fI M a b ≤ q ∧ q ≤ lA M a b ∧ pT M a (M 23 a) (M 24 a) q 0 * M (14 + b) 4 < pT M b (M 23 b) (M 24 b) q 0 * M (14 + a) 4) ∧ ∃ q, fI M a b ≤ q ∧ q ≤ lA M a b ∧ pT M b (M 23 b) (M 24 b) q 0 * M (14 + a) 4 < pT M a (M 23 a) (M 24 a) q 0 * M (14 + b) 4) ∧ ∃ M2, h2 = gm M2 ∧ mq M1 M2 ∧ IR M2) := by
  have w6 := hM.w6
  have c4 := hM.c4
  have b8 := hM.b8
  have r33 : 0 ≤ M 3 3 ∧ M 3 3 ≤ 200 := by (have := hM.dy.2.2.2; have := dy_le (dr M) 200; omega)
  obtain ⟨a1, a2, a3, a4, a5, a6⟩ := (hM.ws a ha).1
  obtain ⟨b1, b2, b3, b4, b5, b6⟩ := (hM.ws b hb).1
  have far : 0 ≤ fI M a b ∧ lA M a b ≤ 200 := by unfold fI lA; constructor <;> split <;> omega
  intro n
  induction n with
  | zero => intro i fa fb x6 x7 x8 x9 h1 h2; omega
  | succ n ih =>
    intro i fa fb x6 x7 x8 x9 hn hi hfa hfb hia hib
    refine sx_iload d_M_crosses_37 rfl ?_
    refine sx_sipush d_M_crosses_39 (by decide) ?_
    refine sx_icmp_ge (tgt := 177) d_M_crosses_42 (by decide) (by omega) ⟨by decide, by decide⟩ (fun c42_17 => ?_) (fun c42_17 => ?_)
    · refine sx_iload_n d_M_crosses_177 rfl ?_
      refine sx_if_eq (tgt := 190) d_M_crosses_178 (by decide) (by omega) (fun c178_19 => ?_) (fun c178_19 => ?_)
      · refine sx_iconst d_M_crosses_190 ?_
        refine sx_retI d_M_crosses_191 (Or.inr ⟨rfl, by first | exact Or.inl rfl | exact Or.inr rfl | omega⟩) ⟨Nat.zero_le _, Nat.zero_le _⟩ ?_
        refine ⟨_, rfl, by omega, ⟨fun k => by obtain ⟨q, a1, a2, a3, a4⟩ := hia.mp (by omega); obtain ⟨r, b1, b2, b3, b4⟩ := hib.mp (by omega); exact ⟨⟨q, a3.1, a3.2, a4⟩, ⟨r, b3.1, b3.2, b4⟩⟩, fun k => by obtain ⟨⟨q, a1, a2, a3⟩, ⟨r, b1, b2, b3⟩⟩ := k; have ka := hia.mpr ⟨q, by omega, by omega, ⟨a1, a2⟩, a3⟩; have kb := hib.mpr ⟨r, by omega, by omega, ⟨b1, b2⟩, b3⟩; omega⟩, ⟨M3, rfl, M3q, M3R⟩⟩
      · refine sx_iload d_M_crosses_181 rfl ?_
        refine sx_if_eq (tgt := 190) d_M_crosses_183 (by decide) (by omega) (fun c183_24 => ?_) (fun c183_24 => ?_)
        · refine sx_iconst d_M_crosses_190 ?_
          refine sx_retI d_M_crosses_191 (Or.inr ⟨rfl, by first | exact Or.inl rfl | exact Or.inr rfl | omega⟩) ⟨Nat.zero_le _, Nat.zero_le _⟩ ?_
          refine ⟨_, rfl, by omega, ⟨fun k => by obtain ⟨q, a1, a2, a3, a4⟩ := hia.mp (by omega); obtain ⟨r, b1, b2, b3, b4⟩ := hib.mp (by omega); exact ⟨⟨q, a3.1, a3.2, a4⟩, ⟨r, b3.1, b3.2, b4⟩⟩, fun k => by obtain ⟨⟨q, a1, a2, a3⟩, ⟨r, b1, b2, b3⟩⟩ := k; have ka := hia.mpr ⟨q, by omega, by omega, ⟨a1, a2⟩, a3⟩; have kb := hib.mpr ⟨r, by omega, by omega, ⟨b1, b2⟩, b3⟩; omega⟩, ⟨M3, rfl, M3q, M3R⟩⟩
        · refine sx_iconst d_M_crosses_186 ?_
          refine sx_goto (tgt := 191) d_M_crosses_187 (by decide) ?_
          refine sx_retI d_M_crosses_191 (Or.inr ⟨rfl, by first | exact Or.inl rfl | exact Or.inr rfl | omega⟩) ⟨Nat.zero_le _, Nat.zero_le _⟩ ?_
          refine ⟨_, rfl, by omega, ⟨fun k => by obtain ⟨q, a1, a2, a3, a4⟩ := hia.mp (by omega); obtain ⟨r, b1, b2, b3, b4⟩ := hib.mp (by omega); exact ⟨⟨q, a3.1, a3.2, a4⟩, ⟨r, b3.1, b3.2, b4⟩⟩, fun k => by obtain ⟨⟨q, a1, a2, a3⟩, ⟨r, b1, b2, b3⟩⟩ := k; have ka := hia.mpr ⟨q, by omega, by omega, ⟨a1, a2⟩, a3⟩; have kb := hib.mpr ⟨r, by omega, by omega, ⟨b1, b2⟩, b3⟩; omega⟩, ⟨M3, rfl, M3q, M3R⟩⟩
    · refine sx_iload d_M_crosses_45 rfl ?_
      refine sx_aload_n d_M_crosses_47 rfl ?_
      refine sx_getR (r := some (54)) d_M_crosses_48 fl_M_16 (go rfl rfl rfl) (by decide) (by decide) (by decide) rfl ?_
      refine sx_iload_n d_M_crosses_51 rfl ?_
      refine sx_iald (z := (M (14 + a) 2)) d_M_crosses_52 (go rfl rfl rfl) (by omega) (by omega) (by decide) ((M3s 54 a (by decide) (by decide) (by omega)).trans (hM.mfr a (by omega))) ?_
      refine sx_aload_n d_M_crosses_53 rfl ?_
      refine sx_getR (r := some (55)) d_M_crosses_54 fl_M_19 (go rfl rfl rfl) (by decide) (by decide) (by decide) rfl ?_
      refine sx_iload_n d_M_crosses_57 rfl ?_
      refine sx_iald (z := (M (14 + a) 3)) d_M_crosses_58 (go rfl rfl rfl) (by omega) (by omega) (by decide) ((M3s 55 a (by decide) (by decide) (by omega)).trans (hM.mto a (by omega))) ?_
      refine sx_callS (c_M_within M3 (i : Int) (M (14 + a) 2) (M (14 + a) 3) (by omega) (by omega) (by omega)) d_M_crosses_59 cd_M_within lk_M_103 st_M_within (st := []) rfl rfl (Nat.le_of_ble_eq_true rfl) ⟨by decide, Nat.le_refl _, Nat.le_refl _⟩ (fun _ _ hq => ?_)
      obtain ⟨z150, rfl, z150b, z150i, rfl⟩ := hq
      show sx_V _ _ _ _ (0, 0) _ _ [.inl z150] (gm M3) _
      refine sx_if_eq (tgt := 171) d_M_crosses_62 (by decide) (by omega) (fun c62_44 => ?_) (fun c62_44 => ?_)
      · refine sx_iinc (l' := [some (sx_p 51), some (.inl (a : Int)), some (.inl (b : Int)), some (.inl fa), some (.inl fb), some (.inl ((i : Int) + 1)), x6, x7, x8, x9]) d_M_crosses_171 rfl (by decide) rfl rfl ?_
        refine sx_goto (tgt := 37) d_M_crosses_174 (by decide) ?_
        have e1 : ((i : Int) + 1) = ((i + 1 : Nat) : Int) := by omega
        refine (show ∀ z : Int, z = (i : Int) + 1 → sx_V _ _ _ _ _ _ [_, _, _, _, _, some (.inl z), _, _, _, _] _ _ _ from fun z hz => ?_) _ rfl
        rw [hz, e1]
        exact ih (i + 1) fa fb _ _ _ _ (by omega) (by omega) (by omega) (by omega) (by rw [← e1]; exact ex_next (P := (fun q => (fI M a b ≤ q ∧ q ≤ lA M a b) ∧ pT M a (M 23 a) (M 24 a) q 0 * M (14 + b) 4 < pT M b (M 23 b) (M 24 b) q 0 * M (14 + a) 4)) (by omega) hia (by show _ ↔ _ ∨ ((fI M a b ≤ (i : Int) ∧ (i : Int) ≤ lA M a b) ∧ pT M a (M 23 a) (M 24 a) (i : Int) 0 * M (14 + b) 4 < pT M b (M 23 b) (M 24 b) (i : Int) 0 * M (14 + a) 4); have sh := @shr M a b (i : Int); omega)) (by rw [← e1]; exact ex_next (P := (fun q => (fI M a b ≤ q ∧ q ≤ lA M a b) ∧ pT M b (M 23 b) (M 24 b) q 0 * M (14 + a) 4 < pT M a (M 23 a) (M 24 a) q 0 * M (14 + b) 4)) (by omega) hib (by show _ ↔ _ ∨ ((fI M a b ≤ (i : Int) ∧ (i : Int) ≤ lA M a b) ∧ pT M b (M 23 b) (M 24 b) (i : Int) 0 * M (14 + a) 4 < pT M a (M 23 a) (M 24 a) (i : Int) 0 * M (14 + b) 4); have sh := @shr M a b (i : Int); omega))
      · refine sx_iload d_M_crosses_65 rfl ?_
        refine sx_aload_n d_M_crosses_67 rfl ?_
        refine sx_getR (r := some (54)) d_M_crosses_68 fl_M_16 (go rfl rfl rfl) (by decide) (by decide) (by decide) rfl ?_
        refine sx_iload_n d_M_crosses_71 rfl ?_
        refine sx_iald (z := (M (14 + b) 2)) d_M_crosses_72 (go rfl rfl rfl) (by omega) (by omega) (by decide) ((M3s 54 b (by decide) (by decide) (by omega)).trans (hM.mfr b (by omega))) ?_
        refine sx_aload_n d_M_crosses_73 rfl ?_
        refine sx_getR (r := some (55)) d_M_crosses_74 fl_M_19 (go rfl rfl rfl) (by decide) (by decide) (by decide) rfl ?_
        refine sx_iload_n d_M_crosses_77 rfl ?_
        refine sx_iald (z := (M (14 + b) 3)) d_M_crosses_78 (go rfl rfl rfl) (by omega) (by omega) (by decide) ((M3s 55 b (by decide) (by decide) (by omega)).trans (hM.mto b (by omega))) ?_
        refine sx_callS (c_M_within M3 (i : Int) (M (14 + b) 2) (M (14 + b) 3) (by omega) (by omega) (by omega)) d_M_crosses_79 cd_M_within lk_M_103 st_M_within (st := []) rfl rfl (Nat.le_of_ble_eq_true rfl) ⟨by decide, Nat.le_refl _, Nat.le_refl _⟩ (fun _ _ hq => ?_)
        obtain ⟨z151, rfl, z151b, z151i, rfl⟩ := hq
        show sx_V _ _ _ _ (0, 0) _ _ [.inl z151] (gm M3) _
        refine sx_if_eq (tgt := 171) d_M_crosses_82 (by decide) (by omega) (fun c82_63 => ?_) (fun c82_63 => ?_)
        · refine sx_iinc (l' := [some (sx_p 51), some (.inl (a : Int)), some (.inl (b : Int)), some (.inl fa), some (.inl fb), some (.inl ((i : Int) + 1)), x6, x7, x8, x9]) d_M_crosses_171 rfl (by decide) rfl rfl ?_
          refine sx_goto (tgt := 37) d_M_crosses_174 (by decide) ?_
          have e1 : ((i : Int) + 1) = ((i + 1 : Nat) : Int) := by omega
          refine (show ∀ z : Int, z = (i : Int) + 1 → sx_V _ _ _ _ _ _ [_, _, _, _, _, some (.inl z), _, _, _, _] _ _ _ from fun z hz => ?_) _ rfl
          rw [hz, e1]
          exact ih (i + 1) fa fb _ _ _ _ (by omega) (by omega) (by omega) (by omega) (by rw [← e1]; exact ex_next (P := (fun q => (fI M a b ≤ q ∧ q ≤ lA M a b) ∧ pT M a (M 23 a) (M 24 a) q 0 * M (14 + b) 4 < pT M b (M 23 b) (M 24 b) q 0 * M (14 + a) 4)) (by omega) hia (by show _ ↔ _ ∨ ((fI M a b ≤ (i : Int) ∧ (i : Int) ≤ lA M a b) ∧ pT M a (M 23 a) (M 24 a) (i : Int) 0 * M (14 + b) 4 < pT M b (M 23 b) (M 24 b) (i : Int) 0 * M (14 + a) 4); have sh := @shr M a b (i : Int); omega)) (by rw [← e1]; exact ex_next (P := (fun q => (fI M a b ≤ q ∧ q ≤ lA M a b) ∧ pT M b (M 23 b) (M 24 b) q 0 * M (14 + a) 4 < pT M a (M 23 a) (M 24 a) q 0 * M (14 + b) 4)) (by omega) hib (by show _ ↔ _ ∨ ((fI M a b ≤ (i : Int) ∧ (i : Int) ≤ lA M a b) ∧ pT M b (M 23 b) (M 24 b) (i : Int) 0 * M (14 + a) 4 < pT M a (M 23 a) (M 24 a) (i : Int) 0 * M (14 + b) 4); have sh := @shr M a b (i : Int); omega))
        · have pqa := pm_r (pT_r (hM.ws a (by omega)).1 (s := M 23 a) (d := M 24 a) (p := (i : Int)) (lv := 0) (by have := (hV a (by omega)).1; omega) (wx_in (hM.ws a (by omega)).1 (by omega) (by omega))) (hM.ws b (by omega)).1
          have pra := pT_r (hM.ws a (by omega)).1 (s := M 23 a) (d := M 24 a) (p := (i : Int)) (lv := 0) (by have := (hV a (by omega)).1; omega) (wx_in (hM.ws a (by omega)).1 (by omega) (by omega))
          have pqb := pm_r (pT_r (hM.ws b (by omega)).1 (s := M 23 b) (d := M 24 b) (p := (i : Int)) (lv := 0) (by have := (hV b (by omega)).1; omega) (wx_in (hM.ws b (by omega)).1 (by omega) (by omega))) (hM.ws a (by omega)).1
          have prb := pT_r (hM.ws b (by omega)).1 (s := M 23 b) (d := M 24 b) (p := (i : Int)) (lv := 0) (by have := (hV b (by omega)).1; omega) (wx_in (hM.ws b (by omega)).1 (by omega) (by omega))
          refine sx_aload_n d_M_crosses_85 rfl ?_
          refine sx_getR (r := some (75)) d_M_crosses_86 fl_M_80 (go rfl rfl rfl) (by decide) (by decide) (by decide) rfl ?_
          refine sx_sipush d_M_crosses_89 (by decide) ?_
          refine sx_iload_n d_M_crosses_92 rfl ?_
          refine sx_imul d_M_crosses_93 ?_
          refine sx_iload d_M_crosses_94 rfl ?_
          refine sx_iadd d_M_crosses_96 ?_
          refine sx_iald (z := (pT M a (M 23 a) (M 24 a) (i : Int) 0)) d_M_crosses_97 (go rfl rfl rfl) (by omega) (by omega) (by decide) (by show M3 75 (Int.toNat ((201 * (a : Int)) + (i : Int))) = _; rw [show (Int.toNat ((201 * (a : Int)) + (i : Int))) = 201 * a + ((i : Int)).toNat by omega]; exact ((hS a (by omega)).2.2.2 (i : Int) (by omega) (by omega)).1) ?_
          refine sx_i2l d_M_crosses_98 (by omega) ?_
          refine sx_aload_n d_M_crosses_99 rfl ?_
          refine sx_getR (r := some (56)) d_M_crosses_100 fl_M_22 (go rfl rfl rfl) (by decide) (by decide) (by decide) rfl ?_
          refine sx_iload_n d_M_crosses_103 rfl ?_
          refine sx_iald (z := (M (14 + b) 4)) d_M_crosses_104 (go rfl rfl rfl) (by omega) (by omega) (by decide) ((M3s 56 b (by decide) (by decide) (by omega)).trans (hM.msp b (by omega))) ?_
          refine sx_i2l d_M_crosses_105 (by omega) ?_
          refine sx_lmul d_M_crosses_106 ?_
          refine sx_lstore (l' := [some (sx_p 51), some (.inl (a : Int)), some (.inl (b : Int)), some (.inl fa), some (.inl fb), some (.inl (i : Int)), some (sx_l ((pT M a (M 23 a) (M 24 a) (i : Int) 0) * (M (14 + b) 4))), none, x8, x9]) d_M_crosses_107 (by decide) rfl rfl ?_
          refine sx_aload_n d_M_crosses_109 rfl ?_
          refine sx_getR (r := some (75)) d_M_crosses_110 fl_M_80 (go rfl rfl rfl) (by decide) (by decide) (by decide) rfl ?_
          refine sx_sipush d_M_crosses_113 (by decide) ?_
          refine sx_iload_n d_M_crosses_116 rfl ?_
          refine sx_imul d_M_crosses_117 ?_
          refine sx_iload d_M_crosses_118 rfl ?_
          refine sx_iadd d_M_crosses_120 ?_
          refine sx_iald (z := (pT M b (M 23 b) (M 24 b) (i : Int) 0)) d_M_crosses_121 (go rfl rfl rfl) (by omega) (by omega) (by decide) (by show M3 75 (Int.toNat ((201 * (b : Int)) + (i : Int))) = _; rw [show (Int.toNat ((201 * (b : Int)) + (i : Int))) = 201 * b + ((i : Int)).toNat by omega]; exact ((hS b (by omega)).2.2.2 (i : Int) (by omega) (by omega)).1) ?_
          refine sx_i2l d_M_crosses_122 (by omega) ?_
          refine sx_aload_n d_M_crosses_123 rfl ?_
          refine sx_getR (r := some (56)) d_M_crosses_124 fl_M_22 (go rfl rfl rfl) (by decide) (by decide) (by decide) rfl ?_
          refine sx_iload_n d_M_crosses_127 rfl ?_
          refine sx_iald (z := (M (14 + a) 4)) d_M_crosses_128 (go rfl rfl rfl) (by omega) (by omega) (by decide) ((M3s 56 a (by decide) (by decide) (by omega)).trans (hM.msp a (by omega))) ?_
          refine sx_i2l d_M_crosses_129 (by omega) ?_
          refine sx_lmul d_M_crosses_130 ?_
          refine sx_lstore (l' := [some (sx_p 51), some (.inl (a : Int)), some (.inl (b : Int)), some (.inl fa), some (.inl fb), some (.inl (i : Int)), some (sx_l ((pT M a (M 23 a) (M 24 a) (i : Int) 0) * (M (14 + b) 4))), none, some (sx_l ((pT M b (M 23 b) (M 24 b) (i : Int) 0) * (M (14 + a) 4))), none]) d_M_crosses_131 (by decide) rfl rfl ?_
          refine sx_iload_n d_M_crosses_133 rfl ?_
          refine sx_if_ne (tgt := 145) d_M_crosses_134 (by decide) (by omega) (fun c134_107 => ?_) (fun c134_107 => ?_)
          · refine sx_iconst d_M_crosses_145 ?_
            refine sx_goto (tgt := 150) d_M_crosses_146 (by decide) ?_
            refine sx_istore_n (l' := [some (sx_p 51), some (.inl (a : Int)), some (.inl (b : Int)), some (.inl 1), some (.inl fb), some (.inl (i : Int)), some (sx_l ((pT M a (M 23 a) (M 24 a) (i : Int) 0) * (M (14 + b) 4))), none, some (sx_l ((pT M b (M 23 b) (M 24 b) (i : Int) 0) * (M (14 + a) 4))), none]) d_M_crosses_150 (by decide) rfl rfl ?_
            refine sx_iload d_M_crosses_151 rfl ?_
            refine sx_if_ne (tgt := 164) d_M_crosses_153 (by decide) (by omega) (fun c153_112 => ?_) (fun c153_112 => ?_)
            · refine sx_iconst d_M_crosses_164 ?_
              refine sx_goto (tgt := 169) d_M_crosses_165 (by decide) ?_
              refine sx_istore (l' := [some (sx_p 51), some (.inl (a : Int)), some (.inl (b : Int)), some (.inl 1), some (.inl 1), some (.inl (i : Int)), some (sx_l ((pT M a (M 23 a) (M 24 a) (i : Int) 0) * (M (14 + b) 4))), none, some (sx_l ((pT M b (M 23 b) (M 24 b) (i : Int) 0) * (M (14 + a) 4))), none]) d_M_crosses_169 (by decide) rfl rfl ?_
              refine sx_iinc (l' := [some (sx_p 51), some (.inl (a : Int)), some (.inl (b : Int)), some (.inl 1), some (.inl 1), some (.inl ((i : Int) + 1)), some (sx_l ((pT M a (M 23 a) (M 24 a) (i : Int) 0) * (M (14 + b) 4))), none, some (sx_l ((pT M b (M 23 b) (M 24 b) (i : Int) 0) * (M (14 + a) 4))), none]) d_M_crosses_171 rfl (by decide) rfl rfl ?_
              refine sx_goto (tgt := 37) d_M_crosses_174 (by decide) ?_
              have e1 : ((i : Int) + 1) = ((i + 1 : Nat) : Int) := by omega
              refine (show ∀ z : Int, z = (i : Int) + 1 → sx_V _ _ _ _ _ _ [_, _, _, _, _, some (.inl z), _, _, _, _] _ _ _ from fun z hz => ?_) _ rfl
              rw [hz, e1]
              exact ih (i + 1) 1 1 _ _ _ _ (by omega) (by omega) (by omega) (by omega) (by rw [← e1]; exact ex_next (P := (fun q => (fI M a b ≤ q ∧ q ≤ lA M a b) ∧ pT M a (M 23 a) (M 24 a) q 0 * M (14 + b) 4 < pT M b (M 23 b) (M 24 b) q 0 * M (14 + a) 4)) (by omega) hia (by show _ ↔ _ ∨ ((fI M a b ≤ (i : Int) ∧ (i : Int) ≤ lA M a b) ∧ pT M a (M 23 a) (M 24 a) (i : Int) 0 * M (14 + b) 4 < pT M b (M 23 b) (M 24 b) (i : Int) 0 * M (14 + a) 4); have sh := @shr M a b (i : Int); omega)) (by rw [← e1]; exact ex_next (P := (fun q => (fI M a b ≤ q ∧ q ≤ lA M a b) ∧ pT M b (M 23 b) (M 24 b) q 0 * M (14 + a) 4 < pT M a (M 23 a) (M 24 a) q 0 * M (14 + b) 4)) (by omega) hib (by show _ ↔ _ ∨ ((fI M a b ≤ (i : Int) ∧ (i : Int) ≤ lA M a b) ∧ pT M b (M 23 b) (M 24 b) (i : Int) 0 * M (14 + a) 4 < pT M a (M 23 a) (M 24 a) (i : Int) 0 * M (14 + b) 4); have sh := @shr M a b (i : Int); omega))
            · refine sx_lload d_M_crosses_156 rfl ?_
              refine sx_lload d_M_crosses_158 rfl ?_
              refine sx_lcmp (w := if ((pT M b (M 23 b) (M 24 b) (i : Int) 0) * (M (14 + a) 4)) < ((pT M a (M 23 a) (M 24 a) (i : Int) 0) * (M (14 + b) 4)) then -1 else if ((pT M b (M 23 b) (M 24 b) (i : Int) 0) * (M (14 + a) 4)) = ((pT M a (M 23 a) (M 24 a) (i : Int) 0) * (M (14 + b) 4)) then 0 else 1) d_M_crosses_160 (by omega) (by omega) rfl ?_
              generalize hw124 : (if ((pT M b (M 23 b) (M 24 b) (i : Int) 0) * (M (14 + a) 4)) < ((pT M a (M 23 a) (M 24 a) (i : Int) 0) * (M (14 + b) 4)) then (-1 : Int) else if ((pT M b (M 23 b) (M 24 b) (i : Int) 0) * (M (14 + a) 4)) = ((pT M a (M 23 a) (M 24 a) (i : Int) 0) * (M (14 + b) 4)) then 0 else 1) = w124
              have w124r : -1 ≤ w124 ∧ w124 ≤ 1 ∧ (w124 < 0 ↔ ((pT M b (M 23 b) (M 24 b) (i : Int) 0) * (M (14 + a) 4)) < ((pT M a (M 23 a) (M 24 a) (i : Int) 0) * (M (14 + b) 4))) ∧ (0 < w124 ↔ ((pT M a (M 23 a) (M 24 a) (i : Int) 0) * (M (14 + b) 4)) < ((pT M b (M 23 b) (M 24 b) (i : Int) 0) * (M (14 + a) 4))) := by rw [← hw124]; exact lc_r _ _
              refine sx_if_ge (tgt := 168) d_M_crosses_161 (by decide) (by omega) (fun c161_127 => ?_) (fun c161_127 => ?_)
              · refine sx_iconst d_M_crosses_168 ?_
                refine sx_istore (l' := [some (sx_p 51), some (.inl (a : Int)), some (.inl (b : Int)), some (.inl 1), some (.inl 0), some (.inl (i : Int)), some (sx_l ((pT M a (M 23 a) (M 24 a) (i : Int) 0) * (M (14 + b) 4))), none, some (sx_l ((pT M b (M 23 b) (M 24 b) (i : Int) 0) * (M (14 + a) 4))), none]) d_M_crosses_169 (by decide) rfl rfl ?_
                refine sx_iinc (l' := [some (sx_p 51), some (.inl (a : Int)), some (.inl (b : Int)), some (.inl 1), some (.inl 0), some (.inl ((i : Int) + 1)), some (sx_l ((pT M a (M 23 a) (M 24 a) (i : Int) 0) * (M (14 + b) 4))), none, some (sx_l ((pT M b (M 23 b) (M 24 b) (i : Int) 0) * (M (14 + a) 4))), none]) d_M_crosses_171 rfl (by decide) rfl rfl ?_
                refine sx_goto (tgt := 37) d_M_crosses_174 (by decide) ?_
                have e1 : ((i : Int) + 1) = ((i + 1 : Nat) : Int) := by omega
                refine (show ∀ z : Int, z = (i : Int) + 1 → sx_V _ _ _ _ _ _ [_, _, _, _, _, some (.inl z), _, _, _, _] _ _ _ from fun z hz => ?_) _ rfl
                rw [hz, e1]
                exact ih (i + 1) 1 0 _ _ _ _ (by omega) (by omega) (by omega) (by omega) (by rw [← e1]; exact ex_next (P := (fun q => (fI M a b ≤ q ∧ q ≤ lA M a b) ∧ pT M a (M 23 a) (M 24 a) q 0 * M (14 + b) 4 < pT M b (M 23 b) (M 24 b) q 0 * M (14 + a) 4)) (by omega) hia (by show _ ↔ _ ∨ ((fI M a b ≤ (i : Int) ∧ (i : Int) ≤ lA M a b) ∧ pT M a (M 23 a) (M 24 a) (i : Int) 0 * M (14 + b) 4 < pT M b (M 23 b) (M 24 b) (i : Int) 0 * M (14 + a) 4); have sh := @shr M a b (i : Int); omega)) (by rw [← e1]; exact ex_next (P := (fun q => (fI M a b ≤ q ∧ q ≤ lA M a b) ∧ pT M b (M 23 b) (M 24 b) q 0 * M (14 + a) 4 < pT M a (M 23 a) (M 24 a) q 0 * M (14 + b) 4)) (by omega) hib (by show _ ↔ _ ∨ ((fI M a b ≤ (i : Int) ∧ (i : Int) ≤ lA M a b) ∧ pT M b (M 23 b) (M 24 b) (i : Int) 0 * M (14 + a) 4 < pT M a (M 23 a) (M 24 a) (i : Int) 0 * M (14 + b) 4); have sh := @shr M a b (i : Int); omega))
              · refine sx_iconst d_M_crosses_164 ?_
                refine sx_goto (tgt := 169) d_M_crosses_165 (by decide) ?_
                refine sx_istore (l' := [some (sx_p 51), some (.inl (a : Int)), some (.inl (b : Int)), some (.inl 1), some (.inl 1), some (.inl (i : Int)), some (sx_l ((pT M a (M 23 a) (M 24 a) (i : Int) 0) * (M (14 + b) 4))), none, some (sx_l ((pT M b (M 23 b) (M 24 b) (i : Int) 0) * (M (14 + a) 4))), none]) d_M_crosses_169 (by decide) rfl rfl ?_
                refine sx_iinc (l' := [some (sx_p 51), some (.inl (a : Int)), some (.inl (b : Int)), some (.inl 1), some (.inl 1), some (.inl ((i : Int) + 1)), some (sx_l ((pT M a (M 23 a) (M 24 a) (i : Int) 0) * (M (14 + b) 4))), none, some (sx_l ((pT M b (M 23 b) (M 24 b) (i : Int) 0) * (M (14 + a) 4))), none]) d_M_crosses_171 rfl (by decide) rfl rfl ?_
                refine sx_goto (tgt := 37) d_M_crosses_174 (by decide) ?_
                have e1 : ((i : Int) + 1) = ((i + 1 : Nat) : Int) := by omega
                refine (show ∀ z : Int, z = (i : Int) + 1 → sx_V _ _ _ _ _ _ [_, _, _, _, _, some (.inl z), _, _, _, _] _ _ _ from fun z hz => ?_) _ rfl
                rw [hz, e1]
                exact ih (i + 1) 1 1 _ _ _ _ (by omega) (by omega) (by omega) (by omega) (by rw [← e1]; exact ex_next (P := (fun q => (fI M a b ≤ q ∧ q ≤ lA M a b) ∧ pT M a (M 23 a) (M 24 a) q 0 * M (14 + b) 4 < pT M b (M 23 b) (M 24 b) q 0 * M (14 + a) 4)) (by omega) hia (by show _ ↔ _ ∨ ((fI M a b ≤ (i : Int) ∧ (i : Int) ≤ lA M a b) ∧ pT M a (M 23 a) (M 24 a) (i : Int) 0 * M (14 + b) 4 < pT M b (M 23 b) (M 24 b) (i : Int) 0 * M (14 + a) 4); have sh := @shr M a b (i : Int); omega)) (by rw [← e1]; exact ex_next (P := (fun q => (fI M a b ≤ q ∧ q ≤ lA M a b) ∧ pT M b (M 23 b) (M 24 b) q 0 * M (14 + a) 4 < pT M a (M 23 a) (M 24 a) q 0 * M (14 + b) 4)) (by omega) hib (by show _ ↔ _ ∨ ((fI M a b ≤ (i : Int) ∧ (i : Int) ≤ lA M a b) ∧ pT M b (M 23 b) (M 24 b) (i : Int) 0 * M (14 + a) 4 < pT M a (M 23 a) (M 24 a) (i : Int) 0 * M (14 + b) 4); have sh := @shr M a b (i : Int); omega))
          · refine sx_lload d_M_crosses_137 rfl ?_
            refine sx_lload d_M_crosses_139 rfl ?_
            refine sx_lcmp (w := if ((pT M a (M 23 a) (M 24 a) (i : Int) 0) * (M (14 + b) 4)) < ((pT M b (M 23 b) (M 24 b) (i : Int) 0) * (M (14 + a) 4)) then -1 else if ((pT M a (M 23 a) (M 24 a) (i : Int) 0) * (M (14 + b) 4)) = ((pT M b (M 23 b) (M 24 b) (i : Int) 0) * (M (14 + a) 4)) then 0 else 1) d_M_crosses_141 (by omega) (by omega) rfl ?_
            generalize hw147 : (if ((pT M a (M 23 a) (M 24 a) (i : Int) 0) * (M (14 + b) 4)) < ((pT M b (M 23 b) (M 24 b) (i : Int) 0) * (M (14 + a) 4)) then (-1 : Int) else if ((pT M a (M 23 a) (M 24 a) (i : Int) 0) * (M (14 + b) 4)) = ((pT M b (M 23 b) (M 24 b) (i : Int) 0) * (M (14 + a) 4)) then 0 else 1) = w147
            have w147r : -1 ≤ w147 ∧ w147 ≤ 1 ∧ (w147 < 0 ↔ ((pT M a (M 23 a) (M 24 a) (i : Int) 0) * (M (14 + b) 4)) < ((pT M b (M 23 b) (M 24 b) (i : Int) 0) * (M (14 + a) 4))) ∧ (0 < w147 ↔ ((pT M b (M 23 b) (M 24 b) (i : Int) 0) * (M (14 + a) 4)) < ((pT M a (M 23 a) (M 24 a) (i : Int) 0) * (M (14 + b) 4))) := by rw [← hw147]; exact lc_r _ _
            refine sx_if_ge (tgt := 149) d_M_crosses_142 (by decide) (by omega) (fun c142_150 => ?_) (fun c142_150 => ?_)
            · refine sx_iconst d_M_crosses_149 ?_
              refine sx_istore_n (l' := [some (sx_p 51), some (.inl (a : Int)), some (.inl (b : Int)), some (.inl 0), some (.inl fb), some (.inl (i : Int)), some (sx_l ((pT M a (M 23 a) (M 24 a) (i : Int) 0) * (M (14 + b) 4))), none, some (sx_l ((pT M b (M 23 b) (M 24 b) (i : Int) 0) * (M (14 + a) 4))), none]) d_M_crosses_150 (by decide) rfl rfl ?_
              refine sx_iload d_M_crosses_151 rfl ?_
              refine sx_if_ne (tgt := 164) d_M_crosses_153 (by decide) (by omega) (fun c153_154 => ?_) (fun c153_154 => ?_)
              · refine sx_iconst d_M_crosses_164 ?_
                refine sx_goto (tgt := 169) d_M_crosses_165 (by decide) ?_
                refine sx_istore (l' := [some (sx_p 51), some (.inl (a : Int)), some (.inl (b : Int)), some (.inl 0), some (.inl 1), some (.inl (i : Int)), some (sx_l ((pT M a (M 23 a) (M 24 a) (i : Int) 0) * (M (14 + b) 4))), none, some (sx_l ((pT M b (M 23 b) (M 24 b) (i : Int) 0) * (M (14 + a) 4))), none]) d_M_crosses_169 (by decide) rfl rfl ?_
                refine sx_iinc (l' := [some (sx_p 51), some (.inl (a : Int)), some (.inl (b : Int)), some (.inl 0), some (.inl 1), some (.inl ((i : Int) + 1)), some (sx_l ((pT M a (M 23 a) (M 24 a) (i : Int) 0) * (M (14 + b) 4))), none, some (sx_l ((pT M b (M 23 b) (M 24 b) (i : Int) 0) * (M (14 + a) 4))), none]) d_M_crosses_171 rfl (by decide) rfl rfl ?_
                refine sx_goto (tgt := 37) d_M_crosses_174 (by decide) ?_
                have e1 : ((i : Int) + 1) = ((i + 1 : Nat) : Int) := by omega
                refine (show ∀ z : Int, z = (i : Int) + 1 → sx_V _ _ _ _ _ _ [_, _, _, _, _, some (.inl z), _, _, _, _] _ _ _ from fun z hz => ?_) _ rfl
                rw [hz, e1]
                exact ih (i + 1) 0 1 _ _ _ _ (by omega) (by omega) (by omega) (by omega) (by rw [← e1]; exact ex_next (P := (fun q => (fI M a b ≤ q ∧ q ≤ lA M a b) ∧ pT M a (M 23 a) (M 24 a) q 0 * M (14 + b) 4 < pT M b (M 23 b) (M 24 b) q 0 * M (14 + a) 4)) (by omega) hia (by show _ ↔ _ ∨ ((fI M a b ≤ (i : Int) ∧ (i : Int) ≤ lA M a b) ∧ pT M a (M 23 a) (M 24 a) (i : Int) 0 * M (14 + b) 4 < pT M b (M 23 b) (M 24 b) (i : Int) 0 * M (14 + a) 4); have sh := @shr M a b (i : Int); omega)) (by rw [← e1]; exact ex_next (P := (fun q => (fI M a b ≤ q ∧ q ≤ lA M a b) ∧ pT M b (M 23 b) (M 24 b) q 0 * M (14 + a) 4 < pT M a (M 23 a) (M 24 a) q 0 * M (14 + b) 4)) (by omega) hib (by show _ ↔ _ ∨ ((fI M a b ≤ (i : Int) ∧ (i : Int) ≤ lA M a b) ∧ pT M b (M 23 b) (M 24 b) (i : Int) 0 * M (14 + a) 4 < pT M a (M 23 a) (M 24 a) (i : Int) 0 * M (14 + b) 4); have sh := @shr M a b (i : Int); omega))
              · refine sx_lload d_M_crosses_156 rfl ?_
                refine sx_lload d_M_crosses_158 rfl ?_
                refine sx_lcmp (w := if ((pT M b (M 23 b) (M 24 b) (i : Int) 0) * (M (14 + a) 4)) < ((pT M a (M 23 a) (M 24 a) (i : Int) 0) * (M (14 + b) 4)) then -1 else if ((pT M b (M 23 b) (M 24 b) (i : Int) 0) * (M (14 + a) 4)) = ((pT M a (M 23 a) (M 24 a) (i : Int) 0) * (M (14 + b) 4)) then 0 else 1) d_M_crosses_160 (by omega) (by omega) rfl ?_
                generalize hw166 : (if ((pT M b (M 23 b) (M 24 b) (i : Int) 0) * (M (14 + a) 4)) < ((pT M a (M 23 a) (M 24 a) (i : Int) 0) * (M (14 + b) 4)) then (-1 : Int) else if ((pT M b (M 23 b) (M 24 b) (i : Int) 0) * (M (14 + a) 4)) = ((pT M a (M 23 a) (M 24 a) (i : Int) 0) * (M (14 + b) 4)) then 0 else 1) = w166
                have w166r : -1 ≤ w166 ∧ w166 ≤ 1 ∧ (w166 < 0 ↔ ((pT M b (M 23 b) (M 24 b) (i : Int) 0) * (M (14 + a) 4)) < ((pT M a (M 23 a) (M 24 a) (i : Int) 0) * (M (14 + b) 4))) ∧ (0 < w166 ↔ ((pT M a (M 23 a) (M 24 a) (i : Int) 0) * (M (14 + b) 4)) < ((pT M b (M 23 b) (M 24 b) (i : Int) 0) * (M (14 + a) 4))) := by rw [← hw166]; exact lc_r _ _
                refine sx_if_ge (tgt := 168) d_M_crosses_161 (by decide) (by omega) (fun c161_169 => ?_) (fun c161_169 => ?_)
                · refine sx_iconst d_M_crosses_168 ?_
                  refine sx_istore (l' := [some (sx_p 51), some (.inl (a : Int)), some (.inl (b : Int)), some (.inl 0), some (.inl 0), some (.inl (i : Int)), some (sx_l ((pT M a (M 23 a) (M 24 a) (i : Int) 0) * (M (14 + b) 4))), none, some (sx_l ((pT M b (M 23 b) (M 24 b) (i : Int) 0) * (M (14 + a) 4))), none]) d_M_crosses_169 (by decide) rfl rfl ?_
                  refine sx_iinc (l' := [some (sx_p 51), some (.inl (a : Int)), some (.inl (b : Int)), some (.inl 0), some (.inl 0), some (.inl ((i : Int) + 1)), some (sx_l ((pT M a (M 23 a) (M 24 a) (i : Int) 0) * (M (14 + b) 4))), none, some (sx_l ((pT M b (M 23 b) (M 24 b) (i : Int) 0) * (M (14 + a) 4))), none]) d_M_crosses_171 rfl (by decide) rfl rfl ?_
                  refine sx_goto (tgt := 37) d_M_crosses_174 (by decide) ?_
                  have e1 : ((i : Int) + 1) = ((i + 1 : Nat) : Int) := by omega
                  refine (show ∀ z : Int, z = (i : Int) + 1 → sx_V _ _ _ _ _ _ [_, _, _, _, _, some (.inl z), _, _, _, _] _ _ _ from fun z hz => ?_) _ rfl
                  rw [hz, e1]
                  exact ih (i + 1) 0 0 _ _ _ _ (by omega) (by omega) (by omega) (by omega) (by rw [← e1]; exact ex_next (P := (fun q => (fI M a b ≤ q ∧ q ≤ lA M a b) ∧ pT M a (M 23 a) (M 24 a) q 0 * M (14 + b) 4 < pT M b (M 23 b) (M 24 b) q 0 * M (14 + a) 4)) (by omega) hia (by show _ ↔ _ ∨ ((fI M a b ≤ (i : Int) ∧ (i : Int) ≤ lA M a b) ∧ pT M a (M 23 a) (M 24 a) (i : Int) 0 * M (14 + b) 4 < pT M b (M 23 b) (M 24 b) (i : Int) 0 * M (14 + a) 4); have sh := @shr M a b (i : Int); omega)) (by rw [← e1]; exact ex_next (P := (fun q => (fI M a b ≤ q ∧ q ≤ lA M a b) ∧ pT M b (M 23 b) (M 24 b) q 0 * M (14 + a) 4 < pT M a (M 23 a) (M 24 a) q 0 * M (14 + b) 4)) (by omega) hib (by show _ ↔ _ ∨ ((fI M a b ≤ (i : Int) ∧ (i : Int) ≤ lA M a b) ∧ pT M b (M 23 b) (M 24 b) (i : Int) 0 * M (14 + a) 4 < pT M a (M 23 a) (M 24 a) (i : Int) 0 * M (14 + b) 4); have sh := @shr M a b (i : Int); omega))
                · refine sx_iconst d_M_crosses_164 ?_
                  refine sx_goto (tgt := 169) d_M_crosses_165 (by decide) ?_
                  refine sx_istore (l' := [some (sx_p 51), some (.inl (a : Int)), some (.inl (b : Int)), some (.inl 0), some (.inl 1), some (.inl (i : Int)), some (sx_l ((pT M a (M 23 a) (M 24 a) (i : Int) 0) * (M (14 + b) 4))), none, some (sx_l ((pT M b (M 23 b) (M 24 b) (i : Int) 0) * (M (14 + a) 4))), none]) d_M_crosses_169 (by decide) rfl rfl ?_
                  refine sx_iinc (l' := [some (sx_p 51), some (.inl (a : Int)), some (.inl (b : Int)), some (.inl 0), some (.inl 1), some (.inl ((i : Int) + 1)), some (sx_l ((pT M a (M 23 a) (M 24 a) (i : Int) 0) * (M (14 + b) 4))), none, some (sx_l ((pT M b (M 23 b) (M 24 b) (i : Int) 0) * (M (14 + a) 4))), none]) d_M_crosses_171 rfl (by decide) rfl rfl ?_
                  refine sx_goto (tgt := 37) d_M_crosses_174 (by decide) ?_
                  have e1 : ((i : Int) + 1) = ((i + 1 : Nat) : Int) := by omega
                  refine (show ∀ z : Int, z = (i : Int) + 1 → sx_V _ _ _ _ _ _ [_, _, _, _, _, some (.inl z), _, _, _, _] _ _ _ from fun z hz => ?_) _ rfl
                  rw [hz, e1]
                  exact ih (i + 1) 0 1 _ _ _ _ (by omega) (by omega) (by omega) (by omega) (by rw [← e1]; exact ex_next (P := (fun q => (fI M a b ≤ q ∧ q ≤ lA M a b) ∧ pT M a (M 23 a) (M 24 a) q 0 * M (14 + b) 4 < pT M b (M 23 b) (M 24 b) q 0 * M (14 + a) 4)) (by omega) hia (by show _ ↔ _ ∨ ((fI M a b ≤ (i : Int) ∧ (i : Int) ≤ lA M a b) ∧ pT M a (M 23 a) (M 24 a) (i : Int) 0 * M (14 + b) 4 < pT M b (M 23 b) (M 24 b) (i : Int) 0 * M (14 + a) 4); have sh := @shr M a b (i : Int); omega)) (by rw [← e1]; exact ex_next (P := (fun q => (fI M a b ≤ q ∧ q ≤ lA M a b) ∧ pT M b (M 23 b) (M 24 b) q 0 * M (14 + a) 4 < pT M a (M 23 a) (M 24 a) q 0 * M (14 + b) 4)) (by omega) hib (by show _ ↔ _ ∨ ((fI M a b ≤ (i : Int) ∧ (i : Int) ≤ lA M a b) ∧ pT M b (M 23 b) (M 24 b) (i : Int) 0 * M (14 + a) 4 < pT M a (M 23 a) (M 24 a) (i : Int) 0 * M (14 + b) 4); have sh := @shr M a b (i : Int); omega))
            · refine sx_iconst d_M_crosses_145 ?_
              refine sx_goto (tgt := 150) d_M_crosses_146 (by decide) ?_
              refine sx_istore_n (l' := [some (sx_p 51), some (.inl (a : Int)), some (.inl (b : Int)), some (.inl 1), some (.inl fb), some (.inl (i : Int)), some (sx_l ((pT M a (M 23 a) (M 24 a) (i : Int) 0) * (M (14 + b) 4))), none, some (sx_l ((pT M b (M 23 b) (M 24 b) (i : Int) 0) * (M (14 + a) 4))), none]) d_M_crosses_150 (by decide) rfl rfl ?_
              refine sx_iload d_M_crosses_151 rfl ?_
              refine sx_if_ne (tgt := 164) d_M_crosses_153 (by decide) (by omega) (fun c153_191 => ?_) (fun c153_191 => ?_)
              · refine sx_iconst d_M_crosses_164 ?_
                refine sx_goto (tgt := 169) d_M_crosses_165 (by decide) ?_
                refine sx_istore (l' := [some (sx_p 51), some (.inl (a : Int)), some (.inl (b : Int)), some (.inl 1), some (.inl 1), some (.inl (i : Int)), some (sx_l ((pT M a (M 23 a) (M 24 a) (i : Int) 0) * (M (14 + b) 4))), none, some (sx_l ((pT M b (M 23 b) (M 24 b) (i : Int) 0) * (M (14 + a) 4))), none]) d_M_crosses_169 (by decide) rfl rfl ?_
                refine sx_iinc (l' := [some (sx_p 51), some (.inl (a : Int)), some (.inl (b : Int)), some (.inl 1), some (.inl 1), some (.inl ((i : Int) + 1)), some (sx_l ((pT M a (M 23 a) (M 24 a) (i : Int) 0) * (M (14 + b) 4))), none, some (sx_l ((pT M b (M 23 b) (M 24 b) (i : Int) 0) * (M (14 + a) 4))), none]) d_M_crosses_171 rfl (by decide) rfl rfl ?_
                refine sx_goto (tgt := 37) d_M_crosses_174 (by decide) ?_
                have e1 : ((i : Int) + 1) = ((i + 1 : Nat) : Int) := by omega
                refine (show ∀ z : Int, z = (i : Int) + 1 → sx_V _ _ _ _ _ _ [_, _, _, _, _, some (.inl z), _, _, _, _] _ _ _ from fun z hz => ?_) _ rfl
                rw [hz, e1]
                exact ih (i + 1) 1 1 _ _ _ _ (by omega) (by omega) (by omega) (by omega) (by rw [← e1]; exact ex_next (P := (fun q => (fI M a b ≤ q ∧ q ≤ lA M a b) ∧ pT M a (M 23 a) (M 24 a) q 0 * M (14 + b) 4 < pT M b (M 23 b) (M 24 b) q 0 * M (14 + a) 4)) (by omega) hia (by show _ ↔ _ ∨ ((fI M a b ≤ (i : Int) ∧ (i : Int) ≤ lA M a b) ∧ pT M a (M 23 a) (M 24 a) (i : Int) 0 * M (14 + b) 4 < pT M b (M 23 b) (M 24 b) (i : Int) 0 * M (14 + a) 4); have sh := @shr M a b (i : Int); omega)) (by rw [← e1]; exact ex_next (P := (fun q => (fI M a b ≤ q ∧ q ≤ lA M a b) ∧ pT M b (M 23 b) (M 24 b) q 0 * M (14 + a) 4 < pT M a (M 23 a) (M 24 a) q 0 * M (14 + b) 4)) (by omega) hib (by show _ ↔ _ ∨ ((fI M a b ≤ (i : Int) ∧ (i : Int) ≤ lA M a b) ∧ pT M b (M 23 b) (M 24 b) (i : Int) 0 * M (14 + a) 4 < pT M a (M 23 a) (M 24 a) (i : Int) 0 * M (14 + b) 4); have sh := @shr M a b (i : Int); omega))
              · refine sx_lload d_M_crosses_156 rfl ?_
                refine sx_lload d_M_crosses_158 rfl ?_
                refine sx_lcmp (w := if ((pT M b (M 23 b) (M 24 b) (i : Int) 0) * (M (14 + a) 4)) < ((pT M a (M 23 a) (M 24 a) (i : Int) 0) * (M (14 + b) 4)) then -1 else if ((pT M b (M 23 b) (M 24 b) (i : Int) 0) * (M (14 + a) 4)) = ((pT M a (M 23 a) (M 24 a) (i : Int) 0) * (M (14 + b) 4)) then 0 else 1) d_M_crosses_160 (by omega) (by omega) rfl ?_
                generalize hw203 : (if ((pT M b (M 23 b) (M 24 b) (i : Int) 0) * (M (14 + a) 4)) < ((pT M a (M 23 a) (M 24 a) (i : Int) 0) * (M (14 + b) 4)) then (-1 : Int) else if ((pT M b (M 23 b) (M 24 b) (i : Int) 0) * (M (14 + a) 4)) = ((pT M a (M 23 a) (M 24 a) (i : Int) 0) * (M (14 + b) 4)) then 0 else 1) = w203
                have w203r : -1 ≤ w203 ∧ w203 ≤ 1 ∧ (w203 < 0 ↔ ((pT M b (M 23 b) (M 24 b) (i : Int) 0) * (M (14 + a) 4)) < ((pT M a (M 23 a) (M 24 a) (i : Int) 0) * (M (14 + b) 4))) ∧ (0 < w203 ↔ ((pT M a (M 23 a) (M 24 a) (i : Int) 0) * (M (14 + b) 4)) < ((pT M b (M 23 b) (M 24 b) (i : Int) 0) * (M (14 + a) 4))) := by rw [← hw203]; exact lc_r _ _
                refine sx_if_ge (tgt := 168) d_M_crosses_161 (by decide) (by omega) (fun c161_206 => ?_) (fun c161_206 => ?_)
                · refine sx_iconst d_M_crosses_168 ?_
                  refine sx_istore (l' := [some (sx_p 51), some (.inl (a : Int)), some (.inl (b : Int)), some (.inl 1), some (.inl 0), some (.inl (i : Int)), some (sx_l ((pT M a (M 23 a) (M 24 a) (i : Int) 0) * (M (14 + b) 4))), none, some (sx_l ((pT M b (M 23 b) (M 24 b) (i : Int) 0) * (M (14 + a) 4))), none]) d_M_crosses_169 (by decide) rfl rfl ?_
                  refine sx_iinc (l' := [some (sx_p 51), some (.inl (a : Int)), some (.inl (b : Int)), some (.inl 1), some (.inl 0), some (.inl ((i : Int) + 1)), some (sx_l ((pT M a (M 23 a) (M 24 a) (i : Int) 0) * (M (14 + b) 4))), none, some (sx_l ((pT M b (M 23 b) (M 24 b) (i : Int) 0) * (M (14 + a) 4))), none]) d_M_crosses_171 rfl (by decide) rfl rfl ?_
                  refine sx_goto (tgt := 37) d_M_crosses_174 (by decide) ?_
                  have e1 : ((i : Int) + 1) = ((i + 1 : Nat) : Int) := by omega
                  refine (show ∀ z : Int, z = (i : Int) + 1 → sx_V _ _ _ _ _ _ [_, _, _, _, _, some (.inl z), _, _, _, _] _ _ _ from fun z hz => ?_) _ rfl
                  rw [hz, e1]
                  exact ih (i + 1) 1 0 _ _ _ _ (by omega) (by omega) (by omega) (by omega) (by rw [← e1]; exact ex_next (P := (fun q => (fI M a b ≤ q ∧ q ≤ lA M a b) ∧ pT M a (M 23 a) (M 24 a) q 0 * M (14 + b) 4 < pT M b (M 23 b) (M 24 b) q 0 * M (14 + a) 4)) (by omega) hia (by show _ ↔ _ ∨ ((fI M a b ≤ (i : Int) ∧ (i : Int) ≤ lA M a b) ∧ pT M a (M 23 a) (M 24 a) (i : Int) 0 * M (14 + b) 4 < pT M b (M 23 b) (M 24 b) (i : Int) 0 * M (14 + a) 4); have sh := @shr M a b (i : Int); omega)) (by rw [← e1]; exact ex_next (P := (fun q => (fI M a b ≤ q ∧ q ≤ lA M a b) ∧ pT M b (M 23 b) (M 24 b) q 0 * M (14 + a) 4 < pT M a (M 23 a) (M 24 a) q 0 * M (14 + b) 4)) (by omega) hib (by show _ ↔ _ ∨ ((fI M a b ≤ (i : Int) ∧ (i : Int) ≤ lA M a b) ∧ pT M b (M 23 b) (M 24 b) (i : Int) 0 * M (14 + a) 4 < pT M a (M 23 a) (M 24 a) (i : Int) 0 * M (14 + b) 4); have sh := @shr M a b (i : Int); omega))
                · refine sx_iconst d_M_crosses_164 ?_
                  refine sx_goto (tgt := 169) d_M_crosses_165 (by decide) ?_
                  refine sx_istore (l' := [some (sx_p 51), some (.inl (a : Int)), some (.inl (b : Int)), some (.inl 1), some (.inl 1), some (.inl (i : Int)), some (sx_l ((pT M a (M 23 a) (M 24 a) (i : Int) 0) * (M (14 + b) 4))), none, some (sx_l ((pT M b (M 23 b) (M 24 b) (i : Int) 0) * (M (14 + a) 4))), none]) d_M_crosses_169 (by decide) rfl rfl ?_
                  refine sx_iinc (l' := [some (sx_p 51), some (.inl (a : Int)), some (.inl (b : Int)), some (.inl 1), some (.inl 1), some (.inl ((i : Int) + 1)), some (sx_l ((pT M a (M 23 a) (M 24 a) (i : Int) 0) * (M (14 + b) 4))), none, some (sx_l ((pT M b (M 23 b) (M 24 b) (i : Int) 0) * (M (14 + a) 4))), none]) d_M_crosses_171 rfl (by decide) rfl rfl ?_
                  refine sx_goto (tgt := 37) d_M_crosses_174 (by decide) ?_
                  have e1 : ((i : Int) + 1) = ((i + 1 : Nat) : Int) := by omega
                  refine (show ∀ z : Int, z = (i : Int) + 1 → sx_V _ _ _ _ _ _ [_, _, _, _, _, some (.inl z), _, _, _, _] _ _ _ from fun z hz => ?_) _ rfl
                  rw [hz, e1]
                  exact ih (i + 1) 1 1 _ _ _ _ (by omega) (by omega) (by omega) (by omega) (by rw [← e1]; exact ex_next (P := (fun q => (fI M a b ≤ q ∧ q ≤ lA M a b) ∧ pT M a (M 23 a) (M 24 a) q 0 * M (14 + b) 4 < pT M b (M 23 b) (M 24 b) q 0 * M (14 + a) 4)) (by omega) hia (by show _ ↔ _ ∨ ((fI M a b ≤ (i : Int) ∧ (i : Int) ≤ lA M a b) ∧ pT M a (M 23 a) (M 24 a) (i : Int) 0 * M (14 + b) 4 < pT M b (M 23 b) (M 24 b) (i : Int) 0 * M (14 + a) 4); have sh := @shr M a b (i : Int); omega)) (by rw [← e1]; exact ex_next (P := (fun q => (fI M a b ≤ q ∧ q ≤ lA M a b) ∧ pT M b (M 23 b) (M 24 b) q 0 * M (14 + a) 4 < pT M a (M 23 a) (M 24 a) q 0 * M (14 + b) 4)) (by omega) hib (by show _ ↔ _ ∨ ((fI M a b ≤ (i : Int) ∧ (i : Int) ≤ lA M a b) ∧ pT M b (M 23 b) (M 24 b) (i : Int) 0 * M (14 + a) 4 < pT M a (M 23 a) (M 24 a) (i : Int) 0 * M (14 + b) 4); have sh := @shr M a b (i : Int); omega))
set_option maxRecDepth 100000 in
set_option maxHeartbeats 4000000 in
theorem m_crosses_ok {L : Nat} {xs : Nat → Int32} (M : Nat → Nat → Int) (nc nw nb : Nat) (hM : MR M nc nw nb) (M1 : Nat → Nat → Int) (M1s : sf M M1) (M1R : IR M1) (h7 : M 1 7 ≠ 0) (a b : Nat) (ha : a < nw) (hb : b < nw) : sx_R y_M_crosses (4, 0, 0) L xs [sx_p 51, .inl (a : Int), .inl (b : Int)] (gm M1) (fun v h2 => ∃ z, v = some (.inl z) ∧ (z = 0 ∨ z = 1) ∧ (z = 1 ↔ (∃ q, fI M a b ≤ q ∧ q ≤ lA M a b ∧ pT M a (M 23 a) (M 24 a) q 0 * M (14 + b) 4 < pT M b (M 23 b) (M 24 b) q 0 * M (14 + a) 4) ∧ ∃ q, fI M a b ≤ q ∧ q ≤ lA M a b ∧ pT M b (M 23 b) (M 24 b) q 0 * M (14 + a) 4 < pT M a (M 23 a) (M 24 a) q 0 * M (14 + b) 4) ∧ ∃ M2, h2 = gm M2 ∧ mq M1 M2 ∧ IR M2) := by
  have w6 := hM.w6
  have c4 := hM.c4
  have b8 := hM.b8
  have r33 : 0 ≤ M 3 3 ∧ M 3 3 ≤ 200 := by (have := hM.dy.2.2.2; have := dy_le (dr M) 200; omega)
  refine sx_enter rfl (Nat.le_of_ble_eq_true rfl) rfl ?_
  show sx_V y_M_crosses (4, 0, 0) L xs (0, 0) 0 [some (sx_p 51), some (.inl (a : Int)), some (.inl (b : Int)), none, none, none, none, none, none, none] [] (gm M1) _
  refine sx_aload_n d_M_crosses_0 rfl ?_
  refine sx_getI (z := (M 1 7)) d_M_crosses_1 fl_M_99 (go rfl rfl rfl) (by decide) (by decide) (by decide) ((M1s 51 19 (by decide) (by decide) (by omega)).trans hM.mha) ?_
  refine sx_if_eq (tgt := 23) d_M_crosses_4 (by decide) (by first | omega | exact hM.ir _ _) (fun c4_11 => ?_) (fun c4_11 => ?_)
  · omega
  · refine sx_aload_n d_M_crosses_7 rfl ?_
    refine sx_iload_n d_M_crosses_8 rfl ?_
    refine sx_callV (c_M_isWork M nc nw nb hM M1 M1s (a : Int) (by omega)) d_M_crosses_9 cd_M_isWork lk_M_113 im_M_isWork se_M_isWork (go rfl rfl rfl) rfl rfl (by decide) (st := []) rfl rfl (Nat.le_of_ble_eq_true rfl) ⟨by decide, Nat.le_refl _, Nat.le_refl _⟩ (fun _ _ hq => ?_)
    obtain ⟨z152, rfl, z152b, z152i, rfl⟩ := hq
    show sx_V _ _ _ _ (0, 0) _ _ [.inl z152] (gm M1) _
    refine sx_if_eq (tgt := 23) d_M_crosses_12 (by decide) (by first | omega | exact hM.ir _ _) (fun c12_18 => ?_) (fun c12_18 => ?_)
    · omega
    · refine sx_aload_n d_M_crosses_15 rfl ?_
      refine sx_iload_n d_M_crosses_16 rfl ?_
      refine sx_callV (c_M_isWork M nc nw nb hM M1 M1s (b : Int) (by omega)) d_M_crosses_17 cd_M_isWork lk_M_113 im_M_isWork se_M_isWork (go rfl rfl rfl) rfl rfl (by decide) (st := []) rfl rfl (Nat.le_of_ble_eq_true rfl) ⟨by decide, Nat.le_refl _, Nat.le_refl _⟩ (fun _ _ hq => ?_)
      obtain ⟨z153, rfl, z153b, z153i, rfl⟩ := hq
      show sx_V _ _ _ _ (0, 0) _ _ [.inl z153] (gm M1) _
      refine sx_if_ne (tgt := 25) d_M_crosses_20 (by decide) (by first | omega | exact hM.ir _ _) (fun c20_25 => ?_) (fun c20_25 => ?_)
      · refine sx_aload_n d_M_crosses_25 rfl ?_
        refine sx_callV (c_M_lp M nc nw nb hM M1 M1s M1R h7) d_M_crosses_26 cd_M_layPlan lk_M_191 im_M_layPlan se_M_layPlan (go rfl rfl rfl) rfl rfl (by decide) (st := []) rfl rfl (Nat.le_of_ble_eq_true rfl) ⟨by decide, Nat.le_refl _, Nat.le_refl _⟩ (fun _ _ hq => ?_)
        obtain ⟨rfl, M3, rfl, M3q, M3s, M3R, hS⟩ := hq
        have hV := hM.VS h7
        show sx_V _ _ _ _ (0, 0) _ _ [] (gm M3) _
        refine sx_iconst d_M_crosses_29 ?_
        refine sx_istore_n (l' := [some (sx_p 51), some (.inl (a : Int)), some (.inl (b : Int)), some (.inl 0), none, none, none, none, none, none]) d_M_crosses_30 (by decide) rfl rfl ?_
        refine sx_iconst d_M_crosses_31 ?_
        refine sx_istore (l' := [some (sx_p 51), some (.inl (a : Int)), some (.inl (b : Int)), some (.inl 0), some (.inl 0), none, none, none, none, none]) d_M_crosses_32 (by decide) rfl rfl ?_
        refine sx_iconst d_M_crosses_34 ?_
        refine sx_istore (l' := [some (sx_p 51), some (.inl (a : Int)), some (.inl (b : Int)), some (.inl 0), some (.inl 0), some (.inl 0), none, none, none, none]) d_M_crosses_35 (by decide) rfl rfl ?_
        refine l_M_crosses M nc nw nb hM M1 M1s M1R M3 M3q M3s M3R hS hV a b ha hb 202 0 0 0 none none none none (by omega) (by omega) (Or.inl rfl) (Or.inl rfl) ⟨fun k => absurd k (by decide), ?_⟩ ⟨fun k => absurd k (by decide), ?_⟩
        · rintro ⟨q, k1, k2, k3⟩; omega
        · rintro ⟨q, k1, k2, k3⟩; omega
      · omega
set_option maxRecDepth 100000 in
set_option maxHeartbeats 4000000 in
theorem c_M_do {L : Nat} {xs : Nat → Int32} (M : Nat → Nat → Int) (nc nw nb : Nat) (hM : MR M nc nw nb) (M1 : Nat → Nat → Int) (M1s : sf M M1) (M1R : IR M1) (w : Nat) (hw : w < nw) : sx_R y_M_daysOf (0, 0, 0) L xs [sx_p 51, .inl (w : Int)] (gm M1) (fun v h2 => v = some (.inl (M (14 + w) 5)) ∧ h2 = gm M1) := by
  have w6 := hM.w6
  have c4 := hM.c4
  have b8 := hM.b8
  have r33 : 0 ≤ M 3 3 ∧ M 3 3 ≤ 200 := by (have := hM.dy.2.2.2; have := dy_le (dr M) 200; omega)
  obtain ⟨a1, a2, a3, a4, a5, a6⟩ := (hM.ws w hw).1
  refine sx_enter rfl (Nat.le_of_ble_eq_true rfl) rfl ?_
  show sx_V y_M_daysOf (0, 0, 0) L xs (0, 0) 0 [some (sx_p 51), some (.inl (w : Int))] [] (gm M1) _
  refine sx_aload_n d_M_daysOf_0 rfl ?_
  refine sx_getR (r := some (55)) d_M_daysOf_1 fl_M_19 (go rfl rfl rfl) (by decide) (by decide) (by decide) rfl ?_
  refine sx_iload_n d_M_daysOf_4 rfl ?_
  refine sx_iald (z := (M (14 + w) 3)) d_M_daysOf_5 (go rfl rfl rfl) (by omega) (by omega) (by decide) ((M1s 55 w (by decide) (by decide) (by omega)).trans (hM.mto w (by omega))) ?_
  refine sx_aload_n d_M_daysOf_6 rfl ?_
  refine sx_getR (r := some (54)) d_M_daysOf_7 fl_M_16 (go rfl rfl rfl) (by decide) (by decide) (by decide) rfl ?_
  refine sx_iload_n d_M_daysOf_10 rfl ?_
  refine sx_iald (z := (M (14 + w) 2)) d_M_daysOf_11 (go rfl rfl rfl) (by omega) (by omega) (by decide) ((M1s 54 w (by decide) (by decide) (by omega)).trans (hM.mfr w (by omega))) ?_
  refine sx_isub d_M_daysOf_12 ?_
  refine sx_aload_n d_M_daysOf_13 rfl ?_
  refine sx_getR (r := some (56)) d_M_daysOf_14 fl_M_22 (go rfl rfl rfl) (by decide) (by decide) (by decide) rfl ?_
  refine sx_iload_n d_M_daysOf_17 rfl ?_
  refine sx_iald (z := (M (14 + w) 4)) d_M_daysOf_18 (go rfl rfl rfl) (by omega) (by omega) (by decide) ((M1s 56 w (by decide) (by decide) (by omega)).trans (hM.msp w (by omega))) ?_
  refine sx_iadd d_M_daysOf_19 ?_
  refine sx_iconst d_M_daysOf_20 ?_
  refine sx_isub d_M_daysOf_21 ?_
  refine sx_aload_n d_M_daysOf_22 rfl ?_
  refine sx_getR (r := some (56)) d_M_daysOf_23 fl_M_22 (go rfl rfl rfl) (by decide) (by decide) (by decide) rfl ?_
  refine sx_iload_n d_M_daysOf_26 rfl ?_
  refine sx_iald (z := (M (14 + w) 4)) d_M_daysOf_27 (go rfl rfl rfl) (by omega) (by omega) (by decide) ((M1s 56 w (by decide) (by decide) (by omega)).trans (hM.msp w (by omega))) ?_
  refine sx_idiv d_M_daysOf_28 (by omega) (by omega) (by omega) ?_
  refine sx_retI d_M_daysOf_29 (Or.inl rfl) ⟨Nat.zero_le _, Nat.zero_le _⟩ ?_
  refine ⟨?_, rfl⟩
  rw [a6, Int.tdiv_eq_ediv_of_nonneg (by omega)]
set_option maxRecDepth 100000 in
set_option maxHeartbeats 4000000 in
theorem l_M_bd1 {L : Nat} {xs : Nat → Int32} (M : Nat → Nat → Int) (nc nw nb : Nat) (hM : MR M nc nw nb) (M1 : Nat → Nat → Int) (M1s : sf M M1) (M1R : IR M1) (gr : Int) (c : Nat) (post : Option sx_v → sx_h → Prop) (hc : sx_V y_M_bound (1, 0, 0) L xs (0, 0) 56 [some (sx_p 51), some (.inl gr), some (.inl (c : Int)), some (.inl (dcr M nw (c : Int))), some (.inl (nw : Int))] [] (gm M1) post) (hcc : c < nc) : ∀ (n i : Nat), nw - i < n → i ≤ nw → sx_V y_M_bound (1, 0, 0) L xs (0, 0) 17 [some (sx_p 51), some (.inl gr), some (.inl (c : Int)), some (.inl (sm (fun j => if M (14 + j) 0 = (c : Int) then M (14 + j) 5 else 0) i)), some (.inl (i : Int))] [] (gm M1) (post) := by
  have w6 := hM.w6
  have c4 := hM.c4
  have b8 := hM.b8
  have r33 : 0 ≤ M 3 3 ∧ M 3 3 ≤ 200 := by (have := hM.dy.2.2.2; have := dy_le (dr M) 200; omega)
  intro n
  induction n with
  | zero => intro i h1 h2; omega
  | succ n ih =>
    intro i hn hi
    refine sx_iload d_M_bound_17 rfl ?_
    refine sx_aload_n d_M_bound_19 rfl ?_
    refine sx_getI (z := (nw : Int)) d_M_bound_20 fl_M_95 (go rfl rfl rfl) (by decide) (by decide) (by decide) ((M1s 51 2 (by decide) (by decide) (by omega)).trans hM.mwn) ?_
    refine sx_icmp_ge (tgt := 56) d_M_bound_23 (by decide) (by first | omega | exact hM.ir _ _) (by first | omega | exact hM.ir _ _) (fun c23_15 => ?_) (fun c23_15 => ?_)
    · have e0 : i = nw := by omega
      subst e0
      exact hc
    · have cqb := hM.mcr i (by omega)
      refine sx_iload_n d_M_bound_26 rfl ?_
      refine sx_aload_n d_M_bound_27 rfl ?_
      refine sx_getR (r := some (53)) d_M_bound_28 fl_M_13 (go rfl rfl rfl) (by decide) (by decide) (by decide) rfl ?_
      refine sx_iload d_M_bound_31 rfl ?_
      refine sx_iald (z := (M (14 + i) 0)) d_M_bound_33 (go rfl rfl rfl) (by omega) (by omega) (by decide) ((M1s 53 i (by decide) (by decide) (by omega)).trans (hM.mcr i (by omega)).1) ?_
      refine sx_iload_n d_M_bound_34 rfl ?_
      refine sx_icmp_ne (tgt := 47) d_M_bound_35 (by decide) (by first | omega | exact hM.ir _ _) (by first | omega | exact hM.ir _ _) (fun c35_26 => ?_) (fun c35_26 => ?_)
      · refine sx_iconst d_M_bound_47 ?_
        refine sx_iadd d_M_bound_48 ?_
        refine sx_istore_n (l' := [some (sx_p 51), some (.inl gr), some (.inl (c : Int)), some (.inl ((sm (fun j => if M (14 + j) 0 = (c : Int) then M (14 + j) 5 else 0) i) + 0)), some (.inl (i : Int))]) d_M_bound_49 (by decide) rfl rfl ?_
        refine sx_iinc (l' := [some (sx_p 51), some (.inl gr), some (.inl (c : Int)), some (.inl ((sm (fun j => if M (14 + j) 0 = (c : Int) then M (14 + j) 5 else 0) i) + 0)), some (.inl ((i : Int) + 1))]) d_M_bound_50 rfl (by decide) rfl rfl ?_
        refine sx_goto (tgt := 17) d_M_bound_53 (by decide) ?_
        have e1 : ((i : Int) + 1) = ((i + 1 : Nat) : Int) := by omega
        rw [e1]
        have e2 : ((sm (fun j => if M (14 + j) 0 = (c : Int) then M (14 + j) 5 else 0) i) + 0) = sm (fun j => if M (14 + j) 0 = (c : Int) then M (14 + j) 5 else 0) (i + 1) := by (simp only [sm]; first | rw [if_pos (by omega)] | rw [if_neg (by omega)])
        rw [e2]
        exact ih (i + 1) (by omega) (by omega)
      · refine sx_aload_n d_M_bound_38 rfl ?_
        refine sx_iload d_M_bound_39 rfl ?_
        refine sx_callV (c_M_do M nc nw nb hM M1 M1s M1R i (by omega)) d_M_bound_41 cd_M_daysOf lk_M_198 im_M_daysOf se_M_daysOf (go rfl rfl rfl) rfl rfl (by decide) (st := [.inl (sm (fun j => if M (14 + j) 0 = (c : Int) then M (14 + j) 5 else 0) i)]) rfl rfl (Nat.le_of_ble_eq_true rfl) ⟨by decide, Nat.le_refl _, Nat.le_refl _⟩ (fun _ _ hq => ?_)
        obtain ⟨rfl, rfl⟩ := hq
        show sx_V _ _ _ _ (0, 0) _ _ [.inl (M (14 + i) 5), .inl (sm (fun j => if M (14 + j) 0 = (c : Int) then M (14 + j) 5 else 0) i)] (gm M1) _
        refine sx_goto (tgt := 48) d_M_bound_44 (by decide) ?_
        refine sx_iadd d_M_bound_48 ?_
        refine sx_istore_n (l' := [some (sx_p 51), some (.inl gr), some (.inl (c : Int)), some (.inl ((sm (fun j => if M (14 + j) 0 = (c : Int) then M (14 + j) 5 else 0) i) + (M (14 + i) 5))), some (.inl (i : Int))]) d_M_bound_49 (by decide) rfl rfl ?_
        refine sx_iinc (l' := [some (sx_p 51), some (.inl gr), some (.inl (c : Int)), some (.inl ((sm (fun j => if M (14 + j) 0 = (c : Int) then M (14 + j) 5 else 0) i) + (M (14 + i) 5))), some (.inl ((i : Int) + 1))]) d_M_bound_50 rfl (by decide) rfl rfl ?_
        refine sx_goto (tgt := 17) d_M_bound_53 (by decide) ?_
        have e1 : ((i : Int) + 1) = ((i + 1 : Nat) : Int) := by omega
        rw [e1]
        have e2 : ((sm (fun j => if M (14 + j) 0 = (c : Int) then M (14 + j) 5 else 0) i) + (M (14 + i) 5)) = sm (fun j => if M (14 + j) 0 = (c : Int) then M (14 + j) 5 else 0) (i + 1) := by (simp only [sm]; first | rw [if_pos (by omega)] | rw [if_neg (by omega)])
        rw [e2]
        exact ih (i + 1) (by omega) (by omega)
set_option maxRecDepth 100000 in
set_option maxHeartbeats 4000000 in
theorem l_M_bd {L : Nat} {xs : Nat → Int32} (M : Nat → Nat → Int) (nc nw nb : Nat) (hM : MR M nc nw nb) (M1 : Nat → Nat → Int) (M1s : sf M M1) (M1R : IR M1) : ∀ (n c : Nat) (x3 x4 : Option sx_v), nc - c < n → c ≤ nc → sx_V y_M_bound (1, 0, 0) L xs (0, 0) 4 [some (sx_p 51), some (.inl (mx (fun c => dcr M nw (c : Int)) c)), some (.inl (c : Int)), x3, x4] [] (gm M1) (fun v h2 => v = some (.inl (mx (fun c => dcr M nw (c : Int)) nc)) ∧ h2 = gm M1) := by
  have w6 := hM.w6
  have c4 := hM.c4
  have b8 := hM.b8
  have r33 : 0 ≤ M 3 3 ∧ M 3 3 ≤ 200 := by (have := hM.dy.2.2.2; have := dy_le (dr M) 200; omega)
  intro n
  induction n with
  | zero => intro c x3 x4 h1 h2; omega
  | succ n ih =>
    intro c x3 x4 hn hi
    refine sx_iload_n d_M_bound_4 rfl ?_
    refine sx_aload_n d_M_bound_5 rfl ?_
    refine sx_getI (z := (nc : Int)) d_M_bound_6 fl_M_107 (go rfl rfl rfl) (by decide) (by decide) (by decide) ((M1s 51 0 (by decide) (by decide) (by omega)).trans hM.mcn) ?_
    refine sx_icmp_ge (tgt := 73) d_M_bound_9 (by decide) (by first | omega | exact hM.ir _ _) (by first | omega | exact hM.ir _ _) (fun c9_15 => ?_) (fun c9_15 => ?_)
    · refine sx_iload_n d_M_bound_73 rfl ?_
      refine sx_retI d_M_bound_74 (Or.inl rfl) ⟨Nat.zero_le _, Nat.zero_le _⟩ ?_
      have e0 : c = nc := by omega
      subst e0
      exact ⟨rfl, rfl⟩
    · refine sx_iconst d_M_bound_12 ?_
      refine sx_istore_n (l' := [some (sx_p 51), some (.inl (mx (fun c => dcr M nw (c : Int)) c)), some (.inl (c : Int)), some (.inl 0), x4]) d_M_bound_13 (by decide) rfl rfl ?_
      refine sx_iconst d_M_bound_14 ?_
      refine sx_istore (l' := [some (sx_p 51), some (.inl (mx (fun c => dcr M nw (c : Int)) c)), some (.inl (c : Int)), some (.inl 0), some (.inl 0)]) d_M_bound_15 (by decide) rfl rfl ?_
      have dq := dcr_r hM.w6 (fun w hw => (hM.ws w hw).1) (c : Int)
      have mxq := mx_r (f := fun c => dcr M nw (c : Int)) (c := 1200) (by decide) c (fun j _ => (dcr_r hM.w6 (fun w hw => (hM.ws w hw).1) _).2)
      refine l_M_bd1 M nc nw nb hM M1 M1s M1R _ c _ ?_ (by omega) (nw + 1) 0 (by omega) (by omega)
      refine sx_iload_n d_M_bound_56 rfl ?_
      refine sx_iload_n d_M_bound_57 rfl ?_
      refine sx_icmp_le (tgt := 65) d_M_bound_58 (by decide) (by omega) (by omega) (fun c58_2 => ?_) (fun c58_2 => ?_)
      · refine sx_iload_n d_M_bound_65 rfl ?_
        refine sx_istore_n (l' := [some (sx_p 51), some (.inl (mx (fun c => dcr M nw (c : Int)) c)), some (.inl (c : Int)), some (.inl (dcr M nw (c : Int))), some (.inl (nw : Int))]) d_M_bound_66 (by decide) rfl rfl ?_
        refine sx_iinc (l' := [some (sx_p 51), some (.inl (mx (fun c => dcr M nw (c : Int)) c)), some (.inl ((c : Int) + 1)), some (.inl (dcr M nw (c : Int))), some (.inl (nw : Int))]) d_M_bound_67 rfl (by decide) rfl rfl ?_
        refine sx_goto (tgt := 4) d_M_bound_70 (by decide) ?_
        have e1 : ((c : Int) + 1) = ((c + 1 : Nat) : Int) := by omega
        have e2 : (mx (fun c => dcr M nw (c : Int)) c) = mx (fun c => dcr M nw (c : Int)) (c + 1) := by (simp only [mx]; first | rw [if_pos (by omega)] | rw [if_neg (by omega)])
        rw [e1, e2]
        exact ih (c + 1) _ _ (by omega) (by omega)
      · refine sx_iload_n d_M_bound_61 rfl ?_
        refine sx_goto (tgt := 66) d_M_bound_62 (by decide) ?_
        refine sx_istore_n (l' := [some (sx_p 51), some (.inl (dcr M nw (c : Int))), some (.inl (c : Int)), some (.inl (dcr M nw (c : Int))), some (.inl (nw : Int))]) d_M_bound_66 (by decide) rfl rfl ?_
        refine sx_iinc (l' := [some (sx_p 51), some (.inl (dcr M nw (c : Int))), some (.inl ((c : Int) + 1)), some (.inl (dcr M nw (c : Int))), some (.inl (nw : Int))]) d_M_bound_67 rfl (by decide) rfl rfl ?_
        refine sx_goto (tgt := 4) d_M_bound_70 (by decide) ?_
        have e1 : ((c : Int) + 1) = ((c + 1 : Nat) : Int) := by omega
        have e2 : (dcr M nw (c : Int)) = mx (fun c => dcr M nw (c : Int)) (c + 1) := by (simp only [mx]; first | rw [if_pos (by omega)] | rw [if_neg (by omega)])
        rw [e1, e2]
        exact ih (c + 1) _ _ (by omega) (by omega)
set_option maxRecDepth 100000 in
set_option maxHeartbeats 4000000 in
theorem m_bound {L : Nat} {xs : Nat → Int32} (M : Nat → Nat → Int) (nc nw nb : Nat) (hM : MR M nc nw nb) (M1 : Nat → Nat → Int) (M1s : sf M M1) (M1R : IR M1) : sx_R y_M_bound (1, 0, 0) L xs [sx_p 51] (gm M1) (fun v h2 => v = some (.inl (mx (fun c => dcr M nw (c : Int)) nc)) ∧ h2 = gm M1) := by
  refine sx_enter rfl (Nat.le_of_ble_eq_true rfl) rfl ?_
  show sx_V y_M_bound (1, 0, 0) L xs (0, 0) 0 [some (sx_p 51), none, none, none, none] [] (gm M1) _
  refine sx_iconst d_M_bound_0 ?_
  refine sx_istore_n (l' := [some (sx_p 51), some (.inl 0), none, none, none]) d_M_bound_1 (by decide) rfl rfl ?_
  refine sx_iconst d_M_bound_2 ?_
  refine sx_istore_n (l' := [some (sx_p 51), some (.inl 0), some (.inl 0), none, none]) d_M_bound_3 (by decide) rfl rfl ?_
  exact l_M_bd M nc nw nb hM M1 M1s M1R (nc + 1) 0 none none (by omega) (by omega)
