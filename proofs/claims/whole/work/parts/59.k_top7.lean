theorem ne_of {a b : Int} {P Q : Int → Prop} (h0 : ∀ n, a ≤ n ↔ P n) (h1 : ∀ n, n ≤ b ↔ Q n) : a ≤ b ↔ ∃ n, P n ∧ Q n :=
  ⟨fun h => ⟨a, (h0 a).mp (Int.le_refl _), (h1 a).mp h⟩, fun ⟨n, p, q⟩ => Int.le_trans ((h0 n).mpr p) ((h1 n).mpr q)⟩
/-- the works' own numbers are sound -/
def WKs (M : Nat → Nat → Int) (nw nb : Nat) : Prop := ∀ w, w < nw → IW M w ∧ IS M w ∧ (∀ d, IB M nb w d) ∧ (0 ≤ M (14 + w) 1 ∧ M (14 + w) 1 ≤ 3) ∧ (M (14 + w) 6 = 0 ∨ M (14 + w) 6 = 1)
set_option maxRecDepth 100000 in
set_option maxHeartbeats 4000000 in
theorem c_R_csa {L : Nat} {xs : Nat → Int32} (M : Nat → Nat → Int) (hI : IDy M) (nw : Nat) (hnw : M 2 9 = (nw : Int)) (h6 : nw ≤ 6) (nb : Nat) (hnb : M 2 10 = (nb : Int)) (hb8 : nb ≤ 8) (hWs : WKs M nw nb) (w : Nat) (hw : w < nw) (M1 : Nat → Nat → Int) (M1f : fr 21 M M1) (M1R : IR M1) : sx_R y_R_canStandAlone (3, 0, 0) L xs [sx_p 20, .inl (w : Int)] (gm M1) (fun v h2 => ∃ z, v = some (.inl z) ∧ (z = 0 ∨ z = 1) ∧ (z = 1 ↔ aln M nb w) ∧ ∃ M2, h2 = gm M2 ∧ fr 21 M M2 ∧ IR M2) := by
  refine sx_enter rfl (Nat.le_of_ble_eq_true rfl) rfl ?_
  show sx_V y_R_canStandAlone (3, 0, 0) L xs (0, 0) 0 [some (sx_p 20), some (.inl (w : Int))] [] (gm M1) _
  refine sx_aload_n d_R_canStandAlone_0 rfl ?_
  refine sx_aload_n d_R_canStandAlone_1 rfl ?_
  refine sx_getR (r := some (21)) d_R_canStandAlone_2 fl_R_12 (go rfl rfl rfl) (by decide) (by decide) (by decide) rfl ?_
  refine sx_iload_n d_R_canStandAlone_5 rfl ?_
  refine sx_iconst d_R_canStandAlone_6 ?_
  refine sx_callV (x_R_oA (M := M) (u := 21) M1f hI M1R (fun _ => go rfl rfl rfl) (by decide) w (by omega) (hWs w hw).1 (hWs w hw).2.1 0 ⟨by decide, by decide⟩ nb hnb hb8 ((hWs w hw).2.2.1 _)) d_R_canStandAlone_7 cd_R_openAlone lk_R_29 im_R_openAlone se_R_openAlone (go rfl rfl rfl) rfl rfl (by decide) (st := []) rfl rfl (Nat.le_of_ble_eq_true rfl) ⟨by decide, Nat.le_refl _, Nat.le_refl _⟩ (fun _ _ hq => ?_)
  obtain ⟨rfl, mA, rfl, mAf, mAR, mA0, mA1⟩ := hq
  have nA := ne_of mA0 mA1
  show sx_V _ _ _ _ (0, 0) _ _ [] (gm mA) _
  refine sx_aload_n d_R_canStandAlone_10 rfl ?_
  refine sx_getR (r := some (21)) d_R_canStandAlone_11 fl_R_12 (go rfl rfl rfl) (by decide) (by decide) (by decide) rfl ?_
  refine sx_callV (z_of (c_W_isEmpty mA mAR 21 (fun _ => go rfl rfl rfl))) d_R_canStandAlone_14 cd_W_isEmpty lk_R_33 im_W_isEmpty se_W_isEmpty (go rfl rfl rfl) rfl rfl (by decide) (st := []) rfl rfl (Nat.le_of_ble_eq_true rfl) ⟨by decide, Nat.le_refl _, Nat.le_refl _⟩ (fun _ _ hq => ?_)
  obtain ⟨z65, rfl, z65b, z65i, rfl⟩ := hq
  show sx_V _ _ _ _ (0, 0) _ _ [.inl z65] (gm mA) _
  refine sx_if_eq (tgt := 45) d_R_canStandAlone_17 (by decide) (by first | omega | (have := (hWs w hw).2.2.2.2; omega)) (fun c17_19 => ?_) (fun c17_19 => ?_)
  · refine sx_aload_n d_R_canStandAlone_45 rfl ?_
    refine sx_getR (r := some (21)) d_R_canStandAlone_46 fl_R_12 (go rfl rfl rfl) (by decide) (by decide) (by decide) rfl ?_
    refine sx_callV (z_of (c_W_isEmpty mA mAR 21 (fun _ => go rfl rfl rfl))) d_R_canStandAlone_49 cd_W_isEmpty lk_R_33 im_W_isEmpty se_W_isEmpty (go rfl rfl rfl) rfl rfl (by decide) (st := []) rfl rfl (Nat.le_of_ble_eq_true rfl) ⟨by decide, Nat.le_refl _, Nat.le_refl _⟩ (fun _ _ hq => ?_)
    obtain ⟨z66, rfl, z66b, z66i, rfl⟩ := hq
    show sx_V _ _ _ _ (0, 0) _ _ [.inl z66] (gm mA) _
    refine sx_if_ne (tgt := 59) d_R_canStandAlone_52 (by decide) (by first | omega | (have := (hWs w hw).2.2.2.2; omega)) (fun c52_25 => ?_) (fun c52_25 => ?_)
    · refine sx_iconst d_R_canStandAlone_59 ?_
      refine sx_retI d_R_canStandAlone_60 (Or.inr ⟨rfl, by first | exact Or.inl rfl | exact Or.inr rfl | omega⟩) ⟨Nat.zero_le _, Nat.zero_le _⟩ ?_
      refine ⟨_, rfl, Or.inl rfl, ⟨fun k => absurd k (by decide), fun k => ?_⟩, mA, rfl, mAf, mAR⟩
      rcases k with k | k
      · exfalso; have := nA.mpr k; omega
      · exfalso; first | (exact absurd k.1 (by omega)) | (have := nB.mpr k.2; omega) | omega
    · refine sx_iconst d_R_canStandAlone_55 ?_
      refine sx_goto (tgt := 60) d_R_canStandAlone_56 (by decide) ?_
      refine sx_retI d_R_canStandAlone_60 (Or.inr ⟨rfl, by first | exact Or.inl rfl | exact Or.inr rfl | omega⟩) ⟨Nat.zero_le _, Nat.zero_le _⟩ ?_
      refine ⟨_, rfl, Or.inr rfl, ⟨fun _ => ?_, fun _ => rfl⟩, mA, rfl, mAf, mAR⟩
      first | exact Or.inl (nA.mp (by omega)) | exact Or.inr ⟨by omega, nB.mp (by omega)⟩ | (exfalso; omega)
  · refine sx_aload_n d_R_canStandAlone_20 rfl ?_
    refine sx_getR (r := some (2)) d_R_canStandAlone_21 fl_R_18 (go rfl rfl rfl) (by decide) (by decide) (by decide) rfl ?_
    refine sx_getR (r := some (8)) d_R_canStandAlone_24 fl_R_37 (go rfl rfl rfl) (by decide) (by decide) (by decide) rfl ?_
    refine sx_iload_n d_R_canStandAlone_27 rfl ?_
    refine sx_aald (r := some ((14 + w))) d_R_canStandAlone_28 (go rfl rfl rfl) (t := 0) rfl (by omega) (by omega) (by decide) (gr_w _ (by omega)) ?_
    refine sx_getI (z := (M (14 + w) 6)) d_R_canStandAlone_29 fl_R_41 (go_w _ (by omega)) (by decide) (by decide) (by decide) (mAf (14 + w) 6 (by omega)) ?_
    refine sx_if_eq (tgt := 45) d_R_canStandAlone_32 (by decide) (by first | omega | (have := (hWs w hw).2.2.2.2; omega)) (fun c32_43 => ?_) (fun c32_43 => ?_)
    · refine sx_aload_n d_R_canStandAlone_45 rfl ?_
      refine sx_getR (r := some (21)) d_R_canStandAlone_46 fl_R_12 (go rfl rfl rfl) (by decide) (by decide) (by decide) rfl ?_
      refine sx_callV (z_of (c_W_isEmpty mA mAR 21 (fun _ => go rfl rfl rfl))) d_R_canStandAlone_49 cd_W_isEmpty lk_R_33 im_W_isEmpty se_W_isEmpty (go rfl rfl rfl) rfl rfl (by decide) (st := []) rfl rfl (Nat.le_of_ble_eq_true rfl) ⟨by decide, Nat.le_refl _, Nat.le_refl _⟩ (fun _ _ hq => ?_)
      obtain ⟨z67, rfl, z67b, z67i, rfl⟩ := hq
      show sx_V _ _ _ _ (0, 0) _ _ [.inl z67] (gm mA) _
      refine sx_if_ne (tgt := 59) d_R_canStandAlone_52 (by decide) (by first | omega | (have := (hWs w hw).2.2.2.2; omega)) (fun c52_49 => ?_) (fun c52_49 => ?_)
      · refine sx_iconst d_R_canStandAlone_59 ?_
        refine sx_retI d_R_canStandAlone_60 (Or.inr ⟨rfl, by first | exact Or.inl rfl | exact Or.inr rfl | omega⟩) ⟨Nat.zero_le _, Nat.zero_le _⟩ ?_
        refine ⟨_, rfl, Or.inl rfl, ⟨fun k => absurd k (by decide), fun k => ?_⟩, mA, rfl, mAf, mAR⟩
        rcases k with k | k
        · exfalso; have := nA.mpr k; omega
        · exfalso; first | (exact absurd k.1 (by omega)) | (have := nB.mpr k.2; omega) | omega
      · refine sx_iconst d_R_canStandAlone_55 ?_
        refine sx_goto (tgt := 60) d_R_canStandAlone_56 (by decide) ?_
        refine sx_retI d_R_canStandAlone_60 (Or.inr ⟨rfl, by first | exact Or.inl rfl | exact Or.inr rfl | omega⟩) ⟨Nat.zero_le _, Nat.zero_le _⟩ ?_
        refine ⟨_, rfl, Or.inr rfl, ⟨fun _ => ?_, fun _ => rfl⟩, mA, rfl, mAf, mAR⟩
        first | exact Or.inl (nA.mp (by omega)) | exact Or.inr ⟨by omega, nB.mp (by omega)⟩ | (exfalso; omega)
    · refine sx_aload_n d_R_canStandAlone_35 rfl ?_
      refine sx_aload_n d_R_canStandAlone_36 rfl ?_
      refine sx_getR (r := some (21)) d_R_canStandAlone_37 fl_R_12 (go rfl rfl rfl) (by decide) (by decide) (by decide) rfl ?_
      refine sx_iload_n d_R_canStandAlone_40 rfl ?_
      refine sx_iconst d_R_canStandAlone_41 ?_
      refine sx_callV (x_R_oA (M := M) (u := 21) mAf hI mAR (fun _ => go rfl rfl rfl) (by decide) w (by omega) (hWs w hw).1 (hWs w hw).2.1 1 ⟨by decide, by decide⟩ nb hnb hb8 ((hWs w hw).2.2.1 _)) d_R_canStandAlone_42 cd_R_openAlone lk_R_29 im_R_openAlone se_R_openAlone (go rfl rfl rfl) rfl rfl (by decide) (st := []) rfl rfl (Nat.le_of_ble_eq_true rfl) ⟨by decide, Nat.le_refl _, Nat.le_refl _⟩ (fun _ _ hq => ?_)
      obtain ⟨rfl, mB, rfl, mBf, mBR, mB0, mB1⟩ := hq
      have nB := ne_of mB0 mB1
      show sx_V _ _ _ _ (0, 0) _ _ [] (gm mB) _
      refine sx_aload_n d_R_canStandAlone_45 rfl ?_
      refine sx_getR (r := some (21)) d_R_canStandAlone_46 fl_R_12 (go rfl rfl rfl) (by decide) (by decide) (by decide) rfl ?_
      refine sx_callV (z_of (c_W_isEmpty mB mBR 21 (fun _ => go rfl rfl rfl))) d_R_canStandAlone_49 cd_W_isEmpty lk_R_33 im_W_isEmpty se_W_isEmpty (go rfl rfl rfl) rfl rfl (by decide) (st := []) rfl rfl (Nat.le_of_ble_eq_true rfl) ⟨by decide, Nat.le_refl _, Nat.le_refl _⟩ (fun _ _ hq => ?_)
      obtain ⟨z68, rfl, z68b, z68i, rfl⟩ := hq
      show sx_V _ _ _ _ (0, 0) _ _ [.inl z68] (gm mB) _
      refine sx_if_ne (tgt := 59) d_R_canStandAlone_52 (by decide) (by first | omega | (have := (hWs w hw).2.2.2.2; omega)) (fun c52_75 => ?_) (fun c52_75 => ?_)
      · refine sx_iconst d_R_canStandAlone_59 ?_
        refine sx_retI d_R_canStandAlone_60 (Or.inr ⟨rfl, by first | exact Or.inl rfl | exact Or.inr rfl | omega⟩) ⟨Nat.zero_le _, Nat.zero_le _⟩ ?_
        refine ⟨_, rfl, Or.inl rfl, ⟨fun k => absurd k (by decide), fun k => ?_⟩, mB, rfl, mBf, mBR⟩
        rcases k with k | k
        · exfalso; have := nA.mpr k; omega
        · exfalso; first | (exact absurd k.1 (by omega)) | (have := nB.mpr k.2; omega) | omega
      · refine sx_iconst d_R_canStandAlone_55 ?_
        refine sx_goto (tgt := 60) d_R_canStandAlone_56 (by decide) ?_
        refine sx_retI d_R_canStandAlone_60 (Or.inr ⟨rfl, by first | exact Or.inl rfl | exact Or.inr rfl | omega⟩) ⟨Nat.zero_le _, Nat.zero_le _⟩ ?_
        refine ⟨_, rfl, Or.inr rfl, ⟨fun _ => ?_, fun _ => rfl⟩, mB, rfl, mBf, mBR⟩
        first | exact Or.inl (nA.mp (by omega)) | exact Or.inr ⟨by omega, nB.mp (by omega)⟩ | (exfalso; omega)
set_option maxRecDepth 100000 in
set_option maxHeartbeats 4000000 in
theorem l_T_lone {L : Nat} {xs : Nat → Int32} (M : Nat → Nat → Int) (hI : IDy M) (nw : Nat) (hnw : M 2 9 = (nw : Int)) (h6 : nw ≤ 6) (nb : Nat) (hnb : M 2 10 = (nb : Int)) (hb8 : nb ≤ 8) (hWs : WKs M nw nb) (k : Int) (hk : sx_r k) : ∀ (n i : Nat) (M1 : Nat → Nat → Int), nw - i < n → i ≤ nw → fr 21 M M1 → IR M1 → (∀ j, j < i → ¬ aln M nb j → sm (fun j => b01 (¬ aln M nb j)) j ≠ k) → sx_V y_T_lone (4, 0, 0) L xs (0, 0) 4 [some (sx_p 1), some (.inl k), some (.inl (sm (fun j => b01 (¬ aln M nb j)) i)), some (.inl (i : Int))] [] (gm M1) (fun v h2 => ∃ M2, h2 = gm M2 ∧ fr 21 M M2 ∧ IR M2 ∧ ((∃ j, j < nw ∧ ¬ aln M nb j ∧ sm (fun j => b01 (¬ aln M nb j)) j = k ∧ v = some (.inl (j : Int))) ∨ (v = some (.inl (-1)) ∧ ∀ j, j < nw → ¬ aln M nb j → sm (fun j => b01 (¬ aln M nb j)) j ≠ k))) := by
  intro n
  induction n with
  | zero => intro i M1 h1 h2; omega
  | succ n ih =>
    intro i M1 hn hi M1f M1R hno
    refine sx_iload_n d_T_lone_4 rfl ?_
    refine sx_aload_n d_T_lone_5 rfl ?_
    refine sx_getR (r := some (2)) d_T_lone_6 fl_T_10 (go rfl rfl rfl) (by decide) (by decide) (by decide) rfl ?_
    refine sx_getI (z := (nw : Int)) d_T_lone_9 fl_T_80 (go rfl rfl rfl) (by decide) (by decide) (by decide) ((M1f 2 9 (by omega)).trans hnw) ?_
    refine sx_icmp_ge (tgt := 42) d_T_lone_12 (by decide) (by omega) (by omega) (fun c12_12 => ?_) (fun c12_12 => ?_)
    · refine sx_iconst d_T_lone_42 ?_
      refine sx_retI d_T_lone_43 (Or.inl rfl) ⟨Nat.zero_le _, Nat.zero_le _⟩ ?_
      have e0 : i = nw := by omega
      subst e0
      exact ⟨M1, rfl, M1f, M1R, Or.inr ⟨rfl, hno⟩⟩
    · refine sx_aload_n d_T_lone_15 rfl ?_
      refine sx_getR (r := some (20)) d_T_lone_16 fl_T_21 (go rfl rfl rfl) (by decide) (by decide) (by decide) rfl ?_
      refine sx_iload_n d_T_lone_19 rfl ?_
      refine sx_callV (c_R_csa M hI nw hnw h6 nb hnb hb8 hWs i (by omega) M1 M1f M1R) d_T_lone_20 cd_R_canStandAlone lk_T_200 im_R_canStandAlone se_R_canStandAlone (go rfl rfl rfl) rfl rfl (by decide) (st := []) rfl rfl (Nat.le_of_ble_eq_true rfl) ⟨by decide, Nat.le_refl _, Nat.le_refl _⟩ (fun _ _ hq => ?_)
      obtain ⟨z, rfl, zb, zi, M2, rfl, M2f, M2R⟩ := hq
      have sq := sm_r2 (f := (fun j => b01 (¬ aln M nb j))) (c := 1) i (fun j _ => b01_r _)
      show sx_V _ _ _ _ (0, 0) _ _ [.inl z] (gm M2) _
      refine sx_if_ne (tgt := 36) d_T_lone_23 (by decide) (by omega) (fun c23_25 => ?_) (fun c23_25 => ?_)
      · refine sx_iinc (l' := [some (sx_p 1), some (.inl k), some (.inl (sm (fun j => b01 (¬ aln M nb j)) i)), some (.inl ((i : Int) + 1))]) d_T_lone_36 rfl (by decide) rfl rfl ?_
        refine sx_goto (tgt := 4) d_T_lone_39 (by decide) ?_
        have e1 : ((i : Int) + 1) = ((i + 1 : Nat) : Int) := by omega
        rw [e1]
        have e2 : (sm (fun j => b01 (¬ aln M nb j)) i) = sm (fun j => b01 (¬ aln M nb j)) (i + 1) := by (show _ = sm (fun j => b01 (¬ aln M nb j)) i + b01 _; rw [b01_f (fun q => q (zi.mp (by omega)))]; omega)
        rw [e2]
        refine ih (i + 1) _ (by omega) (by omega) M2f M2R (fun j hj hn2 => ?_)
        by_cases q : j = i
        · subst q; exact absurd (zi.mp (by omega)) hn2
        · exact hno j (by omega) hn2
      · refine sx_iload_n d_T_lone_26 rfl ?_
        refine sx_iload_n d_T_lone_27 rfl ?_
        refine sx_icmp_ne (tgt := 33) d_T_lone_28 (by decide) (by omega) (by omega) (fun c28_38 => ?_) (fun c28_38 => ?_)
        · refine sx_iinc (l' := [some (sx_p 1), some (.inl k), some (.inl ((sm (fun j => b01 (¬ aln M nb j)) i) + 1)), some (.inl (i : Int))]) d_T_lone_33 rfl (by decide) rfl rfl ?_
          refine sx_iinc (l' := [some (sx_p 1), some (.inl k), some (.inl ((sm (fun j => b01 (¬ aln M nb j)) i) + 1)), some (.inl ((i : Int) + 1))]) d_T_lone_36 rfl (by decide) rfl rfl ?_
          refine sx_goto (tgt := 4) d_T_lone_39 (by decide) ?_
          have e1 : ((i : Int) + 1) = ((i + 1 : Nat) : Int) := by omega
          rw [e1]
          have e2 : ((sm (fun j => b01 (¬ aln M nb j)) i) + 1) = sm (fun j => b01 (¬ aln M nb j)) (i + 1) := by (show _ = sm (fun j => b01 (¬ aln M nb j)) i + b01 _; rw [b01_t (fun q => by have := zi.mpr q; omega)])
          rw [e2]
          refine ih (i + 1) _ (by omega) (by omega) M2f M2R (fun j hj hn2 => ?_)
          by_cases q : j = i
          · subst q; omega
          · exact hno j (by omega) hn2
        · refine sx_iload_n d_T_lone_31 rfl ?_
          refine sx_retI d_T_lone_32 (Or.inl rfl) ⟨Nat.zero_le _, Nat.zero_le _⟩ ?_
          refine ⟨M2, rfl, M2f, M2R, Or.inl ⟨i, by omega, fun q => ?_, by omega, rfl⟩⟩
          have := zi.mpr q
          omega
set_option maxRecDepth 100000 in
set_option maxHeartbeats 4000000 in
theorem c_lone {L : Nat} {xs : Nat → Int32} (M : Nat → Nat → Int) (hI : IDy M) (hR : IR M) (nw : Nat) (hnw : M 2 9 = (nw : Int)) (h6 : nw ≤ 6) (nb : Nat) (hnb : M 2 10 = (nb : Int)) (hb8 : nb ≤ 8) (hWs : WKs M nw nb) (k : Int) (hk : sx_r k) : sx_R y_T_lone (4, 0, 0) L xs [sx_p 1, .inl k] (gm M) (fun v h2 => ∃ M2, h2 = gm M2 ∧ fr 21 M M2 ∧ IR M2 ∧ ((∃ j, j < nw ∧ ¬ aln M nb j ∧ sm (fun j => b01 (¬ aln M nb j)) j = k ∧ v = some (.inl (j : Int))) ∨ (v = some (.inl (-1)) ∧ ∀ j, j < nw → ¬ aln M nb j → sm (fun j => b01 (¬ aln M nb j)) j ≠ k))) := by
  refine sx_enter rfl (Nat.le_of_ble_eq_true rfl) rfl ?_
  show sx_V y_T_lone (4, 0, 0) L xs (0, 0) 0 [some (sx_p 1), some (.inl k), none, none] [] (gm M) _
  refine sx_iconst d_T_lone_0 ?_
  refine sx_istore_n (l' := [some (sx_p 1), some (.inl k), some (.inl 0), none]) d_T_lone_1 (by decide) rfl rfl ?_
  refine sx_iconst d_T_lone_2 ?_
  refine sx_istore_n (l' := [some (sx_p 1), some (.inl k), some (.inl 0), some (.inl 0)]) d_T_lone_3 (by decide) rfl rfl ?_
  exact l_T_lone M hI nw hnw h6 nb hnb hb8 hWs k hk (nw + 1) 0 M (by omega) (by omega) (fr.rf 21 M) hR (fun j hj => absurd hj (Nat.not_lt_zero _))
set_option maxRecDepth 100000 in
set_option maxHeartbeats 4000000 in
theorem c_T_csl {L : Nat} {xs : Nat → Int32} (M : Nat → Nat → Int) (hI : IDy M) (hR : IR M) (nw : Nat) (hnw : M 2 9 = (nw : Int)) (h6 : nw ≤ 6) (nb : Nat) (hWs : WKs M nw nb) (hpl : ∀ w, w < nw → (0 ≤ M 23 w ∧ M 23 w ≤ 99) ∧ (M 24 w = 0 ∨ M 24 w = 1)) (w : Nat) (hw : w < nw) (s : Int) (hs : 0 ≤ s ∧ s ≤ 1000) : sx_R y_T_canStartLater (3, 0, 0) L xs [sx_p 1, .inl (w : Int), .inl s] (gm M) (fun v h2 => ∃ z, v = some (.inl z) ∧ (z = 0 ∨ z = 1) ∧ (z = 1 ↔ (M 47 0 ≤ Bd M s ∧ Bd M s ≤ M 47 1) ∧ eT M w s ≤ M 1 8 ∧ hRm M 23 w s nw) ∧ h2 = gm M) := by
  refine sx_enter rfl (Nat.le_of_ble_eq_true rfl) rfl ?_
  show sx_V y_T_canStartLater (3, 0, 0) L xs (0, 0) 0 [some (sx_p 1), some (.inl (w : Int)), some (.inl s)] [] (gm M) _
  refine sx_aload_n d_T_canStartLater_0 rfl ?_
  refine sx_getR (r := some (47)) d_T_canStartLater_1 fl_T_44 (go rfl rfl rfl) (by decide) (by decide) (by decide) rfl ?_
  refine sx_aload_n d_T_canStartLater_4 rfl ?_
  refine sx_getR (r := some (2)) d_T_canStartLater_5 fl_T_10 (go rfl rfl rfl) (by decide) (by decide) (by decide) rfl ?_
  refine sx_getR (r := some (3)) d_T_canStartLater_8 fl_T_115 (go rfl rfl rfl) (by decide) (by decide) (by decide) rfl ?_
  refine sx_iload_n d_T_canStartLater_11 rfl ?_
  refine sx_callV (c_D_before M hI s (by omega)) d_T_canStartLater_12 cd_D_before lk_T_254 im_D_before se_D_before (go rfl rfl rfl) rfl rfl (by decide) (st := [sx_p 47]) rfl rfl (Nat.le_of_ble_eq_true rfl) ⟨by decide, Nat.le_refl _, Nat.le_refl _⟩ (fun _ _ hq => ?_)
  obtain ⟨rfl, rfl⟩ := hq
  show sx_V _ _ _ _ (0, 0) _ _ [.inl (Bd M s), sx_p 47] (gm M) _
  have bq := Bd_r M s
  refine sx_callV (z_of (c_W_holds M hR 47 (fun _ => go rfl rfl rfl) (Bd M s) (by omega))) d_T_canStartLater_15 cd_W_holds lk_T_257 im_W_holds se_W_holds (go rfl rfl rfl) rfl rfl (by decide) (st := []) rfl rfl (Nat.le_of_ble_eq_true rfl) ⟨by decide, Nat.le_refl _, Nat.le_refl _⟩ (fun _ _ hq => ?_)
  obtain ⟨z69, rfl, z69b, z69i, rfl⟩ := hq
  show sx_V _ _ _ _ (0, 0) _ _ [.inl z69] (gm M) _
  refine sx_if_eq (tgt := 64) d_T_canStartLater_18 (by decide) (by omega) (fun c18_18 => ?_) (fun c18_18 => ?_)
  · refine sx_iconst d_T_canStartLater_64 ?_
    refine sx_retI d_T_canStartLater_65 (Or.inr ⟨rfl, by first | exact Or.inl rfl | exact Or.inr rfl | omega⟩) ⟨Nat.zero_le _, Nat.zero_le _⟩ ?_
    refine ⟨_, rfl, Or.inl rfl, ⟨fun k => absurd k (by decide), fun k => ?_⟩, rfl⟩
    obtain ⟨k1, k2, k3⟩ := k
    exfalso
    first | (have := zri.mpr k3; omega) | omega
  · refine sx_aload_n d_T_canStartLater_21 rfl ?_
    refine sx_getR (r := some (2)) d_T_canStartLater_22 fl_T_10 (go rfl rfl rfl) (by decide) (by decide) (by decide) rfl ?_
    refine sx_iload_n d_T_canStartLater_25 rfl ?_
    refine sx_iload_n d_T_canStartLater_26 rfl ?_
    refine sx_callV (c_L_endOf M hI hR w (by omega) (hWs w hw).1 s (by omega)) d_T_canStartLater_27 cd_L_endOf lk_T_162 im_L_endOf se_L_endOf (go rfl rfl rfl) rfl rfl (by decide) (st := []) rfl rfl (Nat.le_of_ble_eq_true rfl) ⟨by decide, Nat.le_refl _, Nat.le_refl _⟩ (fun _ _ hq => ?_)
    obtain ⟨rfl, rfl⟩ := hq
    show sx_V _ _ _ _ (0, 0) _ _ [.inl (eT M w s)] (gm M) _
    have eq := eT_r (hWs w hw).1 (s := s) (by omega)
    refine sx_aload_n d_T_canStartLater_30 rfl ?_
    refine sx_getI (z := (M 1 8)) d_T_canStartLater_31 fl_T_146 (go rfl rfl rfl) (by decide) (by decide) (by decide) rfl ?_
    refine sx_icmp_gt (tgt := 64) d_T_canStartLater_34 (by decide) (by omega) (hR _ _) (fun c34_35 => ?_) (fun c34_35 => ?_)
    · refine sx_iconst d_T_canStartLater_64 ?_
      refine sx_retI d_T_canStartLater_65 (Or.inr ⟨rfl, by first | exact Or.inl rfl | exact Or.inr rfl | omega⟩) ⟨Nat.zero_le _, Nat.zero_le _⟩ ?_
      refine ⟨_, rfl, Or.inl rfl, ⟨fun k => absurd k (by decide), fun k => ?_⟩, rfl⟩
      obtain ⟨k1, k2, k3⟩ := k
      exfalso
      first | (have := zri.mpr k3; omega) | omega
    · refine sx_aload_n d_T_canStartLater_37 rfl ?_
      refine sx_getR (r := some (20)) d_T_canStartLater_38 fl_T_21 (go rfl rfl rfl) (by decide) (by decide) (by decide) rfl ?_
      refine sx_aload_n d_T_canStartLater_41 rfl ?_
      refine sx_getR (r := some (22)) d_T_canStartLater_42 fl_T_28 (go rfl rfl rfl) (by decide) (by decide) (by decide) rfl ?_
      refine sx_iload_n d_T_canStartLater_45 rfl ?_
      refine sx_iload_n d_T_canStartLater_46 rfl ?_
      refine sx_aload_n d_T_canStartLater_47 rfl ?_
      refine sx_getR (r := some (2)) d_T_canStartLater_48 fl_T_10 (go rfl rfl rfl) (by decide) (by decide) (by decide) rfl ?_
      refine sx_getI (z := (nw : Int)) d_T_canStartLater_51 fl_T_80 (go rfl rfl rfl) (by decide) (by decide) (by decide) hnw ?_
      refine sx_callV (c_R_room M hI hR 22 23 (fun _ => go rfl rfl rfl) (fun _ => go rfl rfl rfl) (fun _ => rfl) w (by omega) (hWs w hw).2.2.2.1 nw h6 (fun o ho => (hWs o ho).1) (fun o ho => by have := (hpl o ho).1; omega) (hWs w hw).1 s (by omega)) d_T_canStartLater_54 cd_R_hasRoom lk_T_260 im_R_hasRoom se_R_hasRoom (go rfl rfl rfl) rfl rfl (by decide) (st := []) rfl rfl (Nat.le_of_ble_eq_true rfl) ⟨by decide, Nat.le_refl _, Nat.le_refl _⟩ (fun _ _ hq => ?_)
      obtain ⟨zr, rfl, zrb, rfl, zri⟩ := hq
      show sx_V _ _ _ _ (0, 0) _ _ [.inl zr] (gm M) _
      refine sx_if_eq (tgt := 64) d_T_canStartLater_57 (by decide) (by omega) (fun c57_54 => ?_) (fun c57_54 => ?_)
      · refine sx_iconst d_T_canStartLater_64 ?_
        refine sx_retI d_T_canStartLater_65 (Or.inr ⟨rfl, by first | exact Or.inl rfl | exact Or.inr rfl | omega⟩) ⟨Nat.zero_le _, Nat.zero_le _⟩ ?_
        refine ⟨_, rfl, Or.inl rfl, ⟨fun k => absurd k (by decide), fun k => ?_⟩, rfl⟩
        obtain ⟨k1, k2, k3⟩ := k
        exfalso
        first | (have := zri.mpr k3; omega) | omega
      · refine sx_iconst d_T_canStartLater_60 ?_
        refine sx_goto (tgt := 65) d_T_canStartLater_61 (by decide) ?_
        refine sx_retI d_T_canStartLater_65 (Or.inr ⟨rfl, by first | exact Or.inl rfl | exact Or.inr rfl | omega⟩) ⟨Nat.zero_le _, Nat.zero_le _⟩ ?_
        refine ⟨_, rfl, Or.inr rfl, ⟨fun _ => ⟨by omega, by omega, zri.mp (by omega)⟩, fun _ => rfl⟩, rfl⟩
/-- how many working starts behind one another are good -/
noncomputable def skf (W P : Int → Prop) : Nat → Int → Int
  | 0, _ => 0
  | n + 1, s => b01 (W s) * (b01 (P s) * (1 + skf W P n (s + 1))) + (1 - b01 (W s)) * skf W P n (s + 1)
theorem skf_r (W P : Int → Prop) (n : Nat) (s : Int) : 0 ≤ skf W P n s ∧ skf W P n s ≤ n := by
  induction n generalizing s with
  | zero => exact ⟨Int.le_refl _, Int.le_refl _⟩
  | succ n ih =>
    have h := ih (s + 1)
    simp only [skf]
    unfold b01
    (repeat' split) <;> omega
theorem skf_no {W P : Int → Prop} {n : Nat} {s : Int} (h : ¬ W s) : skf W P (n + 1) s = skf W P n (s + 1) := by
  simp only [skf, b01_f h]
  omega
theorem skf_go {W P : Int → Prop} {n : Nat} {s : Int} (h : W s) (h2 : P s) : skf W P (n + 1) s = 1 + skf W P n (s + 1) := by
  simp only [skf, b01_t h, b01_t h2]
  omega
theorem skf_end {W P : Int → Prop} {n : Nat} {s : Int} (h : W s) (h2 : ¬ P s) : skf W P (n + 1) s = 0 := by
  simp only [skf, b01_t h, b01_f h2]
  omega
theorem skf_c {W P W2 P2 : Int → Prop} (n : Nat) (s : Int) (h : ∀ t, s ≤ t → t < s + n → (W t ↔ W2 t) ∧ (W t → (P t ↔ P2 t))) : skf W P n s = skf W2 P2 n s := by
  induction n generalizing s with
  | zero => rfl
  | succ n ih =>
    have h0 := h s (Int.le_refl _) (by omega)
    have h1 := ih (s + 1) (fun t a b => h t (by omega) (by omega))
    by_cases q : W s
    · by_cases q2 : P s
      · rw [skf_go q q2, skf_go (h0.1.mp q) ((h0.2 q).mp q2), h1]
      · rw [skf_end q q2, skf_end (h0.1.mp q) (fun z => q2 ((h0.2 q).mpr z))]
    · rw [skf_no q, skf_no (fun z => q (h0.1.mpr z)), h1]
/-- a later start of a work is good, by the class's reckoning -/
def cSl (M : Nat → Nat → Int) (nw nb w : Nat) (s : Int) : Prop := ((oL M w (M 24 w) nb (Bd M s) ∧ ∀ o, o < nw → o ≠ w → kL M 23 24 o w (M 24 w) (Bd M s)) ∧ (oG M w (Bd M s) ∧ ∀ o, o < nw → o ≠ w → kG M 23 24 o w (M 24 w) (Bd M s))) ∧ eT M w s ≤ M 1 8 ∧ hRm M 23 w s nw
theorem WKs.c {M M1 : Nat → Nat → Int} {nw nb : Nat} (h6 : nw ≤ 6) (h : lo M M1) (hW : WKs M nw nb) : WKs M1 nw nb := fun w hw => by
  have h1 := hW w hw
  have hw6 : w < 6 := by omega
  refine ⟨lo_IW h hw6 h1.1, lo_IS h hw6 h1.2.1, fun d => lo_IB h hw6 (h1.2.2.1 d), ?_, ?_⟩
  · rw [lo_wk h hw6]; exact h1.2.2.2.1
  · rw [lo_wk h hw6]; exact h1.2.2.2.2
set_option maxRecDepth 100000 in
set_option maxHeartbeats 4000000 in
theorem c_slack_bad {L : Nat} {xs : Nat → Int32} (M : Nat → Nat → Int) (hR : IR M) (nw : Nat) (hnw : M 2 9 = (nw : Int)) (h6 : nw ≤ 6) (w : Int) (hw : sx_r w) (hbd : ¬ (M 1 7 ≠ 0 ∧ 0 ≤ w ∧ w < nw)) : sx_R y_T_slack (4, 0, 0) L xs [sx_p 1, .inl w] (gm M) (fun v h2 => v = some (.inl (-1)) ∧ h2 = gm M) := by
  refine sx_enter rfl (Nat.le_of_ble_eq_true rfl) rfl ?_
  show sx_V y_T_slack (4, 0, 0) L xs (0, 0) 0 [some (sx_p 1), some (.inl w), none, none] [] (gm M) _
  refine sx_aload_n d_T_slack_0 rfl ?_
  refine sx_iload_n d_T_slack_1 rfl ?_
  refine sx_callV (c_T_isPlanned M hR nw hnw h6 w (by omega)) d_T_slack_2 cd_T_isPlanned lk_T_156 im_T_isPlanned se_T_isPlanned (go rfl rfl rfl) rfl rfl (by decide) (st := []) rfl rfl (Nat.le_of_ble_eq_true rfl) ⟨by decide, Nat.le_refl _, Nat.le_refl _⟩ (fun _ _ hq => ?_)
  obtain ⟨z70, rfl, z70b, z70i, rfl⟩ := hq
  show sx_V _ _ _ _ (0, 0) _ _ [.inl z70] (gm M) _
  refine sx_if_ne (tgt := 10) d_T_slack_5 (by decide) (by omega) (fun c5_10 => ?_) (fun c5_10 => ?_)
  · omega
  · refine sx_iconst d_T_slack_8 ?_
    refine sx_retI d_T_slack_9 (Or.inl rfl) ⟨Nat.zero_le _, Nat.zero_le _⟩ ?_
    exact ⟨rfl, rfl⟩
set_option maxRecDepth 100000 in
set_option maxHeartbeats 4000000 in
theorem l_T_slack {L : Nat} {xs : Nat → Int32} (M : Nat → Nat → Int) (hI : IDy M) (hR : IR M) (nw : Nat) (hnw : M 2 9 = (nw : Int)) (h6 : nw ≤ 6) (nb : Nat) (hWs : WKs M nw nb) (hpl : ∀ w, w < nw → (0 ≤ M 23 w ∧ M 23 w ≤ 99) ∧ (M 24 w = 0 ∨ M 24 w = 1)) (w : Nat) (hw : w < nw) : ∀ (n : Nat) (s l : Int), s + n = 100 → 0 ≤ s → (0 ≤ l ∧ l ≤ 1000 - n) → sx_V y_T_slack (4, 0, 0) L xs (0, 0) 56 [some (sx_p 1), some (.inl (w : Int)), some (.inl l), some (.inl s)] [] (gm M) (fun v h2 => v = some (.inl (l + skf (fun s => dr M s.toNat = false) (fun s => (M 47 0 ≤ Bd M s ∧ Bd M s ≤ M 47 1) ∧ eT M w s ≤ M 1 8 ∧ hRm M 23 w s nw) n s)) ∧ h2 = gm M) := by
  intro n
  induction n with
  | zero =>
    intro s l hn hl hs
    refine sx_iload_n d_T_slack_56 rfl ?_
    refine sx_bipush d_T_slack_57 (by decide) ?_
    refine sx_icmp_ge (tgt := 97) d_T_slack_59 (by decide) (by omega) ⟨by decide, by decide⟩ (fun c59_2 => ?_) (fun c59_2 => ?_)
    · refine sx_iload_n d_T_slack_97 rfl ?_
      refine sx_retI d_T_slack_98 (Or.inl rfl) ⟨Nat.zero_le _, Nat.zero_le _⟩ ?_
      refine ⟨?_, rfl⟩
      simp only [skf, Int.add_zero]
    · omega
  | succ n ih =>
    intro s l hn hl hs
    refine sx_iload_n d_T_slack_56 rfl ?_
    refine sx_bipush d_T_slack_57 (by decide) ?_
    refine sx_icmp_ge (tgt := 97) d_T_slack_59 (by decide) (by omega) ⟨by decide, by decide⟩ (fun c59_12 => ?_) (fun c59_12 => ?_)
    · omega
    · refine sx_aload_n d_T_slack_62 rfl ?_
      refine sx_getR (r := some (2)) d_T_slack_63 fl_T_10 (go rfl rfl rfl) (by decide) (by decide) (by decide) rfl ?_
      refine sx_getR (r := some (3)) d_T_slack_66 fl_T_115 (go rfl rfl rfl) (by decide) (by decide) (by decide) rfl ?_
      refine sx_iload_n d_T_slack_69 rfl ?_
      refine sx_callV (z_of (c_D_isWorking M hI s (by omega))) d_T_slack_70 cd_D_isWorking lk_T_119 im_D_isWorking se_D_isWorking (go rfl rfl rfl) rfl rfl (by decide) (st := []) rfl rfl (Nat.le_of_ble_eq_true rfl) ⟨by decide, Nat.le_refl _, Nat.le_refl _⟩ (fun _ _ hq => ?_)
      obtain ⟨z71, rfl, z71b, z71i, rfl⟩ := hq
      show sx_V _ _ _ _ (0, 0) _ _ [.inl z71] (gm M) _
      refine sx_if_eq (tgt := 91) d_T_slack_73 (by decide) (by omega) (fun c73_21 => ?_) (fun c73_21 => ?_)
      · refine sx_iinc (l' := [some (sx_p 1), some (.inl (w : Int)), some (.inl l), some (.inl (s + 1))]) d_T_slack_91 rfl (by decide) rfl rfl ?_
        refine sx_goto (tgt := 56) d_T_slack_94 (by decide) ?_
        rw [skf_no (fun q => by have := z71i.mpr ⟨by omega, q⟩; omega)]
        exact ih (s + 1) l (by omega) (by omega) (by omega)
      · refine sx_aload_n d_T_slack_76 rfl ?_
        refine sx_iload_n d_T_slack_77 rfl ?_
        refine sx_iload_n d_T_slack_78 rfl ?_
        refine sx_callV (c_T_csl M hI hR nw hnw h6 nb hWs hpl w hw s (by omega)) d_T_slack_79 cd_T_canStartLater lk_T_220 im_T_canStartLater se_T_canStartLater (go rfl rfl rfl) rfl rfl (by decide) (st := []) rfl rfl (Nat.le_of_ble_eq_true rfl) ⟨by decide, Nat.le_refl _, Nat.le_refl _⟩ (fun _ _ hq => ?_)
        obtain ⟨z72, rfl, z72b, z72i, rfl⟩ := hq
        show sx_V _ _ _ _ (0, 0) _ _ [.inl z72] (gm M) _
        refine sx_if_ne (tgt := 88) d_T_slack_82 (by decide) (by omega) (fun c82_32 => ?_) (fun c82_32 => ?_)
        · refine sx_iinc (l' := [some (sx_p 1), some (.inl (w : Int)), some (.inl (l + 1)), some (.inl s)]) d_T_slack_88 rfl (by decide) rfl rfl ?_
          refine sx_iinc (l' := [some (sx_p 1), some (.inl (w : Int)), some (.inl (l + 1)), some (.inl (s + 1))]) d_T_slack_91 rfl (by decide) rfl rfl ?_
          refine sx_goto (tgt := 56) d_T_slack_94 (by decide) ?_
          rw [skf_go (z71i.mp (by omega)).2 (z72i.mp (by omega))]
          rw [show l + (1 + skf (fun s => dr M s.toNat = false) (fun s => (M 47 0 ≤ Bd M s ∧ Bd M s ≤ M 47 1) ∧ eT M w s ≤ M 1 8 ∧ hRm M 23 w s nw) n (s + 1)) = (l + 1) + skf (fun s => dr M s.toNat = false) (fun s => (M 47 0 ≤ Bd M s ∧ Bd M s ≤ M 47 1) ∧ eT M w s ≤ M 1 8 ∧ hRm M 23 w s nw) n (s + 1) by omega]
          exact ih (s + 1) (l + 1) (by omega) (by omega) (by omega)
        · refine sx_goto (tgt := 97) d_T_slack_85 (by decide) ?_
          rw [skf_end (z71i.mp (by omega)).2 (fun q => by have := z72i.mpr q; omega), Int.add_zero]
          refine sx_iload_n d_T_slack_97 rfl ?_
          refine sx_retI d_T_slack_98 (Or.inl rfl) ⟨Nat.zero_le _, Nat.zero_le _⟩ ?_
          exact ⟨rfl, rfl⟩
set_option maxRecDepth 100000 in
set_option maxHeartbeats 4000000 in
theorem c_slack_ok {L : Nat} {xs : Nat → Int32} (M : Nat → Nat → Int) (hI : IDy M) (hR : IR M) (nw : Nat) (hnw : M 2 9 = (nw : Int)) (h6 : nw ≤ 6) (nb : Nat) (hnb : M 2 10 = (nb : Int)) (hb8 : nb ≤ 8) (hWs : WKs M nw nb) (hpl : ∀ w, w < nw → (0 ≤ M 23 w ∧ M 23 w ≤ 99) ∧ (M 24 w = 0 ∨ M 24 w = 1)) (hgp : ∀ j, j < 36 → -1 ≤ M 9 j ∧ M 9 j ≤ 30) (w : Nat) (hw : w < nw) (h7 : M 1 7 ≠ 0) : sx_R y_T_slack (4, 0, 0) L xs [sx_p 1, .inl (w : Int)] (gm M) (fun v h2 => v = some (.inl (skf (fun s => dr M s.toNat = false) (cSl M nw nb w) (99 - M 23 w).toNat (M 23 w + 1))) ∧ ∃ M2, h2 = gm M2 ∧ fr 47 M M2 ∧ IR M2) := by
  refine sx_enter rfl (Nat.le_of_ble_eq_true rfl) rfl ?_
  show sx_V y_T_slack (4, 0, 0) L xs (0, 0) 0 [some (sx_p 1), some (.inl (w : Int)), none, none] [] (gm M) _
  refine sx_aload_n d_T_slack_0 rfl ?_
  refine sx_iload_n d_T_slack_1 rfl ?_
  refine sx_callV (c_T_isPlanned M hR nw hnw h6 (w : Int) (by omega)) d_T_slack_2 cd_T_isPlanned lk_T_156 im_T_isPlanned se_T_isPlanned (go rfl rfl rfl) rfl rfl (by decide) (st := []) rfl rfl (Nat.le_of_ble_eq_true rfl) ⟨by decide, Nat.le_refl _, Nat.le_refl _⟩ (fun _ _ hq => ?_)
  obtain ⟨z73, rfl, z73b, z73i, rfl⟩ := hq
  show sx_V _ _ _ _ (0, 0) _ _ [.inl z73] (gm M) _
  refine sx_if_ne (tgt := 10) d_T_slack_5 (by decide) (by omega) (fun c5_10 => ?_) (fun c5_10 => ?_)
  · refine sx_aload_n d_T_slack_10 rfl ?_
    refine sx_getR (r := some (20)) d_T_slack_11 fl_T_21 (go rfl rfl rfl) (by decide) (by decide) (by decide) rfl ?_
    refine sx_aload_n d_T_slack_14 rfl ?_
    refine sx_getR (r := some (47)) d_T_slack_15 fl_T_44 (go rfl rfl rfl) (by decide) (by decide) (by decide) rfl ?_
    refine sx_aload_n d_T_slack_18 rfl ?_
    refine sx_getR (r := some (22)) d_T_slack_19 fl_T_28 (go rfl rfl rfl) (by decide) (by decide) (by decide) rfl ?_
    refine sx_iload_n d_T_slack_22 rfl ?_
    refine sx_aload_n d_T_slack_23 rfl ?_
    refine sx_getR (r := some (22)) d_T_slack_24 fl_T_28 (go rfl rfl rfl) (by decide) (by decide) (by decide) rfl ?_
    refine sx_getR (r := some (24)) d_T_slack_27 fl_T_166 (go rfl rfl rfl) (by decide) (by decide) (by decide) rfl ?_
    refine sx_iload_n d_T_slack_30 rfl ?_
    refine sx_iald (z := (M 24 w)) d_T_slack_31 (go rfl rfl rfl) (by omega) (by omega) (by decide) rfl ?_
    refine sx_aload_n d_T_slack_32 rfl ?_
    refine sx_getR (r := some (2)) d_T_slack_33 fl_T_10 (go rfl rfl rfl) (by decide) (by decide) (by decide) rfl ?_
    refine sx_getI (z := (nw : Int)) d_T_slack_36 fl_T_80 (go rfl rfl rfl) (by decide) (by decide) (by decide) hnw ?_
    refine sx_callV (c_R_open M hI hR 47 (fun _ => go rfl rfl rfl) (by decide) 22 23 24 (fun _ => go rfl rfl rfl) (fun _ => go rfl rfl rfl) (fun _ => go rfl rfl rfl) (fun _ => rfl) (fun _ => rfl) (by decide) (by decide) w (by omega) (hWs w hw).1 (hWs w hw).2.1 (M 24 w) (hR _ _) nb hnb hb8 ((hWs w hw).2.2.1 _) nw h6 (fun o ho => (hWs o ho).1) (fun o ho => by have := (hpl o ho).1; omega) hgp) d_T_slack_39 cd_R_open lk_T_216 im_R_open se_R_open (go rfl rfl rfl) rfl rfl (by decide) (st := []) rfl rfl (Nat.le_of_ble_eq_true rfl) ⟨by decide, Nat.le_refl _, Nat.le_refl _⟩ (fun _ _ hq => ?_)
    obtain ⟨rfl, m2, rfl, m2f, m2R, m20, m21⟩ := hq
    have lo2 : lo M m2 := fun a k ha => m2f a k (by omega)
    show sx_V _ _ _ _ (0, 0) _ _ [] (gm m2) _
    refine sx_iconst d_T_slack_42 ?_
    refine sx_istore_n (l' := [some (sx_p 1), some (.inl (w : Int)), some (.inl 0), none]) d_T_slack_43 (by decide) rfl rfl ?_
    refine sx_aload_n d_T_slack_44 rfl ?_
    refine sx_getR (r := some (22)) d_T_slack_45 fl_T_28 (go rfl rfl rfl) (by decide) (by decide) (by decide) rfl ?_
    refine sx_getR (r := some (23)) d_T_slack_48 fl_T_159 (go rfl rfl rfl) (by decide) (by decide) (by decide) rfl ?_
    refine sx_iload_n d_T_slack_51 rfl ?_
    refine sx_iald (z := (M 23 w)) d_T_slack_52 (go rfl rfl rfl) (by omega) (by omega) (by decide) (m2f 23 w (by decide)) ?_
    refine sx_iconst d_T_slack_53 ?_
    refine sx_iadd d_T_slack_54 ?_
    refine sx_istore_n (l' := [some (sx_p 1), some (.inl (w : Int)), some (.inl 0), some (.inl ((M 23 w) + 1))]) d_T_slack_55 (by decide) rfl rfl ?_
    have hpw := (hpl w hw).1
    have q := l_T_slack (L := L) (xs := xs) m2 (fr_IDy m2f (by decide) hI) m2R nw ((m2f 2 9 (by decide)).trans hnw) h6 nb (hWs.c h6 lo2) (fun o ho => by rw [m2f 23 o (by decide), m2f 24 o (by decide)]; exact hpl o ho) w hw (99 - M 23 w).toNat (M 23 w + 1) 0 (by omega) (by omega) (by omega)
    refine q.mono ?_
    rintro v h2 ⟨rfl, rfl⟩
    refine ⟨?_, m2, rfl, m2f, m2R⟩
    rw [Int.zero_add]
    congr 2
    refine skf_c _ _ (fun t _ _ => ⟨by rw [fr_dr m2f (by decide)], fun _ => ?_⟩)
    unfold cSl
    rw [← m20, ← m21, fr_Bd m2f (by decide), fr_eT m2f (by decide) (by omega), m2f 1 8 (by decide)]
    exact and_congr Iff.rfl (and_congr Iff.rfl (by have := hRs_c lo2 (S := M 23) (S1 := m2 23) (w := w) (m := nw) (by omega) h6 (fun o ho => m2f 23 o (by decide)) t; exact this))
  · omega
