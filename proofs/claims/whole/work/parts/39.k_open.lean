set_option maxRecDepth 100000 in
set_option maxHeartbeats 4000000 in
theorem l_R_oA {L : Nat} {xs : Nat → Int32} (M : Nat → Nat → Int) (hI : IDy M) (hR : IR M) (u : Nat) (ho : ∀ M, sx_o (gm M) u 6 2) (hu0 : 20 < u) (w : Nat) (hw : w < 6) (hW : IW M w) (hS : IS M w) (way : Int) (hway : sx_r way) (nb : Nat) (hnb : M 2 10 = (nb : Int)) (hnb8 : nb ≤ 8) (hB : IB M nb w way) : ∀ (n i : Nat) (M1 : Nat → Nat → Int) (l8 : Option sx_v), nb - i < n → i ≤ nb → fr u M M1 → IR M1 → (∀ n, M1 u 0 ≤ n ↔ Bd M (M (14 + w) 7) ≤ n ∧ Bd M (M (14 + w) 9) ≤ n ∧ ∀ k, k < i → M 11 k = (w : Int) → fS M w (wx M w (M 12 k) way) (M 13 k) 1 ≤ n) → M1 u 1 = (if (Bd M (M (14 + w) 8 + 1) - M (14 + w) 5) < (Bd M 100 - 1) then (Bd M (M (14 + w) 8 + 1) - M (14 + w) 5) else (Bd M 100 - 1)) → sx_V y_R_openAlone (2, 0, 0) L xs (0, 0) 88 [some (sx_p 20), some (sx_p u), some (.inl (w : Int)), some (.inl way), some (sx_p (14 + w)), some (.inl (Bd M 100 - 1)), some (.inl (Bd M (M (14 + w) 8 + 1) - M (14 + w) 5)), some (.inl (i : Int)), l8] [] (gm M1) (fun v h2 => v = none ∧ ∃ M2, h2 = gm M2 ∧ fr u M M2 ∧ IR M2 ∧ (∀ n, M2 u 0 ≤ n ↔ oL M w way nb n) ∧ (∀ n, n ≤ M2 u 1 ↔ oG M w n)) := by
  intro n
  induction n with
  | zero => intro i M1 l8 h1 h2; omega
  | succ n ih =>
    intro i M1 l8 hn hi M1f M1R M10 M11
    refine sx_iload d_R_openAlone_88 rfl ?_
    refine sx_aload_n d_R_openAlone_90 rfl ?_
    refine sx_getR (r := some (2)) d_R_openAlone_91 fl_R_18 (go rfl rfl rfl) (by decide) (by decide) (by decide) rfl ?_
    refine sx_getI (z := (nb : Int)) d_R_openAlone_94 fl_R_84 (go rfl rfl rfl) (by decide) (by decide) (by decide) ((M1f 2 10 (by omega)).trans hnb) ?_
    refine sx_icmp_ge (tgt := 161) d_R_openAlone_97 (by decide) ⟨by omega, by omega⟩ ⟨by omega, by omega⟩ (fun c97_12 => ?_) (fun c97_12 => ?_)
    · refine sx_retV d_R_openAlone_161 rfl ⟨by decide, by decide⟩ ?_
      have e0 : i = nb := by omega
      subst e0
      refine ⟨rfl, _, rfl, M1f, M1R, M10, fun n2 => ?_⟩
      rw [M11]
      unfold oG
      split <;> omega
    · refine sx_aload_n d_R_openAlone_100 rfl ?_
      refine sx_getR (r := some (2)) d_R_openAlone_101 fl_R_18 (go rfl rfl rfl) (by decide) (by decide) (by decide) rfl ?_
      refine sx_getR (r := some (11)) d_R_openAlone_104 fl_R_87 (go rfl rfl rfl) (by decide) (by decide) (by decide) rfl ?_
      refine sx_iload d_R_openAlone_107 rfl ?_
      refine sx_iald (z := (M 11 i)) d_R_openAlone_109 (go rfl rfl rfl) (by omega) (by omega) (by decide) (M1f 11 i (by omega)) ?_
      refine sx_iload_n d_R_openAlone_110 rfl ?_
      refine sx_icmp_ne (tgt := 155) d_R_openAlone_111 (by decide) (hR _ _) ⟨by omega, by omega⟩ (fun c111_26 => ?_) (fun c111_26 => ?_)
      · refine sx_iinc (l' := [some (sx_p 20), some (sx_p u), some (.inl (w : Int)), some (.inl way), some (sx_p (14 + w)), some (.inl (Bd M 100 - 1)), some (.inl (Bd M (M (14 + w) 8 + 1) - M (14 + w) 5)), some (.inl ((i : Int) + 1)), l8]) d_R_openAlone_155 rfl (by decide) rfl rfl ?_
        refine sx_goto (tgt := 88) d_R_openAlone_158 (by decide) ?_
        have e1 : ((i : Int) + 1) = ((i + 1 : Nat) : Int) := by omega
        rw [e1]
        refine ih (i + 1) _ _ (by omega) (by omega) M1f M1R (fun n2 => ?_) M11
        rw [M10 n2]
        constructor
        · rintro ⟨k1, k2, k3⟩; exact ⟨k1, k2, fun k hk hkw => by rcases Nat.lt_or_ge k i with q | q; exact k3 k q hkw; rw [show k = i by omega] at hkw; exact absurd hkw (by omega)⟩
        · rintro ⟨k1, k2, k3⟩; exact ⟨k1, k2, fun k hk => k3 k (by omega)⟩
      · have hBi := hB i (by omega) c111_26
        refine sx_aload d_R_openAlone_114 rfl ?_
        refine sx_aload_n d_R_openAlone_116 rfl ?_
        refine sx_getR (r := some (2)) d_R_openAlone_117 fl_R_18 (go rfl rfl rfl) (by decide) (by decide) (by decide) rfl ?_
        refine sx_getR (r := some (12)) d_R_openAlone_120 fl_R_91 (go rfl rfl rfl) (by decide) (by decide) (by decide) rfl ?_
        refine sx_iload d_R_openAlone_123 rfl ?_
        refine sx_iald (z := (M 12 i)) d_R_openAlone_125 (go rfl rfl rfl) (by omega) (by omega) (by decide) (M1f 12 i (by omega)) ?_
        refine sx_iload_n d_R_openAlone_126 rfl ?_
        refine sx_callV (by have q := c_K_wayTo (L := L) (xs := xs) M1 w hw (M 12 i) way hway; simp only [fr_wk M1f hu0 hw] at q; exact q) d_R_openAlone_127 cd_K_wayTo lk_R_94 im_K_wayTo se_K_wayTo (go_w _ hw) rfl rfl (by decide) (st := []) rfl rfl (Nat.le_of_ble_eq_true rfl) ⟨by decide, by decide, by decide⟩ (fun _ _ hq => ?_)
        obtain ⟨rfl, rfl⟩ := hq
        show sx_V _ _ _ _ (0, 0) _ _ [.inl (wx M w (M 12 i) way)] (gm M1) _
        refine sx_istore (l' := [some (sx_p 20), some (sx_p u), some (.inl (w : Int)), some (.inl way), some (sx_p (14 + w)), some (.inl (Bd M 100 - 1)), some (.inl (Bd M (M (14 + w) 8 + 1) - M (14 + w) 5)), some (.inl (i : Int)), some (.inl (wx M w (M 12 i) way))]) d_R_openAlone_130 (by decide) rfl rfl ?_
        refine sx_aload_n d_R_openAlone_132 rfl ?_
        refine sx_aload_n d_R_openAlone_133 rfl ?_
        refine sx_aload d_R_openAlone_134 rfl ?_
        refine sx_iload d_R_openAlone_136 rfl ?_
        refine sx_aload_n d_R_openAlone_138 rfl ?_
        refine sx_getR (r := some (2)) d_R_openAlone_139 fl_R_18 (go rfl rfl rfl) (by decide) (by decide) (by decide) rfl ?_
        refine sx_getR (r := some (13)) d_R_openAlone_142 fl_R_97 (go rfl rfl rfl) (by decide) (by decide) (by decide) rfl ?_
        refine sx_iload d_R_openAlone_145 rfl ?_
        refine sx_iald (z := (M 13 i)) d_R_openAlone_147 (go rfl rfl rfl) (by omega) (by omega) (by decide) (M1f 13 i (by omega)) ?_
        refine sx_iconst d_R_openAlone_148 ?_
        refine sx_callV (x_R_fS (M := M) M1f hu0 hI M1R w hw hW (wx M w (M 12 i) way) (M 13 i) 1 hBi.1 ⟨by decide, by decide⟩ ⟨by omega, by omega⟩) d_R_openAlone_149 cd_R_firstStart lk_R_100 im_R_firstStart se_R_firstStart (go rfl rfl rfl) rfl rfl (by decide) (st := [sx_p u]) rfl rfl (Nat.le_of_ble_eq_true rfl) ⟨by decide, by decide, by decide⟩ (fun _ _ hq => ?_)
        obtain ⟨rfl, rfl⟩ := hq
        show sx_V _ _ _ _ (0, 0) _ _ [.inl (fS M w (wx M w (M 12 i) way) (M 13 i) 1), sx_p u] (gm M1) _
        have fq := (fS_r hW (x := (wx M w (M 12 i) way)) (up := (M 13 i)) (lo := 1) hBi.1 ⟨by decide, by decide⟩ ⟨by omega, by omega⟩).1
        refine sx_callV (x_W_raise (M := M) M1f M1R ho (fS M w (wx M w (M 12 i) way) (M 13 i) 1) fq) d_R_openAlone_152 cd_W_raiseLeast lk_R_80 im_W_raiseLeast se_W_raiseLeast (ho _) rfl rfl (by decide) (st := []) rfl rfl (Nat.le_of_ble_eq_true rfl) ⟨by decide, by decide, by decide⟩ (fun _ _ hq => ?_)
        obtain ⟨rfl, m1, rfl, m1f, m1R, m10, m11⟩ := hq
        show sx_V _ _ _ _ (0, 0) _ _ [] (gm m1) _
        refine sx_iinc (l' := [some (sx_p 20), some (sx_p u), some (.inl (w : Int)), some (.inl way), some (sx_p (14 + w)), some (.inl (Bd M 100 - 1)), some (.inl (Bd M (M (14 + w) 8 + 1) - M (14 + w) 5)), some (.inl ((i : Int) + 1)), some (.inl (wx M w (M 12 i) way))]) d_R_openAlone_155 rfl (by decide) rfl rfl ?_
        refine sx_goto (tgt := 88) d_R_openAlone_158 (by decide) ?_
        have e1 : ((i : Int) + 1) = ((i + 1 : Nat) : Int) := by omega
        rw [e1]
        refine ih (i + 1) _ _ (by omega) (by omega) m1f m1R (fun n2 => ?_) (m11.trans M11)
        rw [m10 n2, M10 n2]
        constructor
        · rintro ⟨⟨k1, k2, k3⟩, k4⟩; exact ⟨k1, k2, fun k hk hkw => by rcases Nat.lt_or_ge k i with q | q; exact k3 k q hkw; rw [show k = i by omega]; exact k4⟩
        · rintro ⟨k1, k2, k3⟩; exact ⟨⟨k1, k2, fun k hk => k3 k (by omega)⟩, k3 i (by omega) (by assumption)⟩
set_option maxRecDepth 100000 in
set_option maxHeartbeats 4000000 in
theorem c_R_oA {L : Nat} {xs : Nat → Int32} (M : Nat → Nat → Int) (hI : IDy M) (hR : IR M) (u : Nat) (ho : ∀ M, sx_o (gm M) u 6 2) (hu0 : 20 < u) (w : Nat) (hw : w < 6) (hW : IW M w) (hS : IS M w) (way : Int) (hway : sx_r way) (nb : Nat) (hnb : M 2 10 = (nb : Int)) (hnb8 : nb ≤ 8) (hB : IB M nb w way) : sx_R y_R_openAlone (2, 0, 0) L xs [sx_p 20, sx_p u, .inl (w : Int), .inl way] (gm M) (fun v h2 => v = none ∧ ∃ M2, h2 = gm M2 ∧ fr u M M2 ∧ IR M2 ∧ (∀ n, M2 u 0 ≤ n ↔ oL M w way nb n) ∧ (∀ n, n ≤ M2 u 1 ↔ oG M w n)) := by
  refine sx_enter rfl (Nat.le_of_ble_eq_true rfl) rfl ?_
  show sx_V y_R_openAlone (2, 0, 0) L xs (0, 0) 0 [some (sx_p 20), some (sx_p u), some (.inl (w : Int)), some (.inl way), none, none, none, none, none] [] (gm M) _
  refine sx_aload_n d_R_openAlone_0 rfl ?_
  refine sx_getR (r := some (2)) d_R_openAlone_1 fl_R_18 (go rfl rfl rfl) (by decide) (by decide) (by decide) rfl ?_
  refine sx_getR (r := some (8)) d_R_openAlone_4 fl_R_37 (go rfl rfl rfl) (by decide) (by decide) (by decide) rfl ?_
  refine sx_iload_n d_R_openAlone_7 rfl ?_
  refine sx_aald (r := some ((14 + w))) d_R_openAlone_8 (go rfl rfl rfl) (t := 0) rfl (by omega) (by omega) (by decide) (gr_w _ hw) ?_
  refine sx_astore (l' := [some (sx_p 20), some (sx_p u), some (.inl (w : Int)), some (.inl way), some (sx_p (14 + w)), none, none, none, none]) d_R_openAlone_9 (by decide) rfl rfl ?_
  obtain ⟨s1, s2, s3, s4, s5, s6⟩ := id hS
  have nq := hW.need
  have b100 := Bd_r M 100
  have bsl := Bd_r M (M (14 + w) 8 + 1)
  have bsf := Bd_r M (M (14 + w) 7)
  have bnb := Bd_r M (M (14 + w) 9)
  refine sx_aload_n d_R_openAlone_11 rfl ?_
  refine sx_getR (r := some (3)) d_R_openAlone_12 fl_R_28 (go rfl rfl rfl) (by decide) (by decide) (by decide) rfl ?_
  refine sx_bipush d_R_openAlone_15 (by decide) ?_
  refine sx_callV (c_D_before M hI 100 ⟨by decide, by decide⟩) d_R_openAlone_17 cd_D_before lk_R_51 im_D_before se_D_before (go rfl rfl rfl) rfl rfl (by decide) (st := []) rfl rfl (Nat.le_of_ble_eq_true rfl) ⟨by decide, by decide, by decide⟩ (fun _ _ hq => ?_)
  obtain ⟨rfl, rfl⟩ := hq
  show sx_V _ _ _ _ (0, 0) _ _ [.inl (Bd M 100)] (gm M) _
  have bq := Bd_r M 100
  refine sx_iconst d_R_openAlone_20 ?_
  refine sx_isub d_R_openAlone_21 ?_
  refine sx_istore (l' := [some (sx_p 20), some (sx_p u), some (.inl (w : Int)), some (.inl way), some (sx_p (14 + w)), some (.inl ((Bd M 100) - 1)), none, none, none]) d_R_openAlone_22 (by decide) rfl rfl ?_
  refine sx_aload_n d_R_openAlone_24 rfl ?_
  refine sx_getR (r := some (3)) d_R_openAlone_25 fl_R_28 (go rfl rfl rfl) (by decide) (by decide) (by decide) rfl ?_
  refine sx_aload d_R_openAlone_28 rfl ?_
  refine sx_getI (z := (M (14 + w) 8)) d_R_openAlone_30 fl_R_57 (go_w _ hw) (by decide) (by decide) (by decide) rfl ?_
  refine sx_iconst d_R_openAlone_33 ?_
  refine sx_iadd d_R_openAlone_34 ?_
  refine sx_callV (c_D_before M hI ((M (14 + w) 8) + 1) (by omega)) d_R_openAlone_35 cd_D_before lk_R_51 im_D_before se_D_before (go rfl rfl rfl) rfl rfl (by decide) (st := []) rfl rfl (Nat.le_of_ble_eq_true rfl) ⟨by decide, by decide, by decide⟩ (fun _ _ hq => ?_)
  obtain ⟨rfl, rfl⟩ := hq
  show sx_V _ _ _ _ (0, 0) _ _ [.inl (Bd M ((M (14 + w) 8) + 1))] (gm M) _
  have bq := Bd_r M ((M (14 + w) 8) + 1)
  refine sx_aload d_R_openAlone_38 rfl ?_
  refine sx_getI (z := (M (14 + w) 5)) d_R_openAlone_40 fl_R_61 (go_w _ hw) (by decide) (by decide) (by decide) rfl ?_
  refine sx_isub d_R_openAlone_43 ?_
  refine sx_istore (l' := [some (sx_p 20), some (sx_p u), some (.inl (w : Int)), some (.inl way), some (sx_p (14 + w)), some (.inl ((Bd M 100) - 1)), some (.inl ((Bd M ((M (14 + w) 8) + 1)) - (M (14 + w) 5))), none, none]) d_R_openAlone_44 (by decide) rfl rfl ?_
  refine sx_aload_n d_R_openAlone_46 rfl ?_
  refine sx_aload_n d_R_openAlone_47 rfl ?_
  refine sx_getR (r := some (3)) d_R_openAlone_48 fl_R_28 (go rfl rfl rfl) (by decide) (by decide) (by decide) rfl ?_
  refine sx_aload d_R_openAlone_51 rfl ?_
  refine sx_getI (z := (M (14 + w) 7)) d_R_openAlone_53 fl_R_64 (go_w _ hw) (by decide) (by decide) (by decide) rfl ?_
  refine sx_callV (c_D_before M hI (M (14 + w) 7) (by omega)) d_R_openAlone_56 cd_D_before lk_R_51 im_D_before se_D_before (go rfl rfl rfl) rfl rfl (by decide) (st := [sx_p u]) rfl rfl (Nat.le_of_ble_eq_true rfl) ⟨by decide, by decide, by decide⟩ (fun _ _ hq => ?_)
  obtain ⟨rfl, rfl⟩ := hq
  show sx_V _ _ _ _ (0, 0) _ _ [.inl (Bd M (M (14 + w) 7)), sx_p u] (gm M) _
  have bq := Bd_r M (M (14 + w) 7)
  refine sx_iload d_R_openAlone_59 rfl ?_
  refine sx_iload d_R_openAlone_61 rfl ?_
  refine sx_mmin d_R_openAlone_63 tw_444 tw_365 tw_11 tw_366 (by decide) (Nat.le_of_ble_eq_true rfl) (by omega) (by omega) ⟨by decide, by decide⟩ ?_
  refine sx_callV (x_W_set (M := M) (fr.rf u M) hR ho (Bd M (M (14 + w) 7)) (if ((Bd M ((M (14 + w) 8) + 1)) - (M (14 + w) 5)) < ((Bd M 100) - 1) then ((Bd M ((M (14 + w) 8) + 1)) - (M (14 + w) 5)) else ((Bd M 100) - 1)) (by omega) (by omega)) d_R_openAlone_66 cd_W_set lk_R_73 im_W_set se_W_set (ho _) rfl rfl (by decide) (st := []) rfl rfl (Nat.le_of_ble_eq_true rfl) ⟨by decide, by decide, by decide⟩ (fun _ _ hq => ?_)
  obtain ⟨rfl, m2, rfl, m2f, m2R, m20, m21⟩ := hq
  show sx_V _ _ _ _ (0, 0) _ _ [] (gm m2) _
  refine sx_aload_n d_R_openAlone_69 rfl ?_
  refine sx_aload_n d_R_openAlone_70 rfl ?_
  refine sx_getR (r := some (3)) d_R_openAlone_71 fl_R_28 (go rfl rfl rfl) (by decide) (by decide) (by decide) rfl ?_
  refine sx_aload d_R_openAlone_74 rfl ?_
  refine sx_getI (z := (M (14 + w) 9)) d_R_openAlone_76 fl_R_77 (go_w _ hw) (by decide) (by decide) (by decide) (m2f (14 + w) 9 (by omega)) ?_
  refine sx_callV (by have q := c_D_before (L := L) (xs := xs) m2 (fr_IDy m2f hu0 hI) (M (14 + w) 9) (by omega); rw [fr_dr m2f hu0] at q; exact q) d_R_openAlone_79 cd_D_before lk_R_51 im_D_before se_D_before (go rfl rfl rfl) rfl rfl (by decide) (st := [sx_p u]) rfl rfl (Nat.le_of_ble_eq_true rfl) ⟨by decide, by decide, by decide⟩ (fun _ _ hq => ?_)
  obtain ⟨rfl, rfl⟩ := hq
  show sx_V _ _ _ _ (0, 0) _ _ [.inl (Bd M (M (14 + w) 9)), sx_p u] (gm m2) _
  have bq := Bd_r M (M (14 + w) 9)
  refine sx_callV (x_W_raise (M := M) m2f m2R ho (Bd M (M (14 + w) 9)) (by omega)) d_R_openAlone_82 cd_W_raiseLeast lk_R_80 im_W_raiseLeast se_W_raiseLeast (ho _) rfl rfl (by decide) (st := []) rfl rfl (Nat.le_of_ble_eq_true rfl) ⟨by decide, by decide, by decide⟩ (fun _ _ hq => ?_)
  obtain ⟨rfl, m3, rfl, m3f, m3R, m30, m31⟩ := hq
  show sx_V _ _ _ _ (0, 0) _ _ [] (gm m3) _
  refine sx_iconst d_R_openAlone_85 ?_
  refine sx_istore (l' := [some (sx_p 20), some (sx_p u), some (.inl (w : Int)), some (.inl way), some (sx_p (14 + w)), some (.inl ((Bd M 100) - 1)), some (.inl ((Bd M ((M (14 + w) 8) + 1)) - (M (14 + w) 5))), some (.inl 0), none]) d_R_openAlone_86 (by decide) rfl rfl ?_
  refine l_R_oA M hI hR u ho hu0 w hw hW hS way hway nb hnb hnb8 hB (nb + 1) 0 _ _ (by omega) (by omega) m3f m3R (fun n2 => ?_) (m31.trans m21)
  rw [m30 n2, m20]
  exact ⟨fun q => ⟨q.1, q.2, fun k hk => absurd hk (Nat.not_lt_zero _)⟩, fun q => ⟨q.1, q.2.1⟩⟩
