set_option maxRecDepth 100000 in
set_option maxHeartbeats 4000000 in
theorem t_f0 {L : Nat} {xs : Nat → Int32} (M : Nat → Nat → Int) (ag g : Int) (nw nb : Nat) (hP : PH M nw nb) (hg : 1 ≤ g ∧ g ≤ 20000) (hag : sx_r ag) (j : Nat) (l : Nat) (hl : l < nw) (S D : Nat → Int) (hSV : SV l S D) (x : Int) (b : sB) (M1 : Nat → Nat → Int) (hST : ST M ag g nw l S D ((x, b), false) M1) (hfz : M (14 + l) 10 = 1) (hwy : M 24 l = 0) (k k2 : Nat) (hk0 : 4 ≤ k) (hk : k2 + 1 ≤ k) (hone : ∀ (x : Int) (b : sB) (M1 : Nat → Nat → Int) (s : Int) (d : Nat), 0 ≤ s ∧ s ≤ 99 → d < 2 → ST M ag g nw l S D ((x, b), false) M1 → WN M nb l S D d M1 → sx_R y_S_tryOne (k2, 0, 0) L xs [sx_p 25, .inl (l : Int), .inl s, .inl (d : Int)] (gm M1) (fun v h2 => v = none ∧ ∃ M3, h2 = gm M3 ∧ ST M ag g nw l S D (one g (GG M ag nw nb l) (fs g (GG M ag nw nb) (CC M) j (l + 1)) l (s, (d : Int)) S D (x, b)) M3 ∧ wfr (l + 1) M1 M3)) : sx_R y_S_tryStarts (k, 0, 0) L xs [sx_p 25, .inl (l : Int)] (gm M1) (fun v h2 => v = none ∧ ∃ M3, h2 = gm M3 ∧ ST M ag g nw l S D (fs g (GG M ag nw nb) (CC M) (j + 1) l S D (x, b)) M3 ∧ wfr l M1 M3) := by
  obtain ⟨hI, hRM, hnw, hnw6, hnb, hnb8, hWk, hgp⟩ := id hP
  have hl6 : l < 6 := by omega
  have M1S := hST
  have M1w := wfr.rf l M1
  have h23 := (hWk l hl).2.2.2.2.2.2 hfz
  refine sx_enter rfl (Nat.le_of_ble_eq_true rfl) rfl ?_
  show sx_V y_S_tryStarts (k, 0, 0) L xs (0, 0) 0 [some (sx_p 25), some (.inl (l : Int)), none, none, none, none, none, none, none] [] (gm M1) _
  refine sx_iload_n d_S_tryStarts_0 rfl ?_
  refine sx_aload_n d_S_tryStarts_1 rfl ?_
  refine sx_getR (r := some (2)) d_S_tryStarts_2 fl_S_34 (go rfl rfl rfl) (by decide) (by decide) (by decide) rfl ?_
  refine sx_getI (z := (nw : Int)) d_S_tryStarts_5 fl_S_67 (go rfl rfl rfl) (by decide) (by decide) (by decide) ((M1S.1.lo _ _ (by omega)).trans hnw) ?_
  refine sx_icmp_ge (tgt := 17) d_S_tryStarts_8 (by decide) (by omega) (by omega) (fun c8_14 => ?_) (fun c8_14 => ?_)
  · omega
  · refine sx_iload_n d_S_tryStarts_11 rfl ?_
    refine sx_bipush d_S_tryStarts_12 (by decide) ?_
    refine sx_icmp_lt (tgt := 18) d_S_tryStarts_14 (by decide) (by omega) ⟨by decide, by decide⟩ (fun c14_18 => ?_) (fun c14_18 => ?_)
    · refine sx_aload_n d_S_tryStarts_18 rfl ?_
      refine sx_getR (r := some (2)) d_S_tryStarts_19 fl_S_34 (go rfl rfl rfl) (by decide) (by decide) (by decide) rfl ?_
      refine sx_getR (r := some (8)) d_S_tryStarts_22 fl_S_72 (go rfl rfl rfl) (by decide) (by decide) (by decide) rfl ?_
      refine sx_iload_n d_S_tryStarts_25 rfl ?_
      refine sx_aald (r := some ((14 + l))) d_S_tryStarts_26 (go rfl rfl rfl) (t := 0) rfl (by omega) (by omega) (by decide) (gr_w _ hl6) ?_
      refine sx_astore_n (l' := [some (sx_p 25), some (.inl (l : Int)), some (sx_p (14 + l)), none, none, none, none, none, none]) d_S_tryStarts_27 (by decide) rfl rfl ?_
      refine sx_aload_n d_S_tryStarts_28 rfl ?_
      refine sx_getI (z := 1) d_S_tryStarts_29 fl_S_76 (go_w _ hl6) (by decide) (by decide) (by decide) ((M1S.1.lo _ _ (by omega)).trans hfz) ?_
      refine sx_if_eq (tgt := 47) d_S_tryStarts_32 (by decide) ⟨by decide, by decide⟩ (fun c32_27 => ?_) (fun c32_27 => ?_)
      · omega
      · refine sx_aload_n d_S_tryStarts_35 rfl ?_
        refine sx_getR (r := some (22)) d_S_tryStarts_36 fl_S_42 (go rfl rfl rfl) (by decide) (by decide) (by decide) rfl ?_
        refine sx_getR (r := some (23)) d_S_tryStarts_39 fl_S_81 (go rfl rfl rfl) (by decide) (by decide) (by decide) rfl ?_
        refine sx_iload_n d_S_tryStarts_42 rfl ?_
        refine sx_iald (z := (M 23 l)) d_S_tryStarts_43 (go rfl rfl rfl) (by omega) (by omega) (by decide) (M1S.1.lo _ _ (by omega)) ?_
        refine sx_goto (tgt := 48) d_S_tryStarts_44 (by decide) ?_
        refine sx_istore_n (l' := [some (sx_p 25), some (.inl (l : Int)), some (sx_p (14 + l)), some (.inl (M 23 l)), none, none, none, none, none]) d_S_tryStarts_48 (by decide) rfl rfl ?_
        refine sx_aload_n d_S_tryStarts_49 rfl ?_
        refine sx_getI (z := 1) d_S_tryStarts_50 fl_S_76 (go_w _ hl6) (by decide) (by decide) (by decide) ((M1S.1.lo _ _ (by omega)).trans hfz) ?_
        refine sx_if_eq (tgt := 60) d_S_tryStarts_53 (by decide) ⟨by decide, by decide⟩ (fun c53_38 => ?_) (fun c53_38 => ?_)
        · omega
        · refine sx_iload_n d_S_tryStarts_56 rfl ?_
          refine sx_goto (tgt := 62) d_S_tryStarts_57 (by decide) ?_
          refine sx_istore (l' := [some (sx_p 25), some (.inl (l : Int)), some (sx_p (14 + l)), some (.inl (M 23 l)), some (.inl (M 23 l)), none, none, none, none]) d_S_tryStarts_62 (by decide) rfl rfl ?_
          refine sx_aload_n d_S_tryStarts_64 rfl ?_
          refine sx_getI (z := 1) d_S_tryStarts_65 fl_S_76 (go_w _ hl6) (by decide) (by decide) (by decide) ((M1S.1.lo _ _ (by omega)).trans hfz) ?_
          refine sx_if_eq (tgt := 83) d_S_tryStarts_68 (by decide) ⟨by decide, by decide⟩ (fun c68_45 => ?_) (fun c68_45 => ?_)
          · omega
          · refine sx_aload_n d_S_tryStarts_71 rfl ?_
            refine sx_getR (r := some (22)) d_S_tryStarts_72 fl_S_42 (go rfl rfl rfl) (by decide) (by decide) (by decide) rfl ?_
            refine sx_getR (r := some (24)) d_S_tryStarts_75 fl_S_84 (go rfl rfl rfl) (by decide) (by decide) (by decide) rfl ?_
            refine sx_iload_n d_S_tryStarts_78 rfl ?_
            refine sx_iald (z := 0) d_S_tryStarts_79 (go rfl rfl rfl) (by omega) (by omega) (by decide) ((M1S.1.lo _ _ (by omega)).trans hwy) ?_
            refine sx_goto (tgt := 84) d_S_tryStarts_80 (by decide) ?_
            refine sx_istore (l' := [some (sx_p 25), some (.inl (l : Int)), some (sx_p (14 + l)), some (.inl (M 23 l)), some (.inl (M 23 l)), some (.inl 0), none, none, none]) d_S_tryStarts_84 (by decide) rfl rfl ?_
            refine sx_aload_n d_S_tryStarts_86 rfl ?_
            refine sx_getI (z := 1) d_S_tryStarts_87 fl_S_76 (go_w _ hl6) (by decide) (by decide) (by decide) ((M1S.1.lo _ _ (by omega)).trans hfz) ?_
            refine sx_if_eq (tgt := 98) d_S_tryStarts_90 (by decide) ⟨by decide, by decide⟩ (fun c90_56 => ?_) (fun c90_56 => ?_)
            · omega
            · refine sx_iload d_S_tryStarts_93 rfl ?_
              refine sx_goto (tgt := 110) d_S_tryStarts_95 (by decide) ?_
              refine sx_istore (l' := [some (sx_p 25), some (.inl (l : Int)), some (sx_p (14 + l)), some (.inl (M 23 l)), some (.inl (M 23 l)), some (.inl 0), some (.inl 0), none, none]) d_S_tryStarts_110 (by decide) rfl rfl ?_
              refine sx_iload d_S_tryStarts_112 rfl ?_
              refine sx_istore (l' := [some (sx_p 25), some (.inl (l : Int)), some (sx_p (14 + l)), some (.inl (M 23 l)), some (.inl (M 23 l)), some (.inl 0), some (.inl 0), some (.inl 0), none]) d_S_tryStarts_114 (by decide) rfl rfl ?_
              refine sx_iload d_S_tryStarts_116 rfl ?_
              refine sx_iload d_S_tryStarts_118 rfl ?_
              refine sx_icmp_gt (tgt := 155) d_S_tryStarts_120 (by decide) ⟨by decide, by decide⟩ ⟨by decide, by decide⟩ (fun c120_65 => ?_) (fun c120_65 => ?_)
              · omega
              · refine sx_aload_n d_S_tryStarts_123 rfl ?_
                refine sx_getR (r := some (20)) d_S_tryStarts_124 fl_S_38 (go rfl rfl rfl) (by decide) (by decide) (by decide) rfl ?_
                refine sx_aload_n d_S_tryStarts_127 rfl ?_
                refine sx_getR (r := some (32)) d_S_tryStarts_128 fl_S_23 (go rfl rfl rfl) (by decide) (by decide) (by decide) rfl ?_
                refine sx_iload_n d_S_tryStarts_131 rfl ?_
                refine sx_iconst d_S_tryStarts_132 ?_
                refine sx_imul d_S_tryStarts_133 ?_
                refine sx_iload d_S_tryStarts_134 rfl ?_
                refine sx_iadd d_S_tryStarts_136 ?_
                refine sx_aald (r := some ((35 + (2 * l + 0)))) d_S_tryStarts_137 (go rfl rfl rfl) (t := 1) rfl (by omega) (by omega) (by decide) (by rw [show (Int.toNat (((l : Int) * 2) + 0)) = 2 * l + 0 by omega]; exact gr_i _ (by omega)) ?_
                refine sx_aload_n d_S_tryStarts_138 rfl ?_
                refine sx_getR (r := some (26)) d_S_tryStarts_139 fl_S_12 (go rfl rfl rfl) (by decide) (by decide) (by decide) rfl ?_
                refine sx_iload_n d_S_tryStarts_142 rfl ?_
                refine sx_iload d_S_tryStarts_143 rfl ?_
                refine sx_iload_n d_S_tryStarts_145 rfl ?_
                refine sx_callV (x_R_open hP hl hSV M1S 0 (by decide)) d_S_tryStarts_146 cd_R_open lk_S_90 im_R_open se_R_open (go rfl rfl rfl) rfl rfl (by decide) (st := []) rfl rfl (Nat.le_of_ble_eq_true rfl) ⟨by (show 3 + 1 ≤ k; omega), Nat.le_refl _, Nat.le_refl _⟩ (fun _ _ hq => ?_)
                obtain ⟨rfl, w1, rfl, w1f, w1R, w1W0⟩ := hq
                have w1S := (M1S).win (by omega) w1f w1R
                have w1w := (M1w).tr (wfr_fr (d := 0) w1f)
                show sx_V _ _ _ _ (0, 0) _ _ [] (gm w1) _
                refine sx_iinc (l' := [some (sx_p 25), some (.inl (l : Int)), some (sx_p (14 + l)), some (.inl (M 23 l)), some (.inl (M 23 l)), some (.inl 0), some (.inl 0), some (.inl 1), none]) d_S_tryStarts_149 rfl (by decide) rfl rfl ?_
                refine sx_goto (tgt := 116) d_S_tryStarts_152 (by decide) ?_
                refine sx_iload d_S_tryStarts_116 rfl ?_
                refine sx_iload d_S_tryStarts_118 rfl ?_
                refine sx_icmp_gt (tgt := 155) d_S_tryStarts_120 (by decide) ⟨by decide, by decide⟩ ⟨by decide, by decide⟩ (fun c120_91 => ?_) (fun c120_91 => ?_)
                · refine sx_iload_n d_S_tryStarts_155 rfl ?_
                  refine sx_istore (l' := [some (sx_p 25), some (.inl (l : Int)), some (sx_p (14 + l)), some (.inl (M 23 l)), some (.inl (M 23 l)), some (.inl 0), some (.inl 0), some (.inl (M 23 l)), none]) d_S_tryStarts_156 (by decide) rfl rfl ?_
                  have hCC : CC M l = ol ((0 : Nat) : Int) ((0 : Nat) : Int) 1 (M 23 l) := by (unfold CC; rw [hfz]; rw [if_neg (by decide), hwy]; rfl)
                  refine t_starts M ag g nw nb hP hg hag l hl S D k k2 hk (fs g (GG M ag nw nb) (CC M) j (l + 1)) 0 0 (by decide) (fun x b M1 s d a1 a2 a3 a4 => hone x b M1 s d a1 a2) _ (M 23 l) (by omega) _ 1 (M 23 l) ((x, b), false) w1 _ (by omega) (by omega) w1S (fun d2 a1 a2 => by obtain rfl : d2 = 0 := (by omega); exact w1W0) (fun M5 b1 b2 => ⟨rfl, M5, rfl, ?_, w1w.tr b2⟩)
                  show ST M ag g nw l S D (lv g (GG M ag nw nb l) (fs g (GG M ag nw nb) (CC M) j (l + 1)) l S D (CC M l) ((x, b), false)) M5
                  rw [hCC]
                  exact b1
                · omega
    · omega
set_option maxRecDepth 100000 in
set_option maxHeartbeats 4000000 in
theorem t_f1 {L : Nat} {xs : Nat → Int32} (M : Nat → Nat → Int) (ag g : Int) (nw nb : Nat) (hP : PH M nw nb) (hg : 1 ≤ g ∧ g ≤ 20000) (hag : sx_r ag) (j : Nat) (l : Nat) (hl : l < nw) (S D : Nat → Int) (hSV : SV l S D) (x : Int) (b : sB) (M1 : Nat → Nat → Int) (hST : ST M ag g nw l S D ((x, b), false) M1) (hfz : M (14 + l) 10 = 1) (hwy : M 24 l = 1) (k k2 : Nat) (hk0 : 4 ≤ k) (hk : k2 + 1 ≤ k) (hone : ∀ (x : Int) (b : sB) (M1 : Nat → Nat → Int) (s : Int) (d : Nat), 0 ≤ s ∧ s ≤ 99 → d < 2 → ST M ag g nw l S D ((x, b), false) M1 → WN M nb l S D d M1 → sx_R y_S_tryOne (k2, 0, 0) L xs [sx_p 25, .inl (l : Int), .inl s, .inl (d : Int)] (gm M1) (fun v h2 => v = none ∧ ∃ M3, h2 = gm M3 ∧ ST M ag g nw l S D (one g (GG M ag nw nb l) (fs g (GG M ag nw nb) (CC M) j (l + 1)) l (s, (d : Int)) S D (x, b)) M3 ∧ wfr (l + 1) M1 M3)) : sx_R y_S_tryStarts (k, 0, 0) L xs [sx_p 25, .inl (l : Int)] (gm M1) (fun v h2 => v = none ∧ ∃ M3, h2 = gm M3 ∧ ST M ag g nw l S D (fs g (GG M ag nw nb) (CC M) (j + 1) l S D (x, b)) M3 ∧ wfr l M1 M3) := by
  obtain ⟨hI, hRM, hnw, hnw6, hnb, hnb8, hWk, hgp⟩ := id hP
  have hl6 : l < 6 := by omega
  have M1S := hST
  have M1w := wfr.rf l M1
  have h23 := (hWk l hl).2.2.2.2.2.2 hfz
  refine sx_enter rfl (Nat.le_of_ble_eq_true rfl) rfl ?_
  show sx_V y_S_tryStarts (k, 0, 0) L xs (0, 0) 0 [some (sx_p 25), some (.inl (l : Int)), none, none, none, none, none, none, none] [] (gm M1) _
  refine sx_iload_n d_S_tryStarts_0 rfl ?_
  refine sx_aload_n d_S_tryStarts_1 rfl ?_
  refine sx_getR (r := some (2)) d_S_tryStarts_2 fl_S_34 (go rfl rfl rfl) (by decide) (by decide) (by decide) rfl ?_
  refine sx_getI (z := (nw : Int)) d_S_tryStarts_5 fl_S_67 (go rfl rfl rfl) (by decide) (by decide) (by decide) ((M1S.1.lo _ _ (by omega)).trans hnw) ?_
  refine sx_icmp_ge (tgt := 17) d_S_tryStarts_8 (by decide) (by omega) (by omega) (fun c8_14 => ?_) (fun c8_14 => ?_)
  · omega
  · refine sx_iload_n d_S_tryStarts_11 rfl ?_
    refine sx_bipush d_S_tryStarts_12 (by decide) ?_
    refine sx_icmp_lt (tgt := 18) d_S_tryStarts_14 (by decide) (by omega) ⟨by decide, by decide⟩ (fun c14_18 => ?_) (fun c14_18 => ?_)
    · refine sx_aload_n d_S_tryStarts_18 rfl ?_
      refine sx_getR (r := some (2)) d_S_tryStarts_19 fl_S_34 (go rfl rfl rfl) (by decide) (by decide) (by decide) rfl ?_
      refine sx_getR (r := some (8)) d_S_tryStarts_22 fl_S_72 (go rfl rfl rfl) (by decide) (by decide) (by decide) rfl ?_
      refine sx_iload_n d_S_tryStarts_25 rfl ?_
      refine sx_aald (r := some ((14 + l))) d_S_tryStarts_26 (go rfl rfl rfl) (t := 0) rfl (by omega) (by omega) (by decide) (gr_w _ hl6) ?_
      refine sx_astore_n (l' := [some (sx_p 25), some (.inl (l : Int)), some (sx_p (14 + l)), none, none, none, none, none, none]) d_S_tryStarts_27 (by decide) rfl rfl ?_
      refine sx_aload_n d_S_tryStarts_28 rfl ?_
      refine sx_getI (z := 1) d_S_tryStarts_29 fl_S_76 (go_w _ hl6) (by decide) (by decide) (by decide) ((M1S.1.lo _ _ (by omega)).trans hfz) ?_
      refine sx_if_eq (tgt := 47) d_S_tryStarts_32 (by decide) ⟨by decide, by decide⟩ (fun c32_27 => ?_) (fun c32_27 => ?_)
      · omega
      · refine sx_aload_n d_S_tryStarts_35 rfl ?_
        refine sx_getR (r := some (22)) d_S_tryStarts_36 fl_S_42 (go rfl rfl rfl) (by decide) (by decide) (by decide) rfl ?_
        refine sx_getR (r := some (23)) d_S_tryStarts_39 fl_S_81 (go rfl rfl rfl) (by decide) (by decide) (by decide) rfl ?_
        refine sx_iload_n d_S_tryStarts_42 rfl ?_
        refine sx_iald (z := (M 23 l)) d_S_tryStarts_43 (go rfl rfl rfl) (by omega) (by omega) (by decide) (M1S.1.lo _ _ (by omega)) ?_
        refine sx_goto (tgt := 48) d_S_tryStarts_44 (by decide) ?_
        refine sx_istore_n (l' := [some (sx_p 25), some (.inl (l : Int)), some (sx_p (14 + l)), some (.inl (M 23 l)), none, none, none, none, none]) d_S_tryStarts_48 (by decide) rfl rfl ?_
        refine sx_aload_n d_S_tryStarts_49 rfl ?_
        refine sx_getI (z := 1) d_S_tryStarts_50 fl_S_76 (go_w _ hl6) (by decide) (by decide) (by decide) ((M1S.1.lo _ _ (by omega)).trans hfz) ?_
        refine sx_if_eq (tgt := 60) d_S_tryStarts_53 (by decide) ⟨by decide, by decide⟩ (fun c53_38 => ?_) (fun c53_38 => ?_)
        · omega
        · refine sx_iload_n d_S_tryStarts_56 rfl ?_
          refine sx_goto (tgt := 62) d_S_tryStarts_57 (by decide) ?_
          refine sx_istore (l' := [some (sx_p 25), some (.inl (l : Int)), some (sx_p (14 + l)), some (.inl (M 23 l)), some (.inl (M 23 l)), none, none, none, none]) d_S_tryStarts_62 (by decide) rfl rfl ?_
          refine sx_aload_n d_S_tryStarts_64 rfl ?_
          refine sx_getI (z := 1) d_S_tryStarts_65 fl_S_76 (go_w _ hl6) (by decide) (by decide) (by decide) ((M1S.1.lo _ _ (by omega)).trans hfz) ?_
          refine sx_if_eq (tgt := 83) d_S_tryStarts_68 (by decide) ⟨by decide, by decide⟩ (fun c68_45 => ?_) (fun c68_45 => ?_)
          · omega
          · refine sx_aload_n d_S_tryStarts_71 rfl ?_
            refine sx_getR (r := some (22)) d_S_tryStarts_72 fl_S_42 (go rfl rfl rfl) (by decide) (by decide) (by decide) rfl ?_
            refine sx_getR (r := some (24)) d_S_tryStarts_75 fl_S_84 (go rfl rfl rfl) (by decide) (by decide) (by decide) rfl ?_
            refine sx_iload_n d_S_tryStarts_78 rfl ?_
            refine sx_iald (z := 1) d_S_tryStarts_79 (go rfl rfl rfl) (by omega) (by omega) (by decide) ((M1S.1.lo _ _ (by omega)).trans hwy) ?_
            refine sx_goto (tgt := 84) d_S_tryStarts_80 (by decide) ?_
            refine sx_istore (l' := [some (sx_p 25), some (.inl (l : Int)), some (sx_p (14 + l)), some (.inl (M 23 l)), some (.inl (M 23 l)), some (.inl 1), none, none, none]) d_S_tryStarts_84 (by decide) rfl rfl ?_
            refine sx_aload_n d_S_tryStarts_86 rfl ?_
            refine sx_getI (z := 1) d_S_tryStarts_87 fl_S_76 (go_w _ hl6) (by decide) (by decide) (by decide) ((M1S.1.lo _ _ (by omega)).trans hfz) ?_
            refine sx_if_eq (tgt := 98) d_S_tryStarts_90 (by decide) ⟨by decide, by decide⟩ (fun c90_56 => ?_) (fun c90_56 => ?_)
            · omega
            · refine sx_iload d_S_tryStarts_93 rfl ?_
              refine sx_goto (tgt := 110) d_S_tryStarts_95 (by decide) ?_
              refine sx_istore (l' := [some (sx_p 25), some (.inl (l : Int)), some (sx_p (14 + l)), some (.inl (M 23 l)), some (.inl (M 23 l)), some (.inl 1), some (.inl 1), none, none]) d_S_tryStarts_110 (by decide) rfl rfl ?_
              refine sx_iload d_S_tryStarts_112 rfl ?_
              refine sx_istore (l' := [some (sx_p 25), some (.inl (l : Int)), some (sx_p (14 + l)), some (.inl (M 23 l)), some (.inl (M 23 l)), some (.inl 1), some (.inl 1), some (.inl 1), none]) d_S_tryStarts_114 (by decide) rfl rfl ?_
              refine sx_iload d_S_tryStarts_116 rfl ?_
              refine sx_iload d_S_tryStarts_118 rfl ?_
              refine sx_icmp_gt (tgt := 155) d_S_tryStarts_120 (by decide) ⟨by decide, by decide⟩ ⟨by decide, by decide⟩ (fun c120_65 => ?_) (fun c120_65 => ?_)
              · omega
              · refine sx_aload_n d_S_tryStarts_123 rfl ?_
                refine sx_getR (r := some (20)) d_S_tryStarts_124 fl_S_38 (go rfl rfl rfl) (by decide) (by decide) (by decide) rfl ?_
                refine sx_aload_n d_S_tryStarts_127 rfl ?_
                refine sx_getR (r := some (32)) d_S_tryStarts_128 fl_S_23 (go rfl rfl rfl) (by decide) (by decide) (by decide) rfl ?_
                refine sx_iload_n d_S_tryStarts_131 rfl ?_
                refine sx_iconst d_S_tryStarts_132 ?_
                refine sx_imul d_S_tryStarts_133 ?_
                refine sx_iload d_S_tryStarts_134 rfl ?_
                refine sx_iadd d_S_tryStarts_136 ?_
                refine sx_aald (r := some ((35 + (2 * l + 1)))) d_S_tryStarts_137 (go rfl rfl rfl) (t := 1) rfl (by omega) (by omega) (by decide) (by rw [show (Int.toNat (((l : Int) * 2) + 1)) = 2 * l + 1 by omega]; exact gr_i _ (by omega)) ?_
                refine sx_aload_n d_S_tryStarts_138 rfl ?_
                refine sx_getR (r := some (26)) d_S_tryStarts_139 fl_S_12 (go rfl rfl rfl) (by decide) (by decide) (by decide) rfl ?_
                refine sx_iload_n d_S_tryStarts_142 rfl ?_
                refine sx_iload d_S_tryStarts_143 rfl ?_
                refine sx_iload_n d_S_tryStarts_145 rfl ?_
                refine sx_callV (x_R_open hP hl hSV M1S 1 (by decide)) d_S_tryStarts_146 cd_R_open lk_S_90 im_R_open se_R_open (go rfl rfl rfl) rfl rfl (by decide) (st := []) rfl rfl (Nat.le_of_ble_eq_true rfl) ⟨by (show 3 + 1 ≤ k; omega), Nat.le_refl _, Nat.le_refl _⟩ (fun _ _ hq => ?_)
                obtain ⟨rfl, w2, rfl, w2f, w2R, w2W1⟩ := hq
                have w2S := (M1S).win (by omega) w2f w2R
                have w2w := (M1w).tr (wfr_fr (d := 1) w2f)
                show sx_V _ _ _ _ (0, 0) _ _ [] (gm w2) _
                refine sx_iinc (l' := [some (sx_p 25), some (.inl (l : Int)), some (sx_p (14 + l)), some (.inl (M 23 l)), some (.inl (M 23 l)), some (.inl 1), some (.inl 1), some (.inl 2), none]) d_S_tryStarts_149 rfl (by decide) rfl rfl ?_
                refine sx_goto (tgt := 116) d_S_tryStarts_152 (by decide) ?_
                refine sx_iload d_S_tryStarts_116 rfl ?_
                refine sx_iload d_S_tryStarts_118 rfl ?_
                refine sx_icmp_gt (tgt := 155) d_S_tryStarts_120 (by decide) ⟨by decide, by decide⟩ ⟨by decide, by decide⟩ (fun c120_91 => ?_) (fun c120_91 => ?_)
                · refine sx_iload_n d_S_tryStarts_155 rfl ?_
                  refine sx_istore (l' := [some (sx_p 25), some (.inl (l : Int)), some (sx_p (14 + l)), some (.inl (M 23 l)), some (.inl (M 23 l)), some (.inl 1), some (.inl 1), some (.inl (M 23 l)), none]) d_S_tryStarts_156 (by decide) rfl rfl ?_
                  have hCC : CC M l = ol ((1 : Nat) : Int) ((1 : Nat) : Int) 1 (M 23 l) := by (unfold CC; rw [hfz]; rw [if_neg (by decide), hwy]; rfl)
                  refine t_starts M ag g nw nb hP hg hag l hl S D k k2 hk (fs g (GG M ag nw nb) (CC M) j (l + 1)) 1 1 (by decide) (fun x b M1 s d a1 a2 a3 a4 => hone x b M1 s d a1 a2) _ (M 23 l) (by omega) _ 1 (M 23 l) ((x, b), false) w2 _ (by omega) (by omega) w2S (fun d2 a1 a2 => by obtain rfl : d2 = 1 := (by omega); exact w2W1) (fun M5 b1 b2 => ⟨rfl, M5, rfl, ?_, w2w.tr b2⟩)
                  show ST M ag g nw l S D (lv g (GG M ag nw nb l) (fs g (GG M ag nw nb) (CC M) j (l + 1)) l S D (CC M l) ((x, b), false)) M5
                  rw [hCC]
                  exact b1
                · omega
    · omega
set_option maxRecDepth 100000 in
set_option maxHeartbeats 4000000 in
theorem t_u0 {L : Nat} {xs : Nat → Int32} (M : Nat → Nat → Int) (ag g : Int) (nw nb : Nat) (hP : PH M nw nb) (hg : 1 ≤ g ∧ g ≤ 20000) (hag : sx_r ag) (j : Nat) (l : Nat) (hl : l < nw) (S D : Nat → Int) (hSV : SV l S D) (x : Int) (b : sB) (M1 : Nat → Nat → Int) (hST : ST M ag g nw l S D ((x, b), false) M1) (hfz : M (14 + l) 10 = 0) (hbo : M (14 + l) 6 = 0) (k k2 : Nat) (hk0 : 4 ≤ k) (hk : k2 + 1 ≤ k) (hone : ∀ (x : Int) (b : sB) (M1 : Nat → Nat → Int) (s : Int) (d : Nat), 0 ≤ s ∧ s ≤ 99 → d < 2 → ST M ag g nw l S D ((x, b), false) M1 → WN M nb l S D d M1 → sx_R y_S_tryOne (k2, 0, 0) L xs [sx_p 25, .inl (l : Int), .inl s, .inl (d : Int)] (gm M1) (fun v h2 => v = none ∧ ∃ M3, h2 = gm M3 ∧ ST M ag g nw l S D (one g (GG M ag nw nb l) (fs g (GG M ag nw nb) (CC M) j (l + 1)) l (s, (d : Int)) S D (x, b)) M3 ∧ wfr (l + 1) M1 M3)) : sx_R y_S_tryStarts (k, 0, 0) L xs [sx_p 25, .inl (l : Int)] (gm M1) (fun v h2 => v = none ∧ ∃ M3, h2 = gm M3 ∧ ST M ag g nw l S D (fs g (GG M ag nw nb) (CC M) (j + 1) l S D (x, b)) M3 ∧ wfr l M1 M3) := by
  obtain ⟨hI, hRM, hnw, hnw6, hnb, hnb8, hWk, hgp⟩ := id hP
  have hl6 : l < 6 := by omega
  have M1S := hST
  have M1w := wfr.rf l M1
  refine sx_enter rfl (Nat.le_of_ble_eq_true rfl) rfl ?_
  show sx_V y_S_tryStarts (k, 0, 0) L xs (0, 0) 0 [some (sx_p 25), some (.inl (l : Int)), none, none, none, none, none, none, none] [] (gm M1) _
  refine sx_iload_n d_S_tryStarts_0 rfl ?_
  refine sx_aload_n d_S_tryStarts_1 rfl ?_
  refine sx_getR (r := some (2)) d_S_tryStarts_2 fl_S_34 (go rfl rfl rfl) (by decide) (by decide) (by decide) rfl ?_
  refine sx_getI (z := (nw : Int)) d_S_tryStarts_5 fl_S_67 (go rfl rfl rfl) (by decide) (by decide) (by decide) ((M1S.1.lo _ _ (by omega)).trans hnw) ?_
  refine sx_icmp_ge (tgt := 17) d_S_tryStarts_8 (by decide) (by omega) (by omega) (fun c8_13 => ?_) (fun c8_13 => ?_)
  · omega
  · refine sx_iload_n d_S_tryStarts_11 rfl ?_
    refine sx_bipush d_S_tryStarts_12 (by decide) ?_
    refine sx_icmp_lt (tgt := 18) d_S_tryStarts_14 (by decide) (by omega) ⟨by decide, by decide⟩ (fun c14_17 => ?_) (fun c14_17 => ?_)
    · refine sx_aload_n d_S_tryStarts_18 rfl ?_
      refine sx_getR (r := some (2)) d_S_tryStarts_19 fl_S_34 (go rfl rfl rfl) (by decide) (by decide) (by decide) rfl ?_
      refine sx_getR (r := some (8)) d_S_tryStarts_22 fl_S_72 (go rfl rfl rfl) (by decide) (by decide) (by decide) rfl ?_
      refine sx_iload_n d_S_tryStarts_25 rfl ?_
      refine sx_aald (r := some ((14 + l))) d_S_tryStarts_26 (go rfl rfl rfl) (t := 0) rfl (by omega) (by omega) (by decide) (gr_w _ hl6) ?_
      refine sx_astore_n (l' := [some (sx_p 25), some (.inl (l : Int)), some (sx_p (14 + l)), none, none, none, none, none, none]) d_S_tryStarts_27 (by decide) rfl rfl ?_
      refine sx_aload_n d_S_tryStarts_28 rfl ?_
      refine sx_getI (z := 0) d_S_tryStarts_29 fl_S_76 (go_w _ hl6) (by decide) (by decide) (by decide) ((M1S.1.lo _ _ (by omega)).trans hfz) ?_
      refine sx_if_eq (tgt := 47) d_S_tryStarts_32 (by decide) ⟨by decide, by decide⟩ (fun c32_26 => ?_) (fun c32_26 => ?_)
      · refine sx_iconst d_S_tryStarts_47 ?_
        refine sx_istore_n (l' := [some (sx_p 25), some (.inl (l : Int)), some (sx_p (14 + l)), some (.inl 0), none, none, none, none, none]) d_S_tryStarts_48 (by decide) rfl rfl ?_
        refine sx_aload_n d_S_tryStarts_49 rfl ?_
        refine sx_getI (z := 0) d_S_tryStarts_50 fl_S_76 (go_w _ hl6) (by decide) (by decide) (by decide) ((M1S.1.lo _ _ (by omega)).trans hfz) ?_
        refine sx_if_eq (tgt := 60) d_S_tryStarts_53 (by decide) ⟨by decide, by decide⟩ (fun c53_31 => ?_) (fun c53_31 => ?_)
        · refine sx_bipush d_S_tryStarts_60 (by decide) ?_
          refine sx_istore (l' := [some (sx_p 25), some (.inl (l : Int)), some (sx_p (14 + l)), some (.inl 0), some (.inl 99), none, none, none, none]) d_S_tryStarts_62 (by decide) rfl rfl ?_
          refine sx_aload_n d_S_tryStarts_64 rfl ?_
          refine sx_getI (z := 0) d_S_tryStarts_65 fl_S_76 (go_w _ hl6) (by decide) (by decide) (by decide) ((M1S.1.lo _ _ (by omega)).trans hfz) ?_
          refine sx_if_eq (tgt := 83) d_S_tryStarts_68 (by decide) ⟨by decide, by decide⟩ (fun c68_36 => ?_) (fun c68_36 => ?_)
          · refine sx_iconst d_S_tryStarts_83 ?_
            refine sx_istore (l' := [some (sx_p 25), some (.inl (l : Int)), some (sx_p (14 + l)), some (.inl 0), some (.inl 99), some (.inl 0), none, none, none]) d_S_tryStarts_84 (by decide) rfl rfl ?_
            refine sx_aload_n d_S_tryStarts_86 rfl ?_
            refine sx_getI (z := 0) d_S_tryStarts_87 fl_S_76 (go_w _ hl6) (by decide) (by decide) (by decide) ((M1S.1.lo _ _ (by omega)).trans hfz) ?_
            refine sx_if_eq (tgt := 98) d_S_tryStarts_90 (by decide) ⟨by decide, by decide⟩ (fun c90_41 => ?_) (fun c90_41 => ?_)
            · refine sx_aload_n d_S_tryStarts_98 rfl ?_
              refine sx_getI (z := 0) d_S_tryStarts_99 fl_S_87 (go_w _ hl6) (by decide) (by decide) (by decide) ((M1S.1.lo _ _ (by omega)).trans hbo) ?_
              refine sx_if_eq (tgt := 109) d_S_tryStarts_102 (by decide) ⟨by decide, by decide⟩ (fun c102_44 => ?_) (fun c102_44 => ?_)
              · refine sx_iconst d_S_tryStarts_109 ?_
                refine sx_istore (l' := [some (sx_p 25), some (.inl (l : Int)), some (sx_p (14 + l)), some (.inl 0), some (.inl 99), some (.inl 0), some (.inl 0), none, none]) d_S_tryStarts_110 (by decide) rfl rfl ?_
                refine sx_iload d_S_tryStarts_112 rfl ?_
                refine sx_istore (l' := [some (sx_p 25), some (.inl (l : Int)), some (sx_p (14 + l)), some (.inl 0), some (.inl 99), some (.inl 0), some (.inl 0), some (.inl 0), none]) d_S_tryStarts_114 (by decide) rfl rfl ?_
                refine sx_iload d_S_tryStarts_116 rfl ?_
                refine sx_iload d_S_tryStarts_118 rfl ?_
                refine sx_icmp_gt (tgt := 155) d_S_tryStarts_120 (by decide) ⟨by decide, by decide⟩ ⟨by decide, by decide⟩ (fun c120_51 => ?_) (fun c120_51 => ?_)
                · omega
                · refine sx_aload_n d_S_tryStarts_123 rfl ?_
                  refine sx_getR (r := some (20)) d_S_tryStarts_124 fl_S_38 (go rfl rfl rfl) (by decide) (by decide) (by decide) rfl ?_
                  refine sx_aload_n d_S_tryStarts_127 rfl ?_
                  refine sx_getR (r := some (32)) d_S_tryStarts_128 fl_S_23 (go rfl rfl rfl) (by decide) (by decide) (by decide) rfl ?_
                  refine sx_iload_n d_S_tryStarts_131 rfl ?_
                  refine sx_iconst d_S_tryStarts_132 ?_
                  refine sx_imul d_S_tryStarts_133 ?_
                  refine sx_iload d_S_tryStarts_134 rfl ?_
                  refine sx_iadd d_S_tryStarts_136 ?_
                  refine sx_aald (r := some ((35 + (2 * l + 0)))) d_S_tryStarts_137 (go rfl rfl rfl) (t := 1) rfl (by omega) (by omega) (by decide) (by rw [show (Int.toNat (((l : Int) * 2) + 0)) = 2 * l + 0 by omega]; exact gr_i _ (by omega)) ?_
                  refine sx_aload_n d_S_tryStarts_138 rfl ?_
                  refine sx_getR (r := some (26)) d_S_tryStarts_139 fl_S_12 (go rfl rfl rfl) (by decide) (by decide) (by decide) rfl ?_
                  refine sx_iload_n d_S_tryStarts_142 rfl ?_
                  refine sx_iload d_S_tryStarts_143 rfl ?_
                  refine sx_iload_n d_S_tryStarts_145 rfl ?_
                  refine sx_callV (x_R_open hP hl hSV M1S 0 (by decide)) d_S_tryStarts_146 cd_R_open lk_S_90 im_R_open se_R_open (go rfl rfl rfl) rfl rfl (by decide) (st := []) rfl rfl (Nat.le_of_ble_eq_true rfl) ⟨by (show 3 + 1 ≤ k; omega), Nat.le_refl _, Nat.le_refl _⟩ (fun _ _ hq => ?_)
                  obtain ⟨rfl, w3, rfl, w3f, w3R, w3W0⟩ := hq
                  have w3S := (M1S).win (by omega) w3f w3R
                  have w3w := (M1w).tr (wfr_fr (d := 0) w3f)
                  show sx_V _ _ _ _ (0, 0) _ _ [] (gm w3) _
                  refine sx_iinc (l' := [some (sx_p 25), some (.inl (l : Int)), some (sx_p (14 + l)), some (.inl 0), some (.inl 99), some (.inl 0), some (.inl 0), some (.inl 1), none]) d_S_tryStarts_149 rfl (by decide) rfl rfl ?_
                  refine sx_goto (tgt := 116) d_S_tryStarts_152 (by decide) ?_
                  refine sx_iload d_S_tryStarts_116 rfl ?_
                  refine sx_iload d_S_tryStarts_118 rfl ?_
                  refine sx_icmp_gt (tgt := 155) d_S_tryStarts_120 (by decide) ⟨by decide, by decide⟩ ⟨by decide, by decide⟩ (fun c120_77 => ?_) (fun c120_77 => ?_)
                  · refine sx_iload_n d_S_tryStarts_155 rfl ?_
                    refine sx_istore (l' := [some (sx_p 25), some (.inl (l : Int)), some (sx_p (14 + l)), some (.inl 0), some (.inl 99), some (.inl 0), some (.inl 0), some (.inl 0), none]) d_S_tryStarts_156 (by decide) rfl rfl ?_
                    have hCC : CC M l = ol ((0 : Nat) : Int) ((0 : Nat) : Int) 100 0 := by (unfold CC; rw [hfz]; rw [if_pos rfl, hbo]; rfl)
                    refine t_starts M ag g nw nb hP hg hag l hl S D k k2 hk (fs g (GG M ag nw nb) (CC M) j (l + 1)) 0 0 (by decide) (fun x b M1 s d a1 a2 a3 a4 => hone x b M1 s d a1 a2) _ 99 (by omega) _ 100 0 ((x, b), false) w3 _ (by omega) (by omega) w3S (fun d2 a1 a2 => by obtain rfl : d2 = 0 := (by omega); exact w3W0) (fun M5 b1 b2 => ⟨rfl, M5, rfl, ?_, w3w.tr b2⟩)
                    show ST M ag g nw l S D (lv g (GG M ag nw nb l) (fs g (GG M ag nw nb) (CC M) j (l + 1)) l S D (CC M l) ((x, b), false)) M5
                    rw [hCC]
                    exact b1
                  · omega
              · omega
            · omega
          · omega
        · omega
      · omega
    · omega
set_option maxRecDepth 100000 in
set_option maxHeartbeats 4000000 in
theorem t_u1 {L : Nat} {xs : Nat → Int32} (M : Nat → Nat → Int) (ag g : Int) (nw nb : Nat) (hP : PH M nw nb) (hg : 1 ≤ g ∧ g ≤ 20000) (hag : sx_r ag) (j : Nat) (l : Nat) (hl : l < nw) (S D : Nat → Int) (hSV : SV l S D) (x : Int) (b : sB) (M1 : Nat → Nat → Int) (hST : ST M ag g nw l S D ((x, b), false) M1) (hfz : M (14 + l) 10 = 0) (hbo : M (14 + l) 6 = 1) (k k2 : Nat) (hk0 : 4 ≤ k) (hk : k2 + 1 ≤ k) (hone : ∀ (x : Int) (b : sB) (M1 : Nat → Nat → Int) (s : Int) (d : Nat), 0 ≤ s ∧ s ≤ 99 → d < 2 → ST M ag g nw l S D ((x, b), false) M1 → WN M nb l S D d M1 → sx_R y_S_tryOne (k2, 0, 0) L xs [sx_p 25, .inl (l : Int), .inl s, .inl (d : Int)] (gm M1) (fun v h2 => v = none ∧ ∃ M3, h2 = gm M3 ∧ ST M ag g nw l S D (one g (GG M ag nw nb l) (fs g (GG M ag nw nb) (CC M) j (l + 1)) l (s, (d : Int)) S D (x, b)) M3 ∧ wfr (l + 1) M1 M3)) : sx_R y_S_tryStarts (k, 0, 0) L xs [sx_p 25, .inl (l : Int)] (gm M1) (fun v h2 => v = none ∧ ∃ M3, h2 = gm M3 ∧ ST M ag g nw l S D (fs g (GG M ag nw nb) (CC M) (j + 1) l S D (x, b)) M3 ∧ wfr l M1 M3) := by
  obtain ⟨hI, hRM, hnw, hnw6, hnb, hnb8, hWk, hgp⟩ := id hP
  have hl6 : l < 6 := by omega
  have M1S := hST
  have M1w := wfr.rf l M1
  refine sx_enter rfl (Nat.le_of_ble_eq_true rfl) rfl ?_
  show sx_V y_S_tryStarts (k, 0, 0) L xs (0, 0) 0 [some (sx_p 25), some (.inl (l : Int)), none, none, none, none, none, none, none] [] (gm M1) _
  refine sx_iload_n d_S_tryStarts_0 rfl ?_
  refine sx_aload_n d_S_tryStarts_1 rfl ?_
  refine sx_getR (r := some (2)) d_S_tryStarts_2 fl_S_34 (go rfl rfl rfl) (by decide) (by decide) (by decide) rfl ?_
  refine sx_getI (z := (nw : Int)) d_S_tryStarts_5 fl_S_67 (go rfl rfl rfl) (by decide) (by decide) (by decide) ((M1S.1.lo _ _ (by omega)).trans hnw) ?_
  refine sx_icmp_ge (tgt := 17) d_S_tryStarts_8 (by decide) (by omega) (by omega) (fun c8_13 => ?_) (fun c8_13 => ?_)
  · omega
  · refine sx_iload_n d_S_tryStarts_11 rfl ?_
    refine sx_bipush d_S_tryStarts_12 (by decide) ?_
    refine sx_icmp_lt (tgt := 18) d_S_tryStarts_14 (by decide) (by omega) ⟨by decide, by decide⟩ (fun c14_17 => ?_) (fun c14_17 => ?_)
    · refine sx_aload_n d_S_tryStarts_18 rfl ?_
      refine sx_getR (r := some (2)) d_S_tryStarts_19 fl_S_34 (go rfl rfl rfl) (by decide) (by decide) (by decide) rfl ?_
      refine sx_getR (r := some (8)) d_S_tryStarts_22 fl_S_72 (go rfl rfl rfl) (by decide) (by decide) (by decide) rfl ?_
      refine sx_iload_n d_S_tryStarts_25 rfl ?_
      refine sx_aald (r := some ((14 + l))) d_S_tryStarts_26 (go rfl rfl rfl) (t := 0) rfl (by omega) (by omega) (by decide) (gr_w _ hl6) ?_
      refine sx_astore_n (l' := [some (sx_p 25), some (.inl (l : Int)), some (sx_p (14 + l)), none, none, none, none, none, none]) d_S_tryStarts_27 (by decide) rfl rfl ?_
      refine sx_aload_n d_S_tryStarts_28 rfl ?_
      refine sx_getI (z := 0) d_S_tryStarts_29 fl_S_76 (go_w _ hl6) (by decide) (by decide) (by decide) ((M1S.1.lo _ _ (by omega)).trans hfz) ?_
      refine sx_if_eq (tgt := 47) d_S_tryStarts_32 (by decide) ⟨by decide, by decide⟩ (fun c32_26 => ?_) (fun c32_26 => ?_)
      · refine sx_iconst d_S_tryStarts_47 ?_
        refine sx_istore_n (l' := [some (sx_p 25), some (.inl (l : Int)), some (sx_p (14 + l)), some (.inl 0), none, none, none, none, none]) d_S_tryStarts_48 (by decide) rfl rfl ?_
        refine sx_aload_n d_S_tryStarts_49 rfl ?_
        refine sx_getI (z := 0) d_S_tryStarts_50 fl_S_76 (go_w _ hl6) (by decide) (by decide) (by decide) ((M1S.1.lo _ _ (by omega)).trans hfz) ?_
        refine sx_if_eq (tgt := 60) d_S_tryStarts_53 (by decide) ⟨by decide, by decide⟩ (fun c53_31 => ?_) (fun c53_31 => ?_)
        · refine sx_bipush d_S_tryStarts_60 (by decide) ?_
          refine sx_istore (l' := [some (sx_p 25), some (.inl (l : Int)), some (sx_p (14 + l)), some (.inl 0), some (.inl 99), none, none, none, none]) d_S_tryStarts_62 (by decide) rfl rfl ?_
          refine sx_aload_n d_S_tryStarts_64 rfl ?_
          refine sx_getI (z := 0) d_S_tryStarts_65 fl_S_76 (go_w _ hl6) (by decide) (by decide) (by decide) ((M1S.1.lo _ _ (by omega)).trans hfz) ?_
          refine sx_if_eq (tgt := 83) d_S_tryStarts_68 (by decide) ⟨by decide, by decide⟩ (fun c68_36 => ?_) (fun c68_36 => ?_)
          · refine sx_iconst d_S_tryStarts_83 ?_
            refine sx_istore (l' := [some (sx_p 25), some (.inl (l : Int)), some (sx_p (14 + l)), some (.inl 0), some (.inl 99), some (.inl 0), none, none, none]) d_S_tryStarts_84 (by decide) rfl rfl ?_
            refine sx_aload_n d_S_tryStarts_86 rfl ?_
            refine sx_getI (z := 0) d_S_tryStarts_87 fl_S_76 (go_w _ hl6) (by decide) (by decide) (by decide) ((M1S.1.lo _ _ (by omega)).trans hfz) ?_
            refine sx_if_eq (tgt := 98) d_S_tryStarts_90 (by decide) ⟨by decide, by decide⟩ (fun c90_41 => ?_) (fun c90_41 => ?_)
            · refine sx_aload_n d_S_tryStarts_98 rfl ?_
              refine sx_getI (z := 1) d_S_tryStarts_99 fl_S_87 (go_w _ hl6) (by decide) (by decide) (by decide) ((M1S.1.lo _ _ (by omega)).trans hbo) ?_
              refine sx_if_eq (tgt := 109) d_S_tryStarts_102 (by decide) ⟨by decide, by decide⟩ (fun c102_44 => ?_) (fun c102_44 => ?_)
              · omega
              · refine sx_iconst d_S_tryStarts_105 ?_
                refine sx_goto (tgt := 110) d_S_tryStarts_106 (by decide) ?_
                refine sx_istore (l' := [some (sx_p 25), some (.inl (l : Int)), some (sx_p (14 + l)), some (.inl 0), some (.inl 99), some (.inl 0), some (.inl 1), none, none]) d_S_tryStarts_110 (by decide) rfl rfl ?_
                refine sx_iload d_S_tryStarts_112 rfl ?_
                refine sx_istore (l' := [some (sx_p 25), some (.inl (l : Int)), some (sx_p (14 + l)), some (.inl 0), some (.inl 99), some (.inl 0), some (.inl 1), some (.inl 0), none]) d_S_tryStarts_114 (by decide) rfl rfl ?_
                refine sx_iload d_S_tryStarts_116 rfl ?_
                refine sx_iload d_S_tryStarts_118 rfl ?_
                refine sx_icmp_gt (tgt := 155) d_S_tryStarts_120 (by decide) ⟨by decide, by decide⟩ ⟨by decide, by decide⟩ (fun c120_53 => ?_) (fun c120_53 => ?_)
                · omega
                · refine sx_aload_n d_S_tryStarts_123 rfl ?_
                  refine sx_getR (r := some (20)) d_S_tryStarts_124 fl_S_38 (go rfl rfl rfl) (by decide) (by decide) (by decide) rfl ?_
                  refine sx_aload_n d_S_tryStarts_127 rfl ?_
                  refine sx_getR (r := some (32)) d_S_tryStarts_128 fl_S_23 (go rfl rfl rfl) (by decide) (by decide) (by decide) rfl ?_
                  refine sx_iload_n d_S_tryStarts_131 rfl ?_
                  refine sx_iconst d_S_tryStarts_132 ?_
                  refine sx_imul d_S_tryStarts_133 ?_
                  refine sx_iload d_S_tryStarts_134 rfl ?_
                  refine sx_iadd d_S_tryStarts_136 ?_
                  refine sx_aald (r := some ((35 + (2 * l + 0)))) d_S_tryStarts_137 (go rfl rfl rfl) (t := 1) rfl (by omega) (by omega) (by decide) (by rw [show (Int.toNat (((l : Int) * 2) + 0)) = 2 * l + 0 by omega]; exact gr_i _ (by omega)) ?_
                  refine sx_aload_n d_S_tryStarts_138 rfl ?_
                  refine sx_getR (r := some (26)) d_S_tryStarts_139 fl_S_12 (go rfl rfl rfl) (by decide) (by decide) (by decide) rfl ?_
                  refine sx_iload_n d_S_tryStarts_142 rfl ?_
                  refine sx_iload d_S_tryStarts_143 rfl ?_
                  refine sx_iload_n d_S_tryStarts_145 rfl ?_
                  refine sx_callV (x_R_open hP hl hSV M1S 0 (by decide)) d_S_tryStarts_146 cd_R_open lk_S_90 im_R_open se_R_open (go rfl rfl rfl) rfl rfl (by decide) (st := []) rfl rfl (Nat.le_of_ble_eq_true rfl) ⟨by (show 3 + 1 ≤ k; omega), Nat.le_refl _, Nat.le_refl _⟩ (fun _ _ hq => ?_)
                  obtain ⟨rfl, w4, rfl, w4f, w4R, w4W0⟩ := hq
                  have w4S := (M1S).win (by omega) w4f w4R
                  have w4w := (M1w).tr (wfr_fr (d := 0) w4f)
                  show sx_V _ _ _ _ (0, 0) _ _ [] (gm w4) _
                  refine sx_iinc (l' := [some (sx_p 25), some (.inl (l : Int)), some (sx_p (14 + l)), some (.inl 0), some (.inl 99), some (.inl 0), some (.inl 1), some (.inl 1), none]) d_S_tryStarts_149 rfl (by decide) rfl rfl ?_
                  refine sx_goto (tgt := 116) d_S_tryStarts_152 (by decide) ?_
                  refine sx_iload d_S_tryStarts_116 rfl ?_
                  refine sx_iload d_S_tryStarts_118 rfl ?_
                  refine sx_icmp_gt (tgt := 155) d_S_tryStarts_120 (by decide) ⟨by decide, by decide⟩ ⟨by decide, by decide⟩ (fun c120_79 => ?_) (fun c120_79 => ?_)
                  · omega
                  · refine sx_aload_n d_S_tryStarts_123 rfl ?_
                    refine sx_getR (r := some (20)) d_S_tryStarts_124 fl_S_38 (go rfl rfl rfl) (by decide) (by decide) (by decide) rfl ?_
                    refine sx_aload_n d_S_tryStarts_127 rfl ?_
                    refine sx_getR (r := some (32)) d_S_tryStarts_128 fl_S_23 (go rfl rfl rfl) (by decide) (by decide) (by decide) rfl ?_
                    refine sx_iload_n d_S_tryStarts_131 rfl ?_
                    refine sx_iconst d_S_tryStarts_132 ?_
                    refine sx_imul d_S_tryStarts_133 ?_
                    refine sx_iload d_S_tryStarts_134 rfl ?_
                    refine sx_iadd d_S_tryStarts_136 ?_
                    refine sx_aald (r := some ((35 + (2 * l + 1)))) d_S_tryStarts_137 (go rfl rfl rfl) (t := 1) rfl (by omega) (by omega) (by decide) (by rw [show (Int.toNat (((l : Int) * 2) + 1)) = 2 * l + 1 by omega]; exact gr_i _ (by omega)) ?_
                    refine sx_aload_n d_S_tryStarts_138 rfl ?_
                    refine sx_getR (r := some (26)) d_S_tryStarts_139 fl_S_12 (go rfl rfl rfl) (by decide) (by decide) (by decide) rfl ?_
                    refine sx_iload_n d_S_tryStarts_142 rfl ?_
                    refine sx_iload d_S_tryStarts_143 rfl ?_
                    refine sx_iload_n d_S_tryStarts_145 rfl ?_
                    refine sx_callV (x_R_open hP hl hSV w4S 1 (by decide)) d_S_tryStarts_146 cd_R_open lk_S_90 im_R_open se_R_open (go rfl rfl rfl) rfl rfl (by decide) (st := []) rfl rfl (Nat.le_of_ble_eq_true rfl) ⟨by (show 3 + 1 ≤ k; omega), Nat.le_refl _, Nat.le_refl _⟩ (fun _ _ hq => ?_)
                    obtain ⟨rfl, w5, rfl, w5f, w5R, w5W1⟩ := hq
                    have w5S := (w4S).win (by omega) w5f w5R
                    have w5w := (w4w).tr (wfr_fr (d := 1) w5f)
                    have w5W0 := (w4W0).fr (by decide) w5f
                    show sx_V _ _ _ _ (0, 0) _ _ [] (gm w5) _
                    refine sx_iinc (l' := [some (sx_p 25), some (.inl (l : Int)), some (sx_p (14 + l)), some (.inl 0), some (.inl 99), some (.inl 0), some (.inl 1), some (.inl 2), none]) d_S_tryStarts_149 rfl (by decide) rfl rfl ?_
                    refine sx_goto (tgt := 116) d_S_tryStarts_152 (by decide) ?_
                    refine sx_iload d_S_tryStarts_116 rfl ?_
                    refine sx_iload d_S_tryStarts_118 rfl ?_
                    refine sx_icmp_gt (tgt := 155) d_S_tryStarts_120 (by decide) ⟨by decide, by decide⟩ ⟨by decide, by decide⟩ (fun c120_106 => ?_) (fun c120_106 => ?_)
                    · refine sx_iload_n d_S_tryStarts_155 rfl ?_
                      refine sx_istore (l' := [some (sx_p 25), some (.inl (l : Int)), some (sx_p (14 + l)), some (.inl 0), some (.inl 99), some (.inl 0), some (.inl 1), some (.inl 0), none]) d_S_tryStarts_156 (by decide) rfl rfl ?_
                      have hCC : CC M l = ol ((0 : Nat) : Int) ((1 : Nat) : Int) 100 0 := by (unfold CC; rw [hfz]; rw [if_pos rfl, hbo]; rfl)
                      refine t_starts M ag g nw nb hP hg hag l hl S D k k2 hk (fs g (GG M ag nw nb) (CC M) j (l + 1)) 0 1 (by decide) (fun x b M1 s d a1 a2 a3 a4 => hone x b M1 s d a1 a2) _ 99 (by omega) _ 100 0 ((x, b), false) w5 _ (by omega) (by omega) w5S (fun d2 a1 a2 => by rcases (show d2 = 0 ∨ d2 = 1 by omega) with rfl | rfl <;> first | exact w5W0 | exact w5W1 | omega) (fun M5 b1 b2 => ⟨rfl, M5, rfl, ?_, w5w.tr b2⟩)
                      show ST M ag g nw l S D (lv g (GG M ag nw nb l) (fs g (GG M ag nw nb) (CC M) j (l + 1)) l S D (CC M l) ((x, b), false)) M5
                      rw [hCC]
                      exact b1
                    · omega
            · omega
          · omega
        · omega
      · omega
    · omega
/-- tryStarts: all tries of the works from l on -/
theorem c_S_try {L : Nat} {xs : Nat → Int32} (M : Nat → Nat → Int) (ag g : Int) (nw nb : Nat) (hP : PH M nw nb) (hg : 1 ≤ g ∧ g ≤ 20000) (hag : sx_r ag) : ∀ (j l : Nat) (S D : Nat → Int) (x : Int) (b : sB) (M1 : Nat → Nat → Int), l + (j + 1) = nw → SV l S D → ST M ag g nw l S D ((x, b), false) M1 → sx_R y_S_tryStarts (6 + 2 * j, 0, 0) L xs [sx_p 25, .inl (l : Int)] (gm M1) (fun v h2 => v = none ∧ ∃ M3, h2 = gm M3 ∧ ST M ag g nw l S D (fs g (GG M ag nw nb) (CC M) (j + 1) l S D (x, b)) M3 ∧ wfr l M1 M3) := by
  intro j
  induction j with
  | zero =>
    intro l S D x b M1 hl hSV hST
    have hone : ∀ (x : Int) (b : sB) (M1 : Nat → Nat → Int) (s : Int) (d : Nat), 0 ≤ s ∧ s ≤ 99 → d < 2 → ST M ag g nw l S D ((x, b), false) M1 → WN M nb l S D d M1 → sx_R y_S_tryOne (5, 0, 0) L xs [sx_p 25, .inl (l : Int), .inl s, .inl (d : Int)] (gm M1) (fun v h2 => v = none ∧ ∃ M3, h2 = gm M3 ∧ ST M ag g nw l S D (one g (GG M ag nw nb l) (fs g (GG M ag nw nb) (CC M) 0 (l + 1)) l (s, (d : Int)) S D (x, b)) M3 ∧ wfr (l + 1) M1 M3) := fun x b M1 s d hs hd hS hW =>
      c_S_one M ag g nw nb hP hg hag l (by omega) S D hSV x (by have := hS.2.1 25 10; rw [hS.2.2.2.2.1] at this; exact this) b M1 hS s hs d hd hW 5 (by decide) _ (fun M2 x4 x5 h2 => t_last M ag g nw nb hP hg hag l hl _ _ (x + 1) b M2 h2 s d x4 x5 5 (by decide))
    rcases (hP.2.2.2.2.2.2.1 l (by omega)).2.2.2.2.2.1 with f | f
    · rcases (hP.2.2.2.2.2.2.1 l (by omega)).2.2.2.2.1 with q | q
      · exact t_u0 M ag g nw nb hP hg hag 0 l (by omega) S D hSV x b M1 hST f q 6 5 (by decide) (by decide) hone
      · exact t_u1 M ag g nw nb hP hg hag 0 l (by omega) S D hSV x b M1 hST f q 6 5 (by decide) (by decide) hone
    · rcases ((hP.2.2.2.2.2.2.1 l (by omega)).2.2.2.2.2.2 f).2.2 with q | q
      · exact t_f0 M ag g nw nb hP hg hag 0 l (by omega) S D hSV x b M1 hST f q 6 5 (by decide) (by decide) hone
      · exact t_f1 M ag g nw nb hP hg hag 0 l (by omega) S D hSV x b M1 hST f q 6 5 (by decide) (by decide) hone
  | succ j ih =>
    intro l S D x b M1 hl hSV hST
    have hone : ∀ (x : Int) (b : sB) (M1 : Nat → Nat → Int) (s : Int) (d : Nat), 0 ≤ s ∧ s ≤ 99 → d < 2 → ST M ag g nw l S D ((x, b), false) M1 → WN M nb l S D d M1 → sx_R y_S_tryOne (7 + 2 * j, 0, 0) L xs [sx_p 25, .inl (l : Int), .inl s, .inl (d : Int)] (gm M1) (fun v h2 => v = none ∧ ∃ M3, h2 = gm M3 ∧ ST M ag g nw l S D (one g (GG M ag nw nb l) (fs g (GG M ag nw nb) (CC M) (j + 1) (l + 1)) l (s, (d : Int)) S D (x, b)) M3 ∧ wfr (l + 1) M1 M3) := fun x b M1 s d hs hd hS hW =>
      c_S_one M ag g nw nb hP hg hag l (by omega) S D hSV x (by have := hS.2.1 25 10; rw [hS.2.2.2.2.1] at this; exact this) b M1 hS s hs d hd hW (7 + 2 * j) (by omega) _ (fun M2 x4 x5 h2 => t_deep M ag g nw nb hP hg hag (j + 1) l (by omega) _ _ (x + 1) b M2 h2 s d x4 x5 (7 + 2 * j) (6 + 2 * j) (by omega) (by
        have q := ih (l + 1) _ _ (x + 1) b M2 (by omega) (hSV.up hs (by omega)) h2
        rw [show (((l + 1 : Nat)) : Int) = (l : Int) + 1 by omega] at q
        exact q))
    rw [show 6 + 2 * (j + 1) = 8 + 2 * j by omega]
    rcases (hP.2.2.2.2.2.2.1 l (by omega)).2.2.2.2.2.1 with f | f
    · rcases (hP.2.2.2.2.2.2.1 l (by omega)).2.2.2.2.1 with q | q
      · exact t_u0 M ag g nw nb hP hg hag (j + 1) l (by omega) S D hSV x b M1 hST f q (8 + 2 * j) (7 + 2 * j) (by omega) (by omega) hone
      · exact t_u1 M ag g nw nb hP hg hag (j + 1) l (by omega) S D hSV x b M1 hST f q (8 + 2 * j) (7 + 2 * j) (by omega) (by omega) hone
    · rcases ((hP.2.2.2.2.2.2.1 l (by omega)).2.2.2.2.2.2 f).2.2 with q | q
      · exact t_f0 M ag g nw nb hP hg hag (j + 1) l (by omega) S D hSV x b M1 hST f q (8 + 2 * j) (7 + 2 * j) (by omega) (by omega) hone
      · exact t_f1 M ag g nw nb hP hg hag (j + 1) l (by omega) S D hSV x b M1 hST f q (8 + 2 * j) (7 + 2 * j) (by omega) (by omega) hone
