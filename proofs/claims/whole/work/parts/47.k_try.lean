theorem tf_of {P : Prop} (h : tf P = true) : P := by
  by_cases q : P
  · exact q
  · rw [tf_f q] at h; cases h
set_option maxRecDepth 100000 in
set_option maxHeartbeats 4000000 in
theorem t_last {L : Nat} {xs : Nat → Int32} (M : Nat → Nat → Int) (ag g : Int) (nw nb : Nat) (hP : PH M nw nb) (hg : 1 ≤ g ∧ g ≤ 20000) (hag : sx_r ag) (l : Nat) (hl : l + 1 = nw) (S D : Nat → Int) (x : Int) (b : sB) (M2 : Nat → Nat → Int) (hST : ST M ag g nw (l + 1) S D ((x, b), false) M2) (s : Int) (d : Nat) (x4 x5 : Option sx_v) (k : Nat) (hk : 3 ≤ k) :  sx_V y_S_tryOne (k, 0, 0) L xs (0, 0) 139 [some (sx_p 25), some (.inl (l : Int)), some (.inl s), some (.inl (d : Int)), x4, x5] [] (gm M2) (fun v h2 => v = none ∧ ∃ M3, h2 = gm M3 ∧ ST M ag g nw (l + 1) S D (fs g (GG M ag nw nb) (CC M) 0 (l + 1) S D (x, b)) M3 ∧ wfr (l + 1) M2 M3) := by
  obtain ⟨hI, hRM, hnw, hnw6, hnb, hnb8, hWk, hgp⟩ := id hP
  have hl6 : l < 6 := by omega
  have M2R := hST.2.1
  refine sx_iload_n d_S_tryOne_139 rfl ?_
  refine sx_aload_n d_S_tryOne_140 rfl ?_
  refine sx_getR (r := some (2)) d_S_tryOne_141 fl_S_34 (go rfl rfl rfl) (by decide) (by decide) (by decide) rfl ?_
  refine sx_getI (z := (nw : Int)) d_S_tryOne_144 fl_S_67 (go rfl rfl rfl) (by decide) (by decide) (by decide) ((hST.1 2 9 (by decide)).trans hnw) ?_
  refine sx_iconst d_S_tryOne_147 ?_
  refine sx_isub d_S_tryOne_148 ?_
  refine sx_icmp_ne (tgt := 160) d_S_tryOne_149 (by decide) (by omega) (by omega) (fun c149_12 => ?_) (fun c149_12 => ?_)
  · omega
  · refine sx_aload_n d_S_tryOne_152 rfl ?_
    refine sx_iload_n d_S_tryOne_153 rfl ?_
    refine sx_callV (c_S_kab M2 M2R l hl6) d_S_tryOne_154 cd_S_keepAsBest lk_S_123 im_S_keepAsBest se_S_keepAsBest (go rfl rfl rfl) rfl rfl (by decide) (st := []) rfl rfl (Nat.le_of_ble_eq_true rfl) ⟨by (show 2 + 1 ≤ k; omega), Nat.le_refl _, Nat.le_refl _⟩ (fun _ _ hq => ?_)
    obtain ⟨rfl, M3, rfl, k1, k2, k3⟩ := hq
    show sx_V _ _ _ _ (0, 0) _ _ [] (gm M3) _
    refine sx_goto (tgt := 167) d_S_tryOne_157 (by decide) ?_
    refine sx_retV d_S_tryOne_167 rfl ⟨Nat.zero_le _, Nat.zero_le _⟩ ?_
    exact ⟨rfl, _, rfl, hST.best hl k1 k2 k3, fun j k0 hj => by rw [k1 _ _ (by omega) (by omega), sx_u_ne (by omega), sx_u_ne (by omega), sx_u_ne (by omega)]⟩
set_option maxRecDepth 100000 in
set_option maxHeartbeats 4000000 in
theorem t_deep {L : Nat} {xs : Nat → Int32} (M : Nat → Nat → Int) (ag g : Int) (nw nb : Nat) (hP : PH M nw nb) (hg : 1 ≤ g ∧ g ≤ 20000) (hag : sx_r ag) (j : Nat) (l : Nat) (hl : l + 1 < nw) (S D : Nat → Int) (x : Int) (b : sB) (M2 : Nat → Nat → Int) (hST : ST M ag g nw (l + 1) S D ((x, b), false) M2) (s : Int) (d : Nat) (x4 x5 : Option sx_v) (k k2 : Nat) (hk : k2 + 1 ≤ k) (hTS : sx_R y_S_tryStarts (k2, 0, 0) L xs [sx_p 25, .inl ((l : Int) + 1)] (gm M2) (fun v h2 => v = none ∧ ∃ M3, h2 = gm M3 ∧ ST M ag g nw (l + 1) S D (fs g (GG M ag nw nb) (CC M) j (l + 1) S D (x, b)) M3 ∧ wfr (l + 1) M2 M3)) :  sx_V y_S_tryOne (k, 0, 0) L xs (0, 0) 139 [some (sx_p 25), some (.inl (l : Int)), some (.inl s), some (.inl (d : Int)), x4, x5] [] (gm M2) (fun v h2 => v = none ∧ ∃ M3, h2 = gm M3 ∧ ST M ag g nw (l + 1) S D (fs g (GG M ag nw nb) (CC M) j (l + 1) S D (x, b)) M3 ∧ wfr (l + 1) M2 M3) := by
  obtain ⟨hI, hRM, hnw, hnw6, hnb, hnb8, hWk, hgp⟩ := id hP
  have hl6 : l < 6 := by omega
  refine sx_iload_n d_S_tryOne_139 rfl ?_
  refine sx_aload_n d_S_tryOne_140 rfl ?_
  refine sx_getR (r := some (2)) d_S_tryOne_141 fl_S_34 (go rfl rfl rfl) (by decide) (by decide) (by decide) rfl ?_
  refine sx_getI (z := (nw : Int)) d_S_tryOne_144 fl_S_67 (go rfl rfl rfl) (by decide) (by decide) (by decide) ((hST.1 2 9 (by decide)).trans hnw) ?_
  refine sx_iconst d_S_tryOne_147 ?_
  refine sx_isub d_S_tryOne_148 ?_
  refine sx_icmp_ne (tgt := 160) d_S_tryOne_149 (by decide) (by omega) (by omega) (fun c149_11 => ?_) (fun c149_11 => ?_)
  · refine sx_aload_n d_S_tryOne_160 rfl ?_
    refine sx_iload_n d_S_tryOne_161 rfl ?_
    refine sx_iconst d_S_tryOne_162 ?_
    refine sx_iadd d_S_tryOne_163 ?_
    refine sx_callV (hTS) d_S_tryOne_164 cd_S_tryStarts lk_S_63 im_S_tryStarts se_S_tryStarts (go rfl rfl rfl) rfl rfl (by decide) (st := []) rfl rfl (Nat.le_of_ble_eq_true rfl) ⟨by exact hk, Nat.le_refl _, Nat.le_refl _⟩ (fun _ _ hq => ?_)
    obtain ⟨rfl, M3, rfl, k1, k2⟩ := hq
    show sx_V _ _ _ _ (0, 0) _ _ [] (gm M3) _
    refine sx_retV d_S_tryOne_167 rfl ⟨Nat.zero_le _, Nat.zero_le _⟩ ?_
    exact ⟨rfl, _, rfl, k1, k2⟩
  · omega
set_option maxRecDepth 100000 in
set_option maxHeartbeats 4000000 in
theorem t_270 {L : Nat} {xs : Nat → Int32} (M : Nat → Nat → Int) (ag g : Int) (nw nb : Nat) (hP : PH M nw nb) (hg : 1 ≤ g ∧ g ≤ 20000) (hag : sx_r ag) (l : Nat) (hl : l < nw) (h0 : l = 0) (S D : Nat → Int) (hSV : SV l S D) (x : Int) (b : sB) (M1 : Nat → Nat → Int) (hST : ST M ag g nw l S D ((x, b), false) M1) (s : Int) (hs : 0 ≤ s ∧ s ≤ 99) (d : Nat) (hd : d < 2) (hWN : WN M nb l S D d M1) (k : Nat) (hk : 4 ≤ k) (deep : (Nat → Int) → (Nat → Int) → Int × sB → (Int × sB) × Bool) (hdeep : ∀ (M2 : Nat → Nat → Int) (x4 x5 : Option sx_v), ST M ag g nw (l + 1) (va_up S l s) (va_up D l (d : Int)) ((x, b), false) M2 → sx_V y_S_tryOne (k, 0, 0) L xs (0, 0) 139 [some (sx_p 25), some (.inl (l : Int)), some (.inl s), some (.inl (d : Int)), x4, x5] [] (gm M2) (fun v h2 => v = none ∧ ∃ M3, h2 = gm M3 ∧ ST M ag g nw (l + 1) (va_up S l s) (va_up D l (d : Int)) (deep (va_up S l s) (va_up D l (d : Int)) (x, b)) M3 ∧ wfr (l + 1) M2 M3)) :  sx_V y_S_tryOne (k, 0, 0) L xs (0, 0) 27 [some (sx_p 25), some (.inl (l : Int)), some (.inl s), some (.inl (d : Int)), none, none] [] (gm M1) (fun v h2 => v = none ∧ ∃ M3, h2 = gm M3 ∧ ST M ag g nw l S D (if GG M ag nw nb l (va_up S l s) (va_up D l (d : Int)) b = true then deep (va_up S l s) (va_up D l (d : Int)) (x, b) else ((x, b), false)) M3 ∧ wfr (l + 1) M1 M3) := by
  obtain ⟨hI, hRM, hnw, hnw6, hnb, hnb8, hWk, hgp⟩ := id hP
  have hl6 : l < 6 := by omega
  have hlo := hST.1.lo
  have hR1 := hST.2.1
  have h8 := hST.2.2.2.2.2.2.2
  have etr := eT_r (hWk l hl).1 (s := s) ⟨hs.1, by omega⟩
  have ger := gE_r (M := M) (S := S) l (fun i hi => ⟨(hWk i (by omega)).1, (hSV i hi).1, by have := (hSV i hi).2.1; omega⟩)
  have gvr := gV_r M ag S D l
  obtain ⟨t, ht⟩ : ∃ t : Int, t = (if ag ≠ 0 ∧ ¬ (M 23 l = s ∧ M 24 l = (d : Int)) then 1 else 0) := ⟨_, rfl⟩
  have t01 : t = 0 ∨ t = 1 := by (rw [ht]; split <;> omega)
  have gvs : gV M ag (va_up S l s) (va_up D l (d : Int)) (l + 1) = gV M ag S D l + t := by (rw [ht, show gV M ag (va_up S l s) (va_up D l (d : Int)) (l + 1) = gV M ag (va_up S l s) (va_up D l (d : Int)) l + (if ag ≠ 0 ∧ ¬ (M 23 l = (va_up S l s) l ∧ M 24 l = (va_up D l (d : Int)) l) then 1 else 0) from rfl, gV_c (S := S) (D := D) l (fun i hi => up_lt hi) (fun i hi => up_lt hi), up_at, up_at])
  have ges : gE M (va_up S l s) (l + 1) = (if (eT M l s) < (gE M S l) then (gE M S l) else (eT M l s)) := by (rw [show gE M (va_up S l s) (l + 1) = (if eT M l ((va_up S l s) l) < gE M (va_up S l s) l then gE M (va_up S l s) l else eT M l ((va_up S l s) l)) from rfl, gE_c (S := S) l (fun i hi => up_lt hi), up_at])
  have gv0 : gV M ag S D l = 0 := by (rw [h0]; rfl)
  have ge0 : gE M S l = 0 := by (rw [h0]; rfl)
  rw [ge0] at ges
  refine sx_aload_n d_S_tryOne_27 rfl ?_
  refine sx_getR (r := some (2)) d_S_tryOne_28 fl_S_34 (go rfl rfl rfl) (by decide) (by decide) (by decide) rfl ?_
  refine sx_iload_n d_S_tryOne_31 rfl ?_
  refine sx_iload_n d_S_tryOne_32 rfl ?_
  refine sx_callV (by have q := c_L_endOf (L := L) (xs := xs) M1 (lo_IDy hlo hI) hR1 l hl6 (lo_IW hlo hl6 (hWk l hl).1) s ⟨hs.1, by omega⟩; rw [lo_eT hlo hl6] at q; exact q) d_S_tryOne_33 cd_L_endOf lk_S_100 im_L_endOf se_L_endOf (go rfl rfl rfl) rfl rfl (by decide) (st := []) rfl rfl (Nat.le_of_ble_eq_true rfl) ⟨by (show _ + 1 ≤ k; omega), Nat.le_refl _, Nat.le_refl _⟩ (fun _ _ hq => ?_)
  obtain ⟨rfl, rfl⟩ := hq
  show sx_V _ _ _ _ (0, 0) _ _ [.inl (eT M l s)] (gm M1) _
  refine sx_iload_n d_S_tryOne_36 rfl ?_
  refine sx_if_le (tgt := 51) d_S_tryOne_37 (by decide) (by first | omega | (split <;> omega)) (fun c37_26 => ?_) (fun c37_26 => ?_)
  · refine sx_iconst d_S_tryOne_51 ?_
    refine sx_mmax d_S_tryOne_52 tw_515 tw_368 tw_11 tw_369 (by (show _ + 1 ≤ k; omega)) (Nat.le_of_ble_eq_true rfl) (by first | omega | (split <;> omega)) ⟨by decide, by decide⟩ ⟨Nat.zero_le _, Nat.zero_le _⟩ ?_
    refine sx_istore (l' := [some (sx_p 25), some (.inl (l : Int)), some (.inl s), some (.inl (d : Int)), some (.inl (if (eT M l s) < 0 then 0 else (eT M l s))), none]) d_S_tryOne_55 (by decide) rfl rfl ?_
    refine sx_iload_n d_S_tryOne_57 rfl ?_
    refine sx_if_le (tgt := 72) d_S_tryOne_58 (by decide) (by first | omega | (split <;> omega)) (fun c58_31 => ?_) (fun c58_31 => ?_)
    · refine sx_iconst d_S_tryOne_72 ?_
      refine sx_aload_n d_S_tryOne_73 rfl ?_
      refine sx_iload_n d_S_tryOne_74 rfl ?_
      refine sx_iload_n d_S_tryOne_75 rfl ?_
      refine sx_iload_n d_S_tryOne_76 rfl ?_
      refine sx_callV (by have q := c_S_isMove (L := L) (xs := xs) M1 hR1 l hl6 s (d : Int) (by omega) (by omega); rw [hST.2.2.1, hlo 23 l (by decide), hlo 24 l (by decide), ← ht] at q; exact q) d_S_tryOne_77 cd_S_isMove lk_S_109 im_S_isMove se_S_isMove (go rfl rfl rfl) rfl rfl (by decide) (st := [.inl 0]) rfl rfl (Nat.le_of_ble_eq_true rfl) ⟨by (show _ + 1 ≤ k; omega), Nat.le_refl _, Nat.le_refl _⟩ (fun _ _ hq => ?_)
      obtain ⟨rfl, rfl⟩ := hq
      show sx_V _ _ _ _ (0, 0) _ _ [.inl t, .inl 0] (gm M1) _
      refine sx_if_eq (tgt := 87) d_S_tryOne_80 (by decide) (by first | omega | (split <;> omega)) (fun c80_40 => ?_) (fun c80_40 => ?_)
      · refine sx_iconst d_S_tryOne_87 ?_
        refine sx_iadd d_S_tryOne_88 ?_
        refine sx_istore (l' := [some (sx_p 25), some (.inl (l : Int)), some (.inl s), some (.inl (d : Int)), some (.inl (if (eT M l s) < 0 then 0 else (eT M l s))), some (.inl (0 + 0))]) d_S_tryOne_89 (by decide) rfl rfl ?_
        have ee : (if (eT M l s) < 0 then 0 else (eT M l s)) = gE M (va_up S l s) (l + 1) := ges.symm
        have ev : (0 + 0) = gV M ag (va_up S l s) (va_up D l (d : Int)) (l + 1) := by omega
        have er : sx_r (if (eT M l s) < 0 then 0 else (eT M l s)) := by (first | omega | (split <;> omega))
        have vr : sx_r (0 + 0) := by omega
        refine sx_aload_n d_S_tryOne_91 rfl ?_
        refine sx_iload d_S_tryOne_92 rfl ?_
        refine sx_iload d_S_tryOne_94 rfl ?_
        refine sx_callV (c_S_isBetter M1 hR1 (if (eT M l s) < 0 then 0 else (eT M l s)) (0 + 0) (by first | omega | (split <;> omega)) (by first | omega | (split <;> omega))) d_S_tryOne_96 cd_S_isBetter lk_S_113 im_S_isBetter se_S_isBetter (go rfl rfl rfl) rfl rfl (by decide) (st := []) rfl rfl (Nat.le_of_ble_eq_true rfl) ⟨by (show _ + 1 ≤ k; omega), Nat.le_refl _, Nat.le_refl _⟩ (fun _ _ hq => ?_)
        obtain ⟨rfl, rfl⟩ := hq
        show sx_V _ _ _ _ (0, 0) _ _ [.inl (if M1 25 12 = 0 ∨ (0 + 0) < M1 25 14 ∨ ((0 + 0) = M1 25 14 ∧ (if (eT M l s) < 0 then 0 else (eT M l s)) < M1 25 13) then 1 else 0)] (gm M1) _
        refine sx_if_eq (tgt := 112) d_S_tryOne_99 (by decide) (by first | omega | (split <;> omega)) (fun c99_54 => ?_) (fun c99_54 => ?_)
        · refine sx_retV d_S_tryOne_112 rfl ⟨Nat.zero_le _, Nat.zero_le _⟩ ?_
          refine ⟨rfl, M1, rfl, ?_, wfr.rf _ _⟩
          rw [if_neg ?_]
          · exact hST
          · intro k0
            have k1 := tf_of k0
            first | exact absurd (hzi.mpr k1.2) (by omega) | (have k2 := (bt_iff (l := l) hST.2.2.2.2.2.2.1 ee ev).mpr k1.1; simp_all; done) | (have k2 := (bt_iff (l := l) hST.2.2.2.2.2.2.1 ee ev).mpr k1.1; rw [if_pos k2] at *; omega)
        · refine sx_aload_n d_S_tryOne_102 rfl ?_
          refine sx_iload_n d_S_tryOne_103 rfl ?_
          refine sx_iload_n d_S_tryOne_104 rfl ?_
          refine sx_iload_n d_S_tryOne_105 rfl ?_
          refine sx_callV (c_S_keeps M1 (lo_IDy hlo hI) hR1 l d hl6 hd s ⟨hs.1, by omega⟩ (lo_IW hlo hl6 (hWk l hl).1) (by rw [lo_wk hlo hl6]; exact (hWk l hl).2.2.2.1) (fun o ho => lo_IW hlo (by omega) (hWk o (by omega)).1) (fun o ho => by rw [(h8 o ho).1]; have := hSV o ho; omega)) d_S_tryOne_106 cd_S_keepsRules lk_S_117 im_S_keepsRules se_S_keepsRules (go rfl rfl rfl) rfl rfl (by decide) (st := []) rfl rfl (Nat.le_of_ble_eq_true rfl) ⟨by (show _ + 1 ≤ k; omega), Nat.le_refl _, Nat.le_refl _⟩ (fun _ _ hq => ?_)
          obtain ⟨z, rfl, hz, rfl, hzi⟩ := hq
          rw [cR_iff hST.1 (fun i hi => ⟨(h8 i hi).1, (h8 i hi).2.1⟩) hl6 hWN s] at hzi
          show sx_V _ _ _ _ (0, 0) _ _ [.inl z] (gm M1) _
          refine sx_if_ne (tgt := 113) d_S_tryOne_109 (by decide) (by first | omega | (split <;> omega)) (fun c109_70 => ?_) (fun c109_70 => ?_)
          · refine sx_aload_n d_S_tryOne_113 rfl ?_
            refine sx_getR (r := some (26)) d_S_tryOne_114 fl_S_12 (go rfl rfl rfl) (by decide) (by decide) (by decide) rfl ?_
            refine sx_iload_n d_S_tryOne_117 rfl ?_
            refine sx_iload_n d_S_tryOne_118 rfl ?_
            refine sx_iload_n d_S_tryOne_119 rfl ?_
            refine sx_callV (c_P_put M1 26 27 28 (fun _ => go rfl rfl rfl) (fun _ => go rfl rfl rfl) (fun _ => go rfl rfl rfl) (fun _ => rfl) (fun _ => rfl) l (by omega) s (d : Int)) d_S_tryOne_120 cd_P_put lk_S_120 im_P_put se_P_put (go rfl rfl rfl) rfl rfl (by decide) (st := []) rfl rfl (Nat.le_of_ble_eq_true rfl) ⟨by (show _ + 1 ≤ k; omega), Nat.le_refl _, Nat.le_refl _⟩ (fun _ _ hq => ?_)
            obtain ⟨rfl, rfl⟩ := hq
            show sx_V _ _ _ _ (0, 0) _ _ [] (gm (sx_u (sx_u M1 27 l s) 28 l (d : Int))) _
            refine sx_aload_n d_S_tryOne_123 rfl ?_
            refine sx_getR (r := some (33)) d_S_tryOne_124 fl_S_27 (go rfl rfl rfl) (by decide) (by decide) (by decide) rfl ?_
            refine sx_iload_n d_S_tryOne_127 rfl ?_
            refine sx_iload d_S_tryOne_128 rfl ?_
            refine sx_iast (h2 := gm (sx_u (sx_u (sx_u M1 27 l s) 28 l (d : Int)) 33 l (if (eT M l s) < 0 then 0 else (eT M l s)))) d_S_tryOne_130 (go rfl rfl rfl) (by omega) (by omega) (by decide) rfl ?_
            refine sx_aload_n d_S_tryOne_131 rfl ?_
            refine sx_getR (r := some (34)) d_S_tryOne_132 fl_S_31 (go rfl rfl rfl) (by decide) (by decide) (by decide) rfl ?_
            refine sx_iload_n d_S_tryOne_135 rfl ?_
            refine sx_iload d_S_tryOne_136 rfl ?_
            refine sx_iast (h2 := gm (sx_u (sx_u (sx_u (sx_u M1 27 l s) 28 l (d : Int)) 33 l (if (eT M l s) < 0 then 0 else (eT M l s))) 34 l (0 + 0))) d_S_tryOne_138 (go rfl rfl rfl) (by omega) (by omega) (by decide) rfl ?_
            have kb : bt M ag nw l (va_up S l s) (va_up D l (d : Int)) b := (bt_iff (l := l) hST.2.2.2.2.2.2.1 ee ev).mp (by first | (split at * <;> first | assumption | omega))
            have kG : GG M ag nw nb l (va_up S l s) (va_up D l (d : Int)) b = true := tf_t ⟨kb, hzi.mp (by omega)⟩
            rw [kG]
            have hs2 := hST.put (s := s) (d := (d : Int)) (e := (if (eT M l s) < 0 then 0 else (eT M l s))) (v := (0 + 0)) (by omega) (by omega) er vr ee ev
            refine (hdeep _ _ _ hs2).mono ?_
            rintro v2 h2 ⟨rfl, M3, rfl, k1, k2⟩
            refine ⟨rfl, M3, rfl, k1.sub (fun i hi => up_lt hi) (fun i hi => up_lt hi), (((((wfr.rf (l + 1) M1).u _ (by decide)).u _ (by decide)).u _ (by decide)).u _ (by decide)).tr k2⟩
          · refine sx_retV d_S_tryOne_112 rfl ⟨Nat.zero_le _, Nat.zero_le _⟩ ?_
            refine ⟨rfl, M1, rfl, ?_, wfr.rf _ _⟩
            rw [if_neg ?_]
            · exact hST
            · intro k0
              have k1 := tf_of k0
              first | exact absurd (hzi.mpr k1.2) (by omega) | (have k2 := (bt_iff (l := l) hST.2.2.2.2.2.2.1 ee ev).mpr k1.1; simp_all; done) | (have k2 := (bt_iff (l := l) hST.2.2.2.2.2.2.1 ee ev).mpr k1.1; rw [if_pos k2] at *; omega)
      · refine sx_iconst d_S_tryOne_83 ?_
        refine sx_goto (tgt := 88) d_S_tryOne_84 (by decide) ?_
        refine sx_iadd d_S_tryOne_88 ?_
        refine sx_istore (l' := [some (sx_p 25), some (.inl (l : Int)), some (.inl s), some (.inl (d : Int)), some (.inl (if (eT M l s) < 0 then 0 else (eT M l s))), some (.inl (0 + 1))]) d_S_tryOne_89 (by decide) rfl rfl ?_
        have ee : (if (eT M l s) < 0 then 0 else (eT M l s)) = gE M (va_up S l s) (l + 1) := ges.symm
        have ev : (0 + 1) = gV M ag (va_up S l s) (va_up D l (d : Int)) (l + 1) := by omega
        have er : sx_r (if (eT M l s) < 0 then 0 else (eT M l s)) := by (first | omega | (split <;> omega))
        have vr : sx_r (0 + 1) := by omega
        refine sx_aload_n d_S_tryOne_91 rfl ?_
        refine sx_iload d_S_tryOne_92 rfl ?_
        refine sx_iload d_S_tryOne_94 rfl ?_
        refine sx_callV (c_S_isBetter M1 hR1 (if (eT M l s) < 0 then 0 else (eT M l s)) (0 + 1) (by first | omega | (split <;> omega)) (by first | omega | (split <;> omega))) d_S_tryOne_96 cd_S_isBetter lk_S_113 im_S_isBetter se_S_isBetter (go rfl rfl rfl) rfl rfl (by decide) (st := []) rfl rfl (Nat.le_of_ble_eq_true rfl) ⟨by (show _ + 1 ≤ k; omega), Nat.le_refl _, Nat.le_refl _⟩ (fun _ _ hq => ?_)
        obtain ⟨rfl, rfl⟩ := hq
        show sx_V _ _ _ _ (0, 0) _ _ [.inl (if M1 25 12 = 0 ∨ (0 + 1) < M1 25 14 ∨ ((0 + 1) = M1 25 14 ∧ (if (eT M l s) < 0 then 0 else (eT M l s)) < M1 25 13) then 1 else 0)] (gm M1) _
        refine sx_if_eq (tgt := 112) d_S_tryOne_99 (by decide) (by first | omega | (split <;> omega)) (fun c99_117 => ?_) (fun c99_117 => ?_)
        · refine sx_retV d_S_tryOne_112 rfl ⟨Nat.zero_le _, Nat.zero_le _⟩ ?_
          refine ⟨rfl, M1, rfl, ?_, wfr.rf _ _⟩
          rw [if_neg ?_]
          · exact hST
          · intro k0
            have k1 := tf_of k0
            first | exact absurd (hzi.mpr k1.2) (by omega) | (have k2 := (bt_iff (l := l) hST.2.2.2.2.2.2.1 ee ev).mpr k1.1; simp_all; done) | (have k2 := (bt_iff (l := l) hST.2.2.2.2.2.2.1 ee ev).mpr k1.1; rw [if_pos k2] at *; omega)
        · refine sx_aload_n d_S_tryOne_102 rfl ?_
          refine sx_iload_n d_S_tryOne_103 rfl ?_
          refine sx_iload_n d_S_tryOne_104 rfl ?_
          refine sx_iload_n d_S_tryOne_105 rfl ?_
          refine sx_callV (c_S_keeps M1 (lo_IDy hlo hI) hR1 l d hl6 hd s ⟨hs.1, by omega⟩ (lo_IW hlo hl6 (hWk l hl).1) (by rw [lo_wk hlo hl6]; exact (hWk l hl).2.2.2.1) (fun o ho => lo_IW hlo (by omega) (hWk o (by omega)).1) (fun o ho => by rw [(h8 o ho).1]; have := hSV o ho; omega)) d_S_tryOne_106 cd_S_keepsRules lk_S_117 im_S_keepsRules se_S_keepsRules (go rfl rfl rfl) rfl rfl (by decide) (st := []) rfl rfl (Nat.le_of_ble_eq_true rfl) ⟨by (show _ + 1 ≤ k; omega), Nat.le_refl _, Nat.le_refl _⟩ (fun _ _ hq => ?_)
          obtain ⟨z, rfl, hz, rfl, hzi⟩ := hq
          rw [cR_iff hST.1 (fun i hi => ⟨(h8 i hi).1, (h8 i hi).2.1⟩) hl6 hWN s] at hzi
          show sx_V _ _ _ _ (0, 0) _ _ [.inl z] (gm M1) _
          refine sx_if_ne (tgt := 113) d_S_tryOne_109 (by decide) (by first | omega | (split <;> omega)) (fun c109_133 => ?_) (fun c109_133 => ?_)
          · refine sx_aload_n d_S_tryOne_113 rfl ?_
            refine sx_getR (r := some (26)) d_S_tryOne_114 fl_S_12 (go rfl rfl rfl) (by decide) (by decide) (by decide) rfl ?_
            refine sx_iload_n d_S_tryOne_117 rfl ?_
            refine sx_iload_n d_S_tryOne_118 rfl ?_
            refine sx_iload_n d_S_tryOne_119 rfl ?_
            refine sx_callV (c_P_put M1 26 27 28 (fun _ => go rfl rfl rfl) (fun _ => go rfl rfl rfl) (fun _ => go rfl rfl rfl) (fun _ => rfl) (fun _ => rfl) l (by omega) s (d : Int)) d_S_tryOne_120 cd_P_put lk_S_120 im_P_put se_P_put (go rfl rfl rfl) rfl rfl (by decide) (st := []) rfl rfl (Nat.le_of_ble_eq_true rfl) ⟨by (show _ + 1 ≤ k; omega), Nat.le_refl _, Nat.le_refl _⟩ (fun _ _ hq => ?_)
            obtain ⟨rfl, rfl⟩ := hq
            show sx_V _ _ _ _ (0, 0) _ _ [] (gm (sx_u (sx_u M1 27 l s) 28 l (d : Int))) _
            refine sx_aload_n d_S_tryOne_123 rfl ?_
            refine sx_getR (r := some (33)) d_S_tryOne_124 fl_S_27 (go rfl rfl rfl) (by decide) (by decide) (by decide) rfl ?_
            refine sx_iload_n d_S_tryOne_127 rfl ?_
            refine sx_iload d_S_tryOne_128 rfl ?_
            refine sx_iast (h2 := gm (sx_u (sx_u (sx_u M1 27 l s) 28 l (d : Int)) 33 l (if (eT M l s) < 0 then 0 else (eT M l s)))) d_S_tryOne_130 (go rfl rfl rfl) (by omega) (by omega) (by decide) rfl ?_
            refine sx_aload_n d_S_tryOne_131 rfl ?_
            refine sx_getR (r := some (34)) d_S_tryOne_132 fl_S_31 (go rfl rfl rfl) (by decide) (by decide) (by decide) rfl ?_
            refine sx_iload_n d_S_tryOne_135 rfl ?_
            refine sx_iload d_S_tryOne_136 rfl ?_
            refine sx_iast (h2 := gm (sx_u (sx_u (sx_u (sx_u M1 27 l s) 28 l (d : Int)) 33 l (if (eT M l s) < 0 then 0 else (eT M l s))) 34 l (0 + 1))) d_S_tryOne_138 (go rfl rfl rfl) (by omega) (by omega) (by decide) rfl ?_
            have kb : bt M ag nw l (va_up S l s) (va_up D l (d : Int)) b := (bt_iff (l := l) hST.2.2.2.2.2.2.1 ee ev).mp (by first | (split at * <;> first | assumption | omega))
            have kG : GG M ag nw nb l (va_up S l s) (va_up D l (d : Int)) b = true := tf_t ⟨kb, hzi.mp (by omega)⟩
            rw [kG]
            have hs2 := hST.put (s := s) (d := (d : Int)) (e := (if (eT M l s) < 0 then 0 else (eT M l s))) (v := (0 + 1)) (by omega) (by omega) er vr ee ev
            refine (hdeep _ _ _ hs2).mono ?_
            rintro v2 h2 ⟨rfl, M3, rfl, k1, k2⟩
            refine ⟨rfl, M3, rfl, k1.sub (fun i hi => up_lt hi) (fun i hi => up_lt hi), (((((wfr.rf (l + 1) M1).u _ (by decide)).u _ (by decide)).u _ (by decide)).u _ (by decide)).tr k2⟩
          · refine sx_retV d_S_tryOne_112 rfl ⟨Nat.zero_le _, Nat.zero_le _⟩ ?_
            refine ⟨rfl, M1, rfl, ?_, wfr.rf _ _⟩
            rw [if_neg ?_]
            · exact hST
            · intro k0
              have k1 := tf_of k0
              first | exact absurd (hzi.mpr k1.2) (by omega) | (have k2 := (bt_iff (l := l) hST.2.2.2.2.2.2.1 ee ev).mpr k1.1; simp_all; done) | (have k2 := (bt_iff (l := l) hST.2.2.2.2.2.2.1 ee ev).mpr k1.1; rw [if_pos k2] at *; omega)
    · omega
  · omega
set_option maxRecDepth 100000 in
set_option maxHeartbeats 4000000 in
theorem t_27p {L : Nat} {xs : Nat → Int32} (M : Nat → Nat → Int) (ag g : Int) (nw nb : Nat) (hP : PH M nw nb) (hg : 1 ≤ g ∧ g ≤ 20000) (hag : sx_r ag) (l : Nat) (hl : l < nw) (h0 : 0 < l) (S D : Nat → Int) (hSV : SV l S D) (x : Int) (b : sB) (M1 : Nat → Nat → Int) (hST : ST M ag g nw l S D ((x, b), false) M1) (s : Int) (hs : 0 ≤ s ∧ s ≤ 99) (d : Nat) (hd : d < 2) (hWN : WN M nb l S D d M1) (k : Nat) (hk : 4 ≤ k) (deep : (Nat → Int) → (Nat → Int) → Int × sB → (Int × sB) × Bool) (hdeep : ∀ (M2 : Nat → Nat → Int) (x4 x5 : Option sx_v), ST M ag g nw (l + 1) (va_up S l s) (va_up D l (d : Int)) ((x, b), false) M2 → sx_V y_S_tryOne (k, 0, 0) L xs (0, 0) 139 [some (sx_p 25), some (.inl (l : Int)), some (.inl s), some (.inl (d : Int)), x4, x5] [] (gm M2) (fun v h2 => v = none ∧ ∃ M3, h2 = gm M3 ∧ ST M ag g nw (l + 1) (va_up S l s) (va_up D l (d : Int)) (deep (va_up S l s) (va_up D l (d : Int)) (x, b)) M3 ∧ wfr (l + 1) M2 M3)) :  sx_V y_S_tryOne (k, 0, 0) L xs (0, 0) 27 [some (sx_p 25), some (.inl (l : Int)), some (.inl s), some (.inl (d : Int)), none, none] [] (gm M1) (fun v h2 => v = none ∧ ∃ M3, h2 = gm M3 ∧ ST M ag g nw l S D (if GG M ag nw nb l (va_up S l s) (va_up D l (d : Int)) b = true then deep (va_up S l s) (va_up D l (d : Int)) (x, b) else ((x, b), false)) M3 ∧ wfr (l + 1) M1 M3) := by
  obtain ⟨hI, hRM, hnw, hnw6, hnb, hnb8, hWk, hgp⟩ := id hP
  have hl6 : l < 6 := by omega
  have hlo := hST.1.lo
  have hR1 := hST.2.1
  have h8 := hST.2.2.2.2.2.2.2
  have etr := eT_r (hWk l hl).1 (s := s) ⟨hs.1, by omega⟩
  have ger := gE_r (M := M) (S := S) l (fun i hi => ⟨(hWk i (by omega)).1, (hSV i hi).1, by have := (hSV i hi).2.1; omega⟩)
  have gvr := gV_r M ag S D l
  obtain ⟨t, ht⟩ : ∃ t : Int, t = (if ag ≠ 0 ∧ ¬ (M 23 l = s ∧ M 24 l = (d : Int)) then 1 else 0) := ⟨_, rfl⟩
  have t01 : t = 0 ∨ t = 1 := by (rw [ht]; split <;> omega)
  have gvs : gV M ag (va_up S l s) (va_up D l (d : Int)) (l + 1) = gV M ag S D l + t := by (rw [ht, show gV M ag (va_up S l s) (va_up D l (d : Int)) (l + 1) = gV M ag (va_up S l s) (va_up D l (d : Int)) l + (if ag ≠ 0 ∧ ¬ (M 23 l = (va_up S l s) l ∧ M 24 l = (va_up D l (d : Int)) l) then 1 else 0) from rfl, gV_c (S := S) (D := D) l (fun i hi => up_lt hi) (fun i hi => up_lt hi), up_at, up_at])
  have ges : gE M (va_up S l s) (l + 1) = (if (eT M l s) < (gE M S l) then (gE M S l) else (eT M l s)) := by (rw [show gE M (va_up S l s) (l + 1) = (if eT M l ((va_up S l s) l) < gE M (va_up S l s) l then gE M (va_up S l s) l else eT M l ((va_up S l s) l)) from rfl, gE_c (S := S) l (fun i hi => up_lt hi), up_at])
  have hE : M1 33 (Int.toNat ((l : Int) - 1)) = gE M S l := by (have q := (h8 (l - 1) (by omega)).2.2.1; rw [show l - 1 + 1 = l by omega] at q; rw [show Int.toNat ((l : Int) - 1) = l - 1 by omega]; exact q)
  have hV : M1 34 (Int.toNat ((l : Int) - 1)) = gV M ag S D l := by (have q := (h8 (l - 1) (by omega)).2.2.2; rw [show l - 1 + 1 = l by omega] at q; rw [show Int.toNat ((l : Int) - 1) = l - 1 by omega]; exact q)
  refine sx_aload_n d_S_tryOne_27 rfl ?_
  refine sx_getR (r := some (2)) d_S_tryOne_28 fl_S_34 (go rfl rfl rfl) (by decide) (by decide) (by decide) rfl ?_
  refine sx_iload_n d_S_tryOne_31 rfl ?_
  refine sx_iload_n d_S_tryOne_32 rfl ?_
  refine sx_callV (by have q := c_L_endOf (L := L) (xs := xs) M1 (lo_IDy hlo hI) hR1 l hl6 (lo_IW hlo hl6 (hWk l hl).1) s ⟨hs.1, by omega⟩; rw [lo_eT hlo hl6] at q; exact q) d_S_tryOne_33 cd_L_endOf lk_S_100 im_L_endOf se_L_endOf (go rfl rfl rfl) rfl rfl (by decide) (st := []) rfl rfl (Nat.le_of_ble_eq_true rfl) ⟨by (show _ + 1 ≤ k; omega), Nat.le_refl _, Nat.le_refl _⟩ (fun _ _ hq => ?_)
  obtain ⟨rfl, rfl⟩ := hq
  show sx_V _ _ _ _ (0, 0) _ _ [.inl (eT M l s)] (gm M1) _
  refine sx_iload_n d_S_tryOne_36 rfl ?_
  refine sx_if_le (tgt := 51) d_S_tryOne_37 (by decide) (by first | omega | (split <;> omega)) (fun c37_25 => ?_) (fun c37_25 => ?_)
  · omega
  · refine sx_aload_n d_S_tryOne_40 rfl ?_
    refine sx_getR (r := some (33)) d_S_tryOne_41 fl_S_27 (go rfl rfl rfl) (by decide) (by decide) (by decide) rfl ?_
    refine sx_iload_n d_S_tryOne_44 rfl ?_
    refine sx_iconst d_S_tryOne_45 ?_
    refine sx_isub d_S_tryOne_46 ?_
    refine sx_iald (z := (gE M S l)) d_S_tryOne_47 (go rfl rfl rfl) (by omega) (by omega) (by decide) hE ?_
    refine sx_goto (tgt := 52) d_S_tryOne_48 (by decide) ?_
    refine sx_mmax d_S_tryOne_52 tw_515 tw_368 tw_11 tw_369 (by (show _ + 1 ≤ k; omega)) (Nat.le_of_ble_eq_true rfl) (by first | omega | (split <;> omega)) (by first | omega | (split <;> omega)) ⟨Nat.zero_le _, Nat.zero_le _⟩ ?_
    refine sx_istore (l' := [some (sx_p 25), some (.inl (l : Int)), some (.inl s), some (.inl (d : Int)), some (.inl (if (eT M l s) < (gE M S l) then (gE M S l) else (eT M l s))), none]) d_S_tryOne_55 (by decide) rfl rfl ?_
    refine sx_iload_n d_S_tryOne_57 rfl ?_
    refine sx_if_le (tgt := 72) d_S_tryOne_58 (by decide) (by first | omega | (split <;> omega)) (fun c58_37 => ?_) (fun c58_37 => ?_)
    · omega
    · refine sx_aload_n d_S_tryOne_61 rfl ?_
      refine sx_getR (r := some (34)) d_S_tryOne_62 fl_S_31 (go rfl rfl rfl) (by decide) (by decide) (by decide) rfl ?_
      refine sx_iload_n d_S_tryOne_65 rfl ?_
      refine sx_iconst d_S_tryOne_66 ?_
      refine sx_isub d_S_tryOne_67 ?_
      refine sx_iald (z := (gV M ag S D l)) d_S_tryOne_68 (go rfl rfl rfl) (by omega) (by omega) (by decide) hV ?_
      refine sx_goto (tgt := 73) d_S_tryOne_69 (by decide) ?_
      refine sx_aload_n d_S_tryOne_73 rfl ?_
      refine sx_iload_n d_S_tryOne_74 rfl ?_
      refine sx_iload_n d_S_tryOne_75 rfl ?_
      refine sx_iload_n d_S_tryOne_76 rfl ?_
      refine sx_callV (by have q := c_S_isMove (L := L) (xs := xs) M1 hR1 l hl6 s (d : Int) (by omega) (by omega); rw [hST.2.2.1, hlo 23 l (by decide), hlo 24 l (by decide), ← ht] at q; exact q) d_S_tryOne_77 cd_S_isMove lk_S_109 im_S_isMove se_S_isMove (go rfl rfl rfl) rfl rfl (by decide) (st := [.inl (gV M ag S D l)]) rfl rfl (Nat.le_of_ble_eq_true rfl) ⟨by (show _ + 1 ≤ k; omega), Nat.le_refl _, Nat.le_refl _⟩ (fun _ _ hq => ?_)
      obtain ⟨rfl, rfl⟩ := hq
      show sx_V _ _ _ _ (0, 0) _ _ [.inl t, .inl (gV M ag S D l)] (gm M1) _
      refine sx_if_eq (tgt := 87) d_S_tryOne_80 (by decide) (by first | omega | (split <;> omega)) (fun c80_53 => ?_) (fun c80_53 => ?_)
      · refine sx_iconst d_S_tryOne_87 ?_
        refine sx_iadd d_S_tryOne_88 ?_
        refine sx_istore (l' := [some (sx_p 25), some (.inl (l : Int)), some (.inl s), some (.inl (d : Int)), some (.inl (if (eT M l s) < (gE M S l) then (gE M S l) else (eT M l s))), some (.inl ((gV M ag S D l) + 0))]) d_S_tryOne_89 (by decide) rfl rfl ?_
        have ee : (if (eT M l s) < (gE M S l) then (gE M S l) else (eT M l s)) = gE M (va_up S l s) (l + 1) := ges.symm
        have ev : ((gV M ag S D l) + 0) = gV M ag (va_up S l s) (va_up D l (d : Int)) (l + 1) := by omega
        have er : sx_r (if (eT M l s) < (gE M S l) then (gE M S l) else (eT M l s)) := by (first | omega | (split <;> omega))
        have vr : sx_r ((gV M ag S D l) + 0) := by omega
        refine sx_aload_n d_S_tryOne_91 rfl ?_
        refine sx_iload d_S_tryOne_92 rfl ?_
        refine sx_iload d_S_tryOne_94 rfl ?_
        refine sx_callV (c_S_isBetter M1 hR1 (if (eT M l s) < (gE M S l) then (gE M S l) else (eT M l s)) ((gV M ag S D l) + 0) (by first | omega | (split <;> omega)) (by first | omega | (split <;> omega))) d_S_tryOne_96 cd_S_isBetter lk_S_113 im_S_isBetter se_S_isBetter (go rfl rfl rfl) rfl rfl (by decide) (st := []) rfl rfl (Nat.le_of_ble_eq_true rfl) ⟨by (show _ + 1 ≤ k; omega), Nat.le_refl _, Nat.le_refl _⟩ (fun _ _ hq => ?_)
        obtain ⟨rfl, rfl⟩ := hq
        show sx_V _ _ _ _ (0, 0) _ _ [.inl (if M1 25 12 = 0 ∨ ((gV M ag S D l) + 0) < M1 25 14 ∨ (((gV M ag S D l) + 0) = M1 25 14 ∧ (if (eT M l s) < (gE M S l) then (gE M S l) else (eT M l s)) < M1 25 13) then 1 else 0)] (gm M1) _
        refine sx_if_eq (tgt := 112) d_S_tryOne_99 (by decide) (by first | omega | (split <;> omega)) (fun c99_67 => ?_) (fun c99_67 => ?_)
        · refine sx_retV d_S_tryOne_112 rfl ⟨Nat.zero_le _, Nat.zero_le _⟩ ?_
          refine ⟨rfl, M1, rfl, ?_, wfr.rf _ _⟩
          rw [if_neg ?_]
          · exact hST
          · intro k0
            have k1 := tf_of k0
            first | exact absurd (hzi.mpr k1.2) (by omega) | (have k2 := (bt_iff (l := l) hST.2.2.2.2.2.2.1 ee ev).mpr k1.1; simp_all; done) | (have k2 := (bt_iff (l := l) hST.2.2.2.2.2.2.1 ee ev).mpr k1.1; rw [if_pos k2] at *; omega)
        · refine sx_aload_n d_S_tryOne_102 rfl ?_
          refine sx_iload_n d_S_tryOne_103 rfl ?_
          refine sx_iload_n d_S_tryOne_104 rfl ?_
          refine sx_iload_n d_S_tryOne_105 rfl ?_
          refine sx_callV (c_S_keeps M1 (lo_IDy hlo hI) hR1 l d hl6 hd s ⟨hs.1, by omega⟩ (lo_IW hlo hl6 (hWk l hl).1) (by rw [lo_wk hlo hl6]; exact (hWk l hl).2.2.2.1) (fun o ho => lo_IW hlo (by omega) (hWk o (by omega)).1) (fun o ho => by rw [(h8 o ho).1]; have := hSV o ho; omega)) d_S_tryOne_106 cd_S_keepsRules lk_S_117 im_S_keepsRules se_S_keepsRules (go rfl rfl rfl) rfl rfl (by decide) (st := []) rfl rfl (Nat.le_of_ble_eq_true rfl) ⟨by (show _ + 1 ≤ k; omega), Nat.le_refl _, Nat.le_refl _⟩ (fun _ _ hq => ?_)
          obtain ⟨z, rfl, hz, rfl, hzi⟩ := hq
          rw [cR_iff hST.1 (fun i hi => ⟨(h8 i hi).1, (h8 i hi).2.1⟩) hl6 hWN s] at hzi
          show sx_V _ _ _ _ (0, 0) _ _ [.inl z] (gm M1) _
          refine sx_if_ne (tgt := 113) d_S_tryOne_109 (by decide) (by first | omega | (split <;> omega)) (fun c109_83 => ?_) (fun c109_83 => ?_)
          · refine sx_aload_n d_S_tryOne_113 rfl ?_
            refine sx_getR (r := some (26)) d_S_tryOne_114 fl_S_12 (go rfl rfl rfl) (by decide) (by decide) (by decide) rfl ?_
            refine sx_iload_n d_S_tryOne_117 rfl ?_
            refine sx_iload_n d_S_tryOne_118 rfl ?_
            refine sx_iload_n d_S_tryOne_119 rfl ?_
            refine sx_callV (c_P_put M1 26 27 28 (fun _ => go rfl rfl rfl) (fun _ => go rfl rfl rfl) (fun _ => go rfl rfl rfl) (fun _ => rfl) (fun _ => rfl) l (by omega) s (d : Int)) d_S_tryOne_120 cd_P_put lk_S_120 im_P_put se_P_put (go rfl rfl rfl) rfl rfl (by decide) (st := []) rfl rfl (Nat.le_of_ble_eq_true rfl) ⟨by (show _ + 1 ≤ k; omega), Nat.le_refl _, Nat.le_refl _⟩ (fun _ _ hq => ?_)
            obtain ⟨rfl, rfl⟩ := hq
            show sx_V _ _ _ _ (0, 0) _ _ [] (gm (sx_u (sx_u M1 27 l s) 28 l (d : Int))) _
            refine sx_aload_n d_S_tryOne_123 rfl ?_
            refine sx_getR (r := some (33)) d_S_tryOne_124 fl_S_27 (go rfl rfl rfl) (by decide) (by decide) (by decide) rfl ?_
            refine sx_iload_n d_S_tryOne_127 rfl ?_
            refine sx_iload d_S_tryOne_128 rfl ?_
            refine sx_iast (h2 := gm (sx_u (sx_u (sx_u M1 27 l s) 28 l (d : Int)) 33 l (if (eT M l s) < (gE M S l) then (gE M S l) else (eT M l s)))) d_S_tryOne_130 (go rfl rfl rfl) (by omega) (by omega) (by decide) rfl ?_
            refine sx_aload_n d_S_tryOne_131 rfl ?_
            refine sx_getR (r := some (34)) d_S_tryOne_132 fl_S_31 (go rfl rfl rfl) (by decide) (by decide) (by decide) rfl ?_
            refine sx_iload_n d_S_tryOne_135 rfl ?_
            refine sx_iload d_S_tryOne_136 rfl ?_
            refine sx_iast (h2 := gm (sx_u (sx_u (sx_u (sx_u M1 27 l s) 28 l (d : Int)) 33 l (if (eT M l s) < (gE M S l) then (gE M S l) else (eT M l s))) 34 l ((gV M ag S D l) + 0))) d_S_tryOne_138 (go rfl rfl rfl) (by omega) (by omega) (by decide) rfl ?_
            have kb : bt M ag nw l (va_up S l s) (va_up D l (d : Int)) b := (bt_iff (l := l) hST.2.2.2.2.2.2.1 ee ev).mp (by first | (split at * <;> first | assumption | omega))
            have kG : GG M ag nw nb l (va_up S l s) (va_up D l (d : Int)) b = true := tf_t ⟨kb, hzi.mp (by omega)⟩
            rw [kG]
            have hs2 := hST.put (s := s) (d := (d : Int)) (e := (if (eT M l s) < (gE M S l) then (gE M S l) else (eT M l s))) (v := ((gV M ag S D l) + 0)) (by omega) (by omega) er vr ee ev
            refine (hdeep _ _ _ hs2).mono ?_
            rintro v2 h2 ⟨rfl, M3, rfl, k1, k2⟩
            refine ⟨rfl, M3, rfl, k1.sub (fun i hi => up_lt hi) (fun i hi => up_lt hi), (((((wfr.rf (l + 1) M1).u _ (by decide)).u _ (by decide)).u _ (by decide)).u _ (by decide)).tr k2⟩
          · refine sx_retV d_S_tryOne_112 rfl ⟨Nat.zero_le _, Nat.zero_le _⟩ ?_
            refine ⟨rfl, M1, rfl, ?_, wfr.rf _ _⟩
            rw [if_neg ?_]
            · exact hST
            · intro k0
              have k1 := tf_of k0
              first | exact absurd (hzi.mpr k1.2) (by omega) | (have k2 := (bt_iff (l := l) hST.2.2.2.2.2.2.1 ee ev).mpr k1.1; simp_all; done) | (have k2 := (bt_iff (l := l) hST.2.2.2.2.2.2.1 ee ev).mpr k1.1; rw [if_pos k2] at *; omega)
      · refine sx_iconst d_S_tryOne_83 ?_
        refine sx_goto (tgt := 88) d_S_tryOne_84 (by decide) ?_
        refine sx_iadd d_S_tryOne_88 ?_
        refine sx_istore (l' := [some (sx_p 25), some (.inl (l : Int)), some (.inl s), some (.inl (d : Int)), some (.inl (if (eT M l s) < (gE M S l) then (gE M S l) else (eT M l s))), some (.inl ((gV M ag S D l) + 1))]) d_S_tryOne_89 (by decide) rfl rfl ?_
        have ee : (if (eT M l s) < (gE M S l) then (gE M S l) else (eT M l s)) = gE M (va_up S l s) (l + 1) := ges.symm
        have ev : ((gV M ag S D l) + 1) = gV M ag (va_up S l s) (va_up D l (d : Int)) (l + 1) := by omega
        have er : sx_r (if (eT M l s) < (gE M S l) then (gE M S l) else (eT M l s)) := by (first | omega | (split <;> omega))
        have vr : sx_r ((gV M ag S D l) + 1) := by omega
        refine sx_aload_n d_S_tryOne_91 rfl ?_
        refine sx_iload d_S_tryOne_92 rfl ?_
        refine sx_iload d_S_tryOne_94 rfl ?_
        refine sx_callV (c_S_isBetter M1 hR1 (if (eT M l s) < (gE M S l) then (gE M S l) else (eT M l s)) ((gV M ag S D l) + 1) (by first | omega | (split <;> omega)) (by first | omega | (split <;> omega))) d_S_tryOne_96 cd_S_isBetter lk_S_113 im_S_isBetter se_S_isBetter (go rfl rfl rfl) rfl rfl (by decide) (st := []) rfl rfl (Nat.le_of_ble_eq_true rfl) ⟨by (show _ + 1 ≤ k; omega), Nat.le_refl _, Nat.le_refl _⟩ (fun _ _ hq => ?_)
        obtain ⟨rfl, rfl⟩ := hq
        show sx_V _ _ _ _ (0, 0) _ _ [.inl (if M1 25 12 = 0 ∨ ((gV M ag S D l) + 1) < M1 25 14 ∨ (((gV M ag S D l) + 1) = M1 25 14 ∧ (if (eT M l s) < (gE M S l) then (gE M S l) else (eT M l s)) < M1 25 13) then 1 else 0)] (gm M1) _
        refine sx_if_eq (tgt := 112) d_S_tryOne_99 (by decide) (by first | omega | (split <;> omega)) (fun c99_130 => ?_) (fun c99_130 => ?_)
        · refine sx_retV d_S_tryOne_112 rfl ⟨Nat.zero_le _, Nat.zero_le _⟩ ?_
          refine ⟨rfl, M1, rfl, ?_, wfr.rf _ _⟩
          rw [if_neg ?_]
          · exact hST
          · intro k0
            have k1 := tf_of k0
            first | exact absurd (hzi.mpr k1.2) (by omega) | (have k2 := (bt_iff (l := l) hST.2.2.2.2.2.2.1 ee ev).mpr k1.1; simp_all; done) | (have k2 := (bt_iff (l := l) hST.2.2.2.2.2.2.1 ee ev).mpr k1.1; rw [if_pos k2] at *; omega)
        · refine sx_aload_n d_S_tryOne_102 rfl ?_
          refine sx_iload_n d_S_tryOne_103 rfl ?_
          refine sx_iload_n d_S_tryOne_104 rfl ?_
          refine sx_iload_n d_S_tryOne_105 rfl ?_
          refine sx_callV (c_S_keeps M1 (lo_IDy hlo hI) hR1 l d hl6 hd s ⟨hs.1, by omega⟩ (lo_IW hlo hl6 (hWk l hl).1) (by rw [lo_wk hlo hl6]; exact (hWk l hl).2.2.2.1) (fun o ho => lo_IW hlo (by omega) (hWk o (by omega)).1) (fun o ho => by rw [(h8 o ho).1]; have := hSV o ho; omega)) d_S_tryOne_106 cd_S_keepsRules lk_S_117 im_S_keepsRules se_S_keepsRules (go rfl rfl rfl) rfl rfl (by decide) (st := []) rfl rfl (Nat.le_of_ble_eq_true rfl) ⟨by (show _ + 1 ≤ k; omega), Nat.le_refl _, Nat.le_refl _⟩ (fun _ _ hq => ?_)
          obtain ⟨z, rfl, hz, rfl, hzi⟩ := hq
          rw [cR_iff hST.1 (fun i hi => ⟨(h8 i hi).1, (h8 i hi).2.1⟩) hl6 hWN s] at hzi
          show sx_V _ _ _ _ (0, 0) _ _ [.inl z] (gm M1) _
          refine sx_if_ne (tgt := 113) d_S_tryOne_109 (by decide) (by first | omega | (split <;> omega)) (fun c109_146 => ?_) (fun c109_146 => ?_)
          · refine sx_aload_n d_S_tryOne_113 rfl ?_
            refine sx_getR (r := some (26)) d_S_tryOne_114 fl_S_12 (go rfl rfl rfl) (by decide) (by decide) (by decide) rfl ?_
            refine sx_iload_n d_S_tryOne_117 rfl ?_
            refine sx_iload_n d_S_tryOne_118 rfl ?_
            refine sx_iload_n d_S_tryOne_119 rfl ?_
            refine sx_callV (c_P_put M1 26 27 28 (fun _ => go rfl rfl rfl) (fun _ => go rfl rfl rfl) (fun _ => go rfl rfl rfl) (fun _ => rfl) (fun _ => rfl) l (by omega) s (d : Int)) d_S_tryOne_120 cd_P_put lk_S_120 im_P_put se_P_put (go rfl rfl rfl) rfl rfl (by decide) (st := []) rfl rfl (Nat.le_of_ble_eq_true rfl) ⟨by (show _ + 1 ≤ k; omega), Nat.le_refl _, Nat.le_refl _⟩ (fun _ _ hq => ?_)
            obtain ⟨rfl, rfl⟩ := hq
            show sx_V _ _ _ _ (0, 0) _ _ [] (gm (sx_u (sx_u M1 27 l s) 28 l (d : Int))) _
            refine sx_aload_n d_S_tryOne_123 rfl ?_
            refine sx_getR (r := some (33)) d_S_tryOne_124 fl_S_27 (go rfl rfl rfl) (by decide) (by decide) (by decide) rfl ?_
            refine sx_iload_n d_S_tryOne_127 rfl ?_
            refine sx_iload d_S_tryOne_128 rfl ?_
            refine sx_iast (h2 := gm (sx_u (sx_u (sx_u M1 27 l s) 28 l (d : Int)) 33 l (if (eT M l s) < (gE M S l) then (gE M S l) else (eT M l s)))) d_S_tryOne_130 (go rfl rfl rfl) (by omega) (by omega) (by decide) rfl ?_
            refine sx_aload_n d_S_tryOne_131 rfl ?_
            refine sx_getR (r := some (34)) d_S_tryOne_132 fl_S_31 (go rfl rfl rfl) (by decide) (by decide) (by decide) rfl ?_
            refine sx_iload_n d_S_tryOne_135 rfl ?_
            refine sx_iload d_S_tryOne_136 rfl ?_
            refine sx_iast (h2 := gm (sx_u (sx_u (sx_u (sx_u M1 27 l s) 28 l (d : Int)) 33 l (if (eT M l s) < (gE M S l) then (gE M S l) else (eT M l s))) 34 l ((gV M ag S D l) + 1))) d_S_tryOne_138 (go rfl rfl rfl) (by omega) (by omega) (by decide) rfl ?_
            have kb : bt M ag nw l (va_up S l s) (va_up D l (d : Int)) b := (bt_iff (l := l) hST.2.2.2.2.2.2.1 ee ev).mp (by first | (split at * <;> first | assumption | omega))
            have kG : GG M ag nw nb l (va_up S l s) (va_up D l (d : Int)) b = true := tf_t ⟨kb, hzi.mp (by omega)⟩
            rw [kG]
            have hs2 := hST.put (s := s) (d := (d : Int)) (e := (if (eT M l s) < (gE M S l) then (gE M S l) else (eT M l s))) (v := ((gV M ag S D l) + 1)) (by omega) (by omega) er vr ee ev
            refine (hdeep _ _ _ hs2).mono ?_
            rintro v2 h2 ⟨rfl, M3, rfl, k1, k2⟩
            refine ⟨rfl, M3, rfl, k1.sub (fun i hi => up_lt hi) (fun i hi => up_lt hi), (((((wfr.rf (l + 1) M1).u _ (by decide)).u _ (by decide)).u _ (by decide)).u _ (by decide)).tr k2⟩
          · refine sx_retV d_S_tryOne_112 rfl ⟨Nat.zero_le _, Nat.zero_le _⟩ ?_
            refine ⟨rfl, M1, rfl, ?_, wfr.rf _ _⟩
            rw [if_neg ?_]
            · exact hST
            · intro k0
              have k1 := tf_of k0
              first | exact absurd (hzi.mpr k1.2) (by omega) | (have k2 := (bt_iff (l := l) hST.2.2.2.2.2.2.1 ee ev).mpr k1.1; simp_all; done) | (have k2 := (bt_iff (l := l) hST.2.2.2.2.2.2.1 ee ev).mpr k1.1; rw [if_pos k2] at *; omega)
