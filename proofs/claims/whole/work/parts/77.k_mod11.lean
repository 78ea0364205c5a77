theorem need_iff {M : Nat → Nat → Int} {w : Nat} (hW : IW M w) (k : Int) : M (14 + w) 5 ≤ k ↔ M (14 + w) 3 - M (14 + w) 2 ≤ k * M (14 + w) 4 := by
  obtain ⟨a1, a2, a3, a4, a5, a6⟩ := hW
  have h1 : ∀ z : Int, z ≤ (M (14 + w) 3 - M (14 + w) 2 + M (14 + w) 4 - 1) / M (14 + w) 4 ↔ z * M (14 + w) 4 ≤ M (14 + w) 3 - M (14 + w) 2 + M (14 + w) 4 - 1 := fun z => Int.le_ediv_iff_mul_le (by omega)
  have h2 := h1 (k + 1)
  rw [← a6, Int.add_mul, Int.one_mul] at h2
  omega
theorem end_iff {M : Nat → Nat → Int} {w : Nat} (hW : IW M w) (s : Int) (day : Int) : eT M w s ≤ day ↔ M (14 + w) 5 ≤ Bd M day - Bd M s := by
  have el := eT_last hW s
  have i := Bd_lt_iff (M := M) (k := day) el.1 el.2.1
  rw [el.2.2] at i
  omega
/-- how far it is gone -/
theorem aP_of {M : Nat → Nat → Int} {w : Nat} (hW : IW M w) {s d day x e : Int} (hs : 0 ≤ s ∧ s ≤ 99) (hsw : dr M s.toNat = false) (h0 : 0 ≤ day) (h1 : s ≤ e) (h2 : e ≤ s ∨ e ≤ day) (hx : x = (Bd M e - Bd M s) * M (14 + w) 4) (hq : day ≤ e ∨ M (14 + w) 3 - M (14 + w) 2 ≤ x) : aP M w s d day = if d = 0 then M (14 + w) 2 + (if M (14 + w) 3 - M (14 + w) 2 < x then M (14 + w) 3 - M (14 + w) 2 else x) else M (14 + w) 3 - (if M (14 + w) 3 - M (14 + w) 2 < x then M (14 + w) 3 - M (14 + w) 2 else x) := by
  have key : (if eT M w s ≤ day then M (14 + w) 3 - M (14 + w) 2 else if s < day then (Bd M day - Bd M s) * M (14 + w) 4 else 0) = (if M (14 + w) 3 - M (14 + w) 2 < x then M (14 + w) 3 - M (14 + w) 2 else x) := by
    have ei := end_iff hW s day
    have ni := need_iff hW (Bd M e - Bd M s)
    rw [← hx] at ni
    have er := eT_gt hW (s := s) (by omega)
    have hpos : M (14 + w) 2 < M (14 + w) 3 := hW.2.1
    by_cases q : day ≤ e
    · by_cases q2 : s < day
      · have e1 : e = day := by omega
        subst e1
        by_cases q3 : eT M w s ≤ e
        · rw [if_pos q3]
          split <;> omega
        · rw [if_neg q3, if_pos q2, ← hx, if_neg (by omega)]
      · have e1 : e = s := by omega
        subst e1
        have x0 : x = 0 := by rw [hx]; simp
        rw [if_neg (by omega), if_neg q2, if_neg (by omega), x0]
    · have hm : Bd M e ≤ Bd M day := by
        have := dy_mono (r := dr M) (show e.toNat ≤ day.toNat by omega)
        unfold Bd
        omega
      rw [if_pos (by omega)]
      split <;> omega
  unfold aP
  rw [key]
set_option maxRecDepth 100000 in
set_option maxHeartbeats 4000000 in
theorem m_at_bad {L : Nat} {xs : Nat → Int32} (M : Nat → Nat → Int) (nc nw nb : Nat) (hM : MR M nc nw nb) (M1 : Nat → Nat → Int) (M1s : sf M M1) (M1R : IR M1) (w x : Int) (hw : sx_r w) (hx : sx_r x) (hbd : ¬ (M 1 7 ≠ 0 ∧ 0 ≤ w ∧ w < nw ∧ 0 ≤ x)) : sx_R y_M_at (1, 0, 0) L xs [sx_p 51, .inl w, .inl x] (gm M1) (fun v h2 => v = some (.inl (-1)) ∧ h2 = gm M1) := by
  have w6 := hM.w6
  have c4 := hM.c4
  have b8 := hM.b8
  have r33 : 0 ≤ M 3 3 ∧ M 3 3 ≤ 200 := by (have := hM.dy.2.2.2; have := dy_le (dr M) 200; omega)
  refine sx_enter rfl (Nat.le_of_ble_eq_true rfl) rfl ?_
  show sx_V y_M_at (1, 0, 0) L xs (0, 0) 0 [some (sx_p 51), some (.inl w), some (.inl x), none, none, none] [] (gm M1) _
  refine sx_aload_n d_M_at_0 rfl ?_
  refine sx_getI (z := (M 1 7)) d_M_at_1 fl_M_99 (go rfl rfl rfl) (by decide) (by decide) (by decide) ((M1s 51 19 (by decide) (by decide) (by omega)).trans hM.mha) ?_
  refine sx_if_eq (tgt := 19) d_M_at_4 (by decide) (by first | omega | exact hM.ir _ _) (fun c4_11 => ?_) (fun c4_11 => ?_)
  · refine sx_iconst d_M_at_19 ?_
    refine sx_retI d_M_at_20 (Or.inl rfl) ⟨Nat.zero_le _, Nat.zero_le _⟩ ?_
    exact ⟨rfl, rfl⟩
  · refine sx_aload_n d_M_at_7 rfl ?_
    refine sx_iload_n d_M_at_8 rfl ?_
    refine sx_callV (c_M_isWork M nc nw nb hM M1 M1s w (by omega)) d_M_at_9 cd_M_isWork lk_M_113 im_M_isWork se_M_isWork (go rfl rfl rfl) rfl rfl (by decide) (st := []) rfl rfl (Nat.le_of_ble_eq_true rfl) ⟨by decide, Nat.le_refl _, Nat.le_refl _⟩ (fun _ _ hq => ?_)
    obtain ⟨z154, rfl, z154b, z154i, rfl⟩ := hq
    show sx_V _ _ _ _ (0, 0) _ _ [.inl z154] (gm M1) _
    refine sx_if_eq (tgt := 19) d_M_at_12 (by decide) (by first | omega | exact hM.ir _ _) (fun c12_20 => ?_) (fun c12_20 => ?_)
    · refine sx_iconst d_M_at_19 ?_
      refine sx_retI d_M_at_20 (Or.inl rfl) ⟨Nat.zero_le _, Nat.zero_le _⟩ ?_
      exact ⟨rfl, rfl⟩
    · refine sx_iload_n d_M_at_15 rfl ?_
      refine sx_if_ge (tgt := 21) d_M_at_16 (by decide) (by first | omega | exact hM.ir _ _) (fun c16_25 => ?_) (fun c16_25 => ?_)
      · omega
      · refine sx_iconst d_M_at_19 ?_
        refine sx_retI d_M_at_20 (Or.inl rfl) ⟨Nat.zero_le _, Nat.zero_le _⟩ ?_
        exact ⟨rfl, rfl⟩
set_option maxRecDepth 100000 in
set_option maxHeartbeats 4000000 in
theorem l_M_at {L : Nat} {xs : Nat → Int32} (M : Nat → Nat → Int) (nc nw nb : Nat) (hM : MR M nc nw nb) (M1 : Nat → Nat → Int) (M1s : sf M M1) (M1R : IR M1) (h7 : M 1 7 ≠ 0) (w : Nat) (hw : w < nw) (day : Int) (hday : sx_r day) (h0 : 0 ≤ day) : ∀ (n : Nat) (e x : Int), (day - e).toNat < n → M 23 w ≤ e → (e ≤ M 23 w ∨ e ≤ day) → 0 ≤ x → x ≤ 400 → x = (Bd M e - Bd M (M 23 w)) * M (14 + w) 4 → sx_V y_M_at (1, 0, 0) L xs (0, 0) 46 [some (sx_p 51), some (.inl (w : Int)), some (.inl day), some (.inl ((M (14 + w) 3) - (M (14 + w) 2))), some (.inl x), some (.inl e)] [] (gm M1) (fun v h2 => v = some (.inl (aP M w (M 23 w) (M 24 w) day)) ∧ h2 = gm M1) := by
  have w6 := hM.w6
  have c4 := hM.c4
  have b8 := hM.b8
  have r33 : 0 ≤ M 3 3 ∧ M 3 3 ≤ 200 := by (have := hM.dy.2.2.2; have := dy_le (dr M) 200; omega)
  have hW := (hM.ws w hw).1
  obtain ⟨a1, a2, a3, a4, a5, a6⟩ := id hW
  have hpw := hM.pl h7 w hw
  have hsw := hM.plw h7 w hw
  have bge := dy_ge (dr_far M)
  intro n
  induction n with
  | zero => intro e x h1 h2; omega
  | succ n ih =>
    intro e x hn he1 he2 hx0 hx1 hx
    have her : 0 < x ∨ e ≤ 400 := by (by_cases q : x = 0; (right; have z0 : Bd M e - Bd M (M 23 w) = 0 := (by rw [hx] at q; rcases Int.mul_eq_zero.mp q with z | z; exact z; omega); have := Bd_r M e; have := Bd_r M (M 23 w); omega); (left; omega))
    refine sx_iload d_M_at_46 rfl ?_
    refine sx_iload_n d_M_at_48 rfl ?_
    refine sx_icmp_ge (tgt := 88) d_M_at_49 (by decide) (by first | omega | exact hM.ir _ _) (by first | omega | exact hM.ir _ _) (fun c49_20 => ?_) (fun c49_20 => ?_)
    · refine sx_iload d_M_at_88 rfl ?_
      refine sx_iload_n d_M_at_90 rfl ?_
      refine sx_icmp_le (tgt := 98) d_M_at_91 (by decide) (by first | omega | exact hM.ir _ _) (by first | omega | exact hM.ir _ _) (fun c91_23 => ?_) (fun c91_23 => ?_)
      · refine sx_iload d_M_at_98 rfl ?_
        refine sx_istore (l' := [some (sx_p 51), some (.inl (w : Int)), some (.inl day), some (.inl ((M (14 + w) 3) - (M (14 + w) 2))), some (.inl x), some (.inl e)]) d_M_at_100 (by decide) rfl rfl ?_
        refine sx_aload_n d_M_at_102 rfl ?_
        refine sx_getR (r := some (68)) d_M_at_103 fl_M_59 (go rfl rfl rfl) (by decide) (by decide) (by decide) rfl ?_
        refine sx_iload_n d_M_at_106 rfl ?_
        refine sx_iald (z := (M 24 w)) d_M_at_107 (go rfl rfl rfl) (by omega) (by omega) (by decide) ((M1s 68 w (by decide) (by decide) (by omega)).trans (hM.mst (by omega) w (by omega)).2) ?_
        refine sx_if_ne (tgt := 123) d_M_at_108 (by decide) (by first | omega | exact hM.ir _ _) (fun c108_30 => ?_) (fun c108_30 => ?_)
        · refine sx_aload_n d_M_at_123 rfl ?_
          refine sx_getR (r := some (55)) d_M_at_124 fl_M_19 (go rfl rfl rfl) (by decide) (by decide) (by decide) rfl ?_
          refine sx_iload_n d_M_at_127 rfl ?_
          refine sx_iald (z := (M (14 + w) 3)) d_M_at_128 (go rfl rfl rfl) (by omega) (by omega) (by decide) ((M1s 55 w (by decide) (by decide) (by omega)).trans (hM.mto w (by omega))) ?_
          refine sx_iload d_M_at_129 rfl ?_
          refine sx_isub d_M_at_131 ?_
          refine sx_retI d_M_at_132 (Or.inl rfl) ⟨Nat.zero_le _, Nat.zero_le _⟩ ?_
          refine ⟨?_, rfl⟩
          rw [aP_of hW hpw.1 hsw h0 he1 he2 hx (by omega)]
          (repeat first | rw [if_pos (by omega)] | rw [if_neg (by omega)])
        · refine sx_aload_n d_M_at_111 rfl ?_
          refine sx_getR (r := some (54)) d_M_at_112 fl_M_16 (go rfl rfl rfl) (by decide) (by decide) (by decide) rfl ?_
          refine sx_iload_n d_M_at_115 rfl ?_
          refine sx_iald (z := (M (14 + w) 2)) d_M_at_116 (go rfl rfl rfl) (by omega) (by omega) (by decide) ((M1s 54 w (by decide) (by decide) (by omega)).trans (hM.mfr w (by omega))) ?_
          refine sx_iload d_M_at_117 rfl ?_
          refine sx_iadd d_M_at_119 ?_
          refine sx_goto (tgt := 132) d_M_at_120 (by decide) ?_
          refine sx_retI d_M_at_132 (Or.inl rfl) ⟨Nat.zero_le _, Nat.zero_le _⟩ ?_
          refine ⟨?_, rfl⟩
          rw [aP_of hW hpw.1 hsw h0 he1 he2 hx (by omega)]
          (repeat first | rw [if_pos (by omega)] | rw [if_neg (by omega)])
      · refine sx_iload_n d_M_at_94 rfl ?_
        refine sx_goto (tgt := 100) d_M_at_95 (by decide) ?_
        refine sx_istore (l' := [some (sx_p 51), some (.inl (w : Int)), some (.inl day), some (.inl ((M (14 + w) 3) - (M (14 + w) 2))), some (.inl ((M (14 + w) 3) - (M (14 + w) 2))), some (.inl e)]) d_M_at_100 (by decide) rfl rfl ?_
        refine sx_aload_n d_M_at_102 rfl ?_
        refine sx_getR (r := some (68)) d_M_at_103 fl_M_59 (go rfl rfl rfl) (by decide) (by decide) (by decide) rfl ?_
        refine sx_iload_n d_M_at_106 rfl ?_
        refine sx_iald (z := (M 24 w)) d_M_at_107 (go rfl rfl rfl) (by omega) (by omega) (by decide) ((M1s 68 w (by decide) (by decide) (by omega)).trans (hM.mst (by omega) w (by omega)).2) ?_
        refine sx_if_ne (tgt := 123) d_M_at_108 (by decide) (by first | omega | exact hM.ir _ _) (fun c108_59 => ?_) (fun c108_59 => ?_)
        · refine sx_aload_n d_M_at_123 rfl ?_
          refine sx_getR (r := some (55)) d_M_at_124 fl_M_19 (go rfl rfl rfl) (by decide) (by decide) (by decide) rfl ?_
          refine sx_iload_n d_M_at_127 rfl ?_
          refine sx_iald (z := (M (14 + w) 3)) d_M_at_128 (go rfl rfl rfl) (by omega) (by omega) (by decide) ((M1s 55 w (by decide) (by decide) (by omega)).trans (hM.mto w (by omega))) ?_
          refine sx_iload d_M_at_129 rfl ?_
          refine sx_isub d_M_at_131 ?_
          refine sx_retI d_M_at_132 (Or.inl rfl) ⟨Nat.zero_le _, Nat.zero_le _⟩ ?_
          refine ⟨?_, rfl⟩
          rw [aP_of hW hpw.1 hsw h0 he1 he2 hx (by omega)]
          (repeat first | rw [if_pos (by omega)] | rw [if_neg (by omega)])
        · refine sx_aload_n d_M_at_111 rfl ?_
          refine sx_getR (r := some (54)) d_M_at_112 fl_M_16 (go rfl rfl rfl) (by decide) (by decide) (by decide) rfl ?_
          refine sx_iload_n d_M_at_115 rfl ?_
          refine sx_iald (z := (M (14 + w) 2)) d_M_at_116 (go rfl rfl rfl) (by omega) (by omega) (by decide) ((M1s 54 w (by decide) (by decide) (by omega)).trans (hM.mfr w (by omega))) ?_
          refine sx_iload d_M_at_117 rfl ?_
          refine sx_iadd d_M_at_119 ?_
          refine sx_goto (tgt := 132) d_M_at_120 (by decide) ?_
          refine sx_retI d_M_at_132 (Or.inl rfl) ⟨Nat.zero_le _, Nat.zero_le _⟩ ?_
          refine ⟨?_, rfl⟩
          rw [aP_of hW hpw.1 hsw h0 he1 he2 hx (by omega)]
          (repeat first | rw [if_pos (by omega)] | rw [if_neg (by omega)])
    · refine sx_iload d_M_at_52 rfl ?_
      refine sx_iload_n d_M_at_54 rfl ?_
      refine sx_icmp_ge (tgt := 88) d_M_at_55 (by decide) (by first | omega | exact hM.ir _ _) (by first | omega | exact hM.ir _ _) (fun c55_83 => ?_) (fun c55_83 => ?_)
      · refine sx_iload d_M_at_88 rfl ?_
        refine sx_iload_n d_M_at_90 rfl ?_
        refine sx_icmp_le (tgt := 98) d_M_at_91 (by decide) (by first | omega | exact hM.ir _ _) (by first | omega | exact hM.ir _ _) (fun c91_86 => ?_) (fun c91_86 => ?_)
        · refine sx_iload d_M_at_98 rfl ?_
          refine sx_istore (l' := [some (sx_p 51), some (.inl (w : Int)), some (.inl day), some (.inl ((M (14 + w) 3) - (M (14 + w) 2))), some (.inl x), some (.inl e)]) d_M_at_100 (by decide) rfl rfl ?_
          refine sx_aload_n d_M_at_102 rfl ?_
          refine sx_getR (r := some (68)) d_M_at_103 fl_M_59 (go rfl rfl rfl) (by decide) (by decide) (by decide) rfl ?_
          refine sx_iload_n d_M_at_106 rfl ?_
          refine sx_iald (z := (M 24 w)) d_M_at_107 (go rfl rfl rfl) (by omega) (by omega) (by decide) ((M1s 68 w (by decide) (by decide) (by omega)).trans (hM.mst (by omega) w (by omega)).2) ?_
          refine sx_if_ne (tgt := 123) d_M_at_108 (by decide) (by first | omega | exact hM.ir _ _) (fun c108_93 => ?_) (fun c108_93 => ?_)
          · refine sx_aload_n d_M_at_123 rfl ?_
            refine sx_getR (r := some (55)) d_M_at_124 fl_M_19 (go rfl rfl rfl) (by decide) (by decide) (by decide) rfl ?_
            refine sx_iload_n d_M_at_127 rfl ?_
            refine sx_iald (z := (M (14 + w) 3)) d_M_at_128 (go rfl rfl rfl) (by omega) (by omega) (by decide) ((M1s 55 w (by decide) (by decide) (by omega)).trans (hM.mto w (by omega))) ?_
            refine sx_iload d_M_at_129 rfl ?_
            refine sx_isub d_M_at_131 ?_
            refine sx_retI d_M_at_132 (Or.inl rfl) ⟨Nat.zero_le _, Nat.zero_le _⟩ ?_
            refine ⟨?_, rfl⟩
            rw [aP_of hW hpw.1 hsw h0 he1 he2 hx (by omega)]
            (repeat first | rw [if_pos (by omega)] | rw [if_neg (by omega)])
          · refine sx_aload_n d_M_at_111 rfl ?_
            refine sx_getR (r := some (54)) d_M_at_112 fl_M_16 (go rfl rfl rfl) (by decide) (by decide) (by decide) rfl ?_
            refine sx_iload_n d_M_at_115 rfl ?_
            refine sx_iald (z := (M (14 + w) 2)) d_M_at_116 (go rfl rfl rfl) (by omega) (by omega) (by decide) ((M1s 54 w (by decide) (by decide) (by omega)).trans (hM.mfr w (by omega))) ?_
            refine sx_iload d_M_at_117 rfl ?_
            refine sx_iadd d_M_at_119 ?_
            refine sx_goto (tgt := 132) d_M_at_120 (by decide) ?_
            refine sx_retI d_M_at_132 (Or.inl rfl) ⟨Nat.zero_le _, Nat.zero_le _⟩ ?_
            refine ⟨?_, rfl⟩
            rw [aP_of hW hpw.1 hsw h0 he1 he2 hx (by omega)]
            (repeat first | rw [if_pos (by omega)] | rw [if_neg (by omega)])
        · refine sx_iload_n d_M_at_94 rfl ?_
          refine sx_goto (tgt := 100) d_M_at_95 (by decide) ?_
          refine sx_istore (l' := [some (sx_p 51), some (.inl (w : Int)), some (.inl day), some (.inl ((M (14 + w) 3) - (M (14 + w) 2))), some (.inl ((M (14 + w) 3) - (M (14 + w) 2))), some (.inl e)]) d_M_at_100 (by decide) rfl rfl ?_
          refine sx_aload_n d_M_at_102 rfl ?_
          refine sx_getR (r := some (68)) d_M_at_103 fl_M_59 (go rfl rfl rfl) (by decide) (by decide) (by decide) rfl ?_
          refine sx_iload_n d_M_at_106 rfl ?_
          refine sx_iald (z := (M 24 w)) d_M_at_107 (go rfl rfl rfl) (by omega) (by omega) (by decide) ((M1s 68 w (by decide) (by decide) (by omega)).trans (hM.mst (by omega) w (by omega)).2) ?_
          refine sx_if_ne (tgt := 123) d_M_at_108 (by decide) (by first | omega | exact hM.ir _ _) (fun c108_122 => ?_) (fun c108_122 => ?_)
          · refine sx_aload_n d_M_at_123 rfl ?_
            refine sx_getR (r := some (55)) d_M_at_124 fl_M_19 (go rfl rfl rfl) (by decide) (by decide) (by decide) rfl ?_
            refine sx_iload_n d_M_at_127 rfl ?_
            refine sx_iald (z := (M (14 + w) 3)) d_M_at_128 (go rfl rfl rfl) (by omega) (by omega) (by decide) ((M1s 55 w (by decide) (by decide) (by omega)).trans (hM.mto w (by omega))) ?_
            refine sx_iload d_M_at_129 rfl ?_
            refine sx_isub d_M_at_131 ?_
            refine sx_retI d_M_at_132 (Or.inl rfl) ⟨Nat.zero_le _, Nat.zero_le _⟩ ?_
            refine ⟨?_, rfl⟩
            rw [aP_of hW hpw.1 hsw h0 he1 he2 hx (by omega)]
            (repeat first | rw [if_pos (by omega)] | rw [if_neg (by omega)])
          · refine sx_aload_n d_M_at_111 rfl ?_
            refine sx_getR (r := some (54)) d_M_at_112 fl_M_16 (go rfl rfl rfl) (by decide) (by decide) (by decide) rfl ?_
            refine sx_iload_n d_M_at_115 rfl ?_
            refine sx_iald (z := (M (14 + w) 2)) d_M_at_116 (go rfl rfl rfl) (by omega) (by omega) (by decide) ((M1s 54 w (by decide) (by decide) (by omega)).trans (hM.mfr w (by omega))) ?_
            refine sx_iload d_M_at_117 rfl ?_
            refine sx_iadd d_M_at_119 ?_
            refine sx_goto (tgt := 132) d_M_at_120 (by decide) ?_
            refine sx_retI d_M_at_132 (Or.inl rfl) ⟨Nat.zero_le _, Nat.zero_le _⟩ ?_
            refine ⟨?_, rfl⟩
            rw [aP_of hW hpw.1 hsw h0 he1 he2 hx (by omega)]
            (repeat first | rw [if_pos (by omega)] | rw [if_neg (by omega)])
      · refine sx_iload d_M_at_58 rfl ?_
        refine sx_aload_n d_M_at_60 rfl ?_
        refine sx_iload d_M_at_61 rfl ?_
        refine sx_callV (c_M_isRest M nc nw nb hM M1 M1s e (by omega)) d_M_at_63 cd_M_isRest lk_M_123 im_M_isRest se_M_isRest (go rfl rfl rfl) rfl rfl (by decide) (st := [.inl x]) rfl rfl (Nat.le_of_ble_eq_true rfl) ⟨by decide, Nat.le_refl _, Nat.le_refl _⟩ (fun _ _ hq => ?_)
        obtain ⟨zr, rfl, zrb, zri, rfl⟩ := hq
        show sx_V _ _ _ _ (0, 0) _ _ [.inl zr, .inl x] (gm M1) _
        refine sx_if_eq (tgt := 73) d_M_at_66 (by decide) (by first | omega | exact hM.ir _ _) (fun c66_150 => ?_) (fun c66_150 => ?_)
        · refine sx_aload_n d_M_at_73 rfl ?_
          refine sx_getR (r := some (56)) d_M_at_74 fl_M_22 (go rfl rfl rfl) (by decide) (by decide) (by decide) rfl ?_
          refine sx_iload_n d_M_at_77 rfl ?_
          refine sx_iald (z := (M (14 + w) 4)) d_M_at_78 (go rfl rfl rfl) (by omega) (by omega) (by decide) ((M1s 56 w (by decide) (by decide) (by omega)).trans (hM.msp w (by omega))) ?_
          refine sx_iadd d_M_at_79 ?_
          refine sx_istore (l' := [some (sx_p 51), some (.inl (w : Int)), some (.inl day), some (.inl ((M (14 + w) 3) - (M (14 + w) 2))), some (.inl (x + (M (14 + w) 4))), some (.inl e)]) d_M_at_80 (by decide) rfl rfl ?_
          refine sx_iinc (l' := [some (sx_p 51), some (.inl (w : Int)), some (.inl day), some (.inl ((M (14 + w) 3) - (M (14 + w) 2))), some (.inl (x + (M (14 + w) 4))), some (.inl (e + 1))]) d_M_at_82 rfl (by decide) rfl rfl ?_
          refine sx_goto (tgt := 46) d_M_at_85 (by decide) ?_
          have b1 := Bd_s M (d := e) (by omega)
          refine ih (e + 1) (x + (M (14 + w) 4)) (by omega) (by omega) (by omega) (by omega) (by omega) ?_
          first
          | (rw [if_pos (zri.mp (by omega)).2] at b1; rw [b1, Int.add_zero, Int.add_zero]; exact hx)
          | (rw [if_neg (fun k => by have := zri.mpr ⟨by omega, k⟩; omega)] at b1; rw [b1, hx, show Bd M e + 1 - Bd M (M 23 w) = (Bd M e - Bd M (M 23 w)) + 1 by omega, Int.add_mul, Int.one_mul])
        · refine sx_iconst d_M_at_69 ?_
          refine sx_goto (tgt := 79) d_M_at_70 (by decide) ?_
          refine sx_iadd d_M_at_79 ?_
          refine sx_istore (l' := [some (sx_p 51), some (.inl (w : Int)), some (.inl day), some (.inl ((M (14 + w) 3) - (M (14 + w) 2))), some (.inl (x + 0)), some (.inl e)]) d_M_at_80 (by decide) rfl rfl ?_
          refine sx_iinc (l' := [some (sx_p 51), some (.inl (w : Int)), some (.inl day), some (.inl ((M (14 + w) 3) - (M (14 + w) 2))), some (.inl (x + 0)), some (.inl (e + 1))]) d_M_at_82 rfl (by decide) rfl rfl ?_
          refine sx_goto (tgt := 46) d_M_at_85 (by decide) ?_
          have b1 := Bd_s M (d := e) (by omega)
          refine ih (e + 1) (x + 0) (by omega) (by omega) (by omega) (by omega) (by omega) ?_
          first
          | (rw [if_pos (zri.mp (by omega)).2] at b1; rw [b1, Int.add_zero, Int.add_zero]; exact hx)
          | (rw [if_neg (fun k => by have := zri.mpr ⟨by omega, k⟩; omega)] at b1; rw [b1, hx, show Bd M e + 1 - Bd M (M 23 w) = (Bd M e - Bd M (M 23 w)) + 1 by omega, Int.add_mul, Int.one_mul])
set_option maxRecDepth 100000 in
set_option maxHeartbeats 4000000 in
theorem m_at_ok {L : Nat} {xs : Nat → Int32} (M : Nat → Nat → Int) (nc nw nb : Nat) (hM : MR M nc nw nb) (M1 : Nat → Nat → Int) (M1s : sf M M1) (M1R : IR M1) (h7 : M 1 7 ≠ 0) (w : Nat) (hw : w < nw) (day : Int) (hday : sx_r day) (h0 : 0 ≤ day) : sx_R y_M_at (1, 0, 0) L xs [sx_p 51, .inl (w : Int), .inl day] (gm M1) (fun v h2 => v = some (.inl (aP M w (M 23 w) (M 24 w) day)) ∧ h2 = gm M1) := by
  have w6 := hM.w6
  have c4 := hM.c4
  have b8 := hM.b8
  have r33 : 0 ≤ M 3 3 ∧ M 3 3 ≤ 200 := by (have := hM.dy.2.2.2; have := dy_le (dr M) 200; omega)
  refine sx_enter rfl (Nat.le_of_ble_eq_true rfl) rfl ?_
  show sx_V y_M_at (1, 0, 0) L xs (0, 0) 0 [some (sx_p 51), some (.inl (w : Int)), some (.inl day), none, none, none] [] (gm M1) _
  refine sx_aload_n d_M_at_0 rfl ?_
  refine sx_getI (z := (M 1 7)) d_M_at_1 fl_M_99 (go rfl rfl rfl) (by decide) (by decide) (by decide) ((M1s 51 19 (by decide) (by decide) (by omega)).trans hM.mha) ?_
  refine sx_if_eq (tgt := 19) d_M_at_4 (by decide) (by first | omega | exact hM.ir _ _) (fun c4_11 => ?_) (fun c4_11 => ?_)
  · omega
  · refine sx_aload_n d_M_at_7 rfl ?_
    refine sx_iload_n d_M_at_8 rfl ?_
    refine sx_callV (c_M_isWork M nc nw nb hM M1 M1s (w : Int) (by omega)) d_M_at_9 cd_M_isWork lk_M_113 im_M_isWork se_M_isWork (go rfl rfl rfl) rfl rfl (by decide) (st := []) rfl rfl (Nat.le_of_ble_eq_true rfl) ⟨by decide, Nat.le_refl _, Nat.le_refl _⟩ (fun _ _ hq => ?_)
    obtain ⟨z155, rfl, z155b, z155i, rfl⟩ := hq
    show sx_V _ _ _ _ (0, 0) _ _ [.inl z155] (gm M1) _
    refine sx_if_eq (tgt := 19) d_M_at_12 (by decide) (by first | omega | exact hM.ir _ _) (fun c12_18 => ?_) (fun c12_18 => ?_)
    · omega
    · refine sx_iload_n d_M_at_15 rfl ?_
      refine sx_if_ge (tgt := 21) d_M_at_16 (by decide) (by first | omega | exact hM.ir _ _) (fun c16_21 => ?_) (fun c16_21 => ?_)
      · refine sx_aload_n d_M_at_21 rfl ?_
        refine sx_getR (r := some (55)) d_M_at_22 fl_M_19 (go rfl rfl rfl) (by decide) (by decide) (by decide) rfl ?_
        refine sx_iload_n d_M_at_25 rfl ?_
        refine sx_iald (z := (M (14 + w) 3)) d_M_at_26 (go rfl rfl rfl) (by omega) (by omega) (by decide) ((M1s 55 w (by decide) (by decide) (by omega)).trans (hM.mto w (by omega))) ?_
        refine sx_aload_n d_M_at_27 rfl ?_
        refine sx_getR (r := some (54)) d_M_at_28 fl_M_16 (go rfl rfl rfl) (by decide) (by decide) (by decide) rfl ?_
        refine sx_iload_n d_M_at_31 rfl ?_
        refine sx_iald (z := (M (14 + w) 2)) d_M_at_32 (go rfl rfl rfl) (by omega) (by omega) (by decide) ((M1s 54 w (by decide) (by decide) (by omega)).trans (hM.mfr w (by omega))) ?_
        refine sx_isub d_M_at_33 ?_
        refine sx_istore_n (l' := [some (sx_p 51), some (.inl (w : Int)), some (.inl day), some (.inl ((M (14 + w) 3) - (M (14 + w) 2))), none, none]) d_M_at_34 (by decide) rfl rfl ?_
        refine sx_iconst d_M_at_35 ?_
        refine sx_istore (l' := [some (sx_p 51), some (.inl (w : Int)), some (.inl day), some (.inl ((M (14 + w) 3) - (M (14 + w) 2))), some (.inl 0), none]) d_M_at_36 (by decide) rfl rfl ?_
        refine sx_aload_n d_M_at_38 rfl ?_
        refine sx_getR (r := some (67)) d_M_at_39 fl_M_56 (go rfl rfl rfl) (by decide) (by decide) (by decide) rfl ?_
        refine sx_iload_n d_M_at_42 rfl ?_
        refine sx_iald (z := (M 23 w)) d_M_at_43 (go rfl rfl rfl) (by omega) (by omega) (by decide) ((M1s 67 w (by decide) (by decide) (by omega)).trans (hM.mst (by omega) w (by omega)).1) ?_
        refine sx_istore (l' := [some (sx_p 51), some (.inl (w : Int)), some (.inl day), some (.inl ((M (14 + w) 3) - (M (14 + w) 2))), some (.inl 0), some (.inl (M 23 w))]) d_M_at_44 (by decide) rfl rfl ?_
        exact l_M_at M nc nw nb hM M1 M1s M1R h7 w hw day hday h0 ((day - M 23 w).toNat + 1) (M 23 w) 0 (by omega) (Int.le_refl _) (Or.inl (Int.le_refl _)) (by omega) (by omega) (by simp)
      · omega
theorem aln_iff {M : Nat → Nat → Int} {nw nb w : Nat} (hws : WKs M nw nb) (hw : w < nw) (d : Int) : (∃ n, oL M w d nb n ∧ oG M w n) ↔ ∃ s : Nat, s < 100 ∧ dr M s = false ∧ mO M nb w (s : Int) d := by
  constructor
  · rintro ⟨n, h1, h2⟩
    have b0 := Bd_r M (M (14 + w) 7)
    have hn : 0 ≤ n := by have := h1.1; omega
    have hb := Bd_Dd M hn
    have hd := (Dd_r M n).1
    have hlt : Dd M n < 100 := (Bd_lt_iff hd hb.2).mp (by rw [hb.1]; have := h2.1; omega)
    refine ⟨(Dd M n).toNat, by omega, hb.2, ?_⟩
    rw [show (((Dd M n).toNat : Nat) : Int) = Dd M n by omega]
    refine (own_iff hws hw (by omega) hb.2).mp ?_
    rw [hb.1]
    exact ⟨h1, h2⟩
  · rintro ⟨s, h1, h2, h3⟩
    exact ⟨Bd M (s : Int), (own_iff hws hw (by omega) (by rw [Int.toNat_natCast]; exact h2)).mpr h3⟩
/-- no start before this one keeps a work's own rules -/
def nlo (M : Nat → Nat → Int) (nb w : Nat) (s : Nat) : Prop := ∀ t : Nat, t < s → dr M t = false → ¬ mO M nb w (t : Int) 0 ∧ (M (14 + w) 6 ≠ 0 → ¬ mO M nb w (t : Int) 1)
theorem nlo_all {M : Nat → Nat → Int} {nw nb w : Nat} (hws : WKs M nw nb) (hw : w < nw) : nlo M nb w 100 ↔ ¬ aln M nb w := by
  unfold aln
  rw [aln_iff hws hw 0, aln_iff hws hw 1]
  constructor
  · intro h
    rintro (⟨s, a, b, c⟩ | ⟨q, s, a, b, c⟩)
    · exact (h s a b).1 c
    · exact (h s a b).2 q c
  · intro h t a b
    exact ⟨fun c => h (Or.inl ⟨t, a, b, c⟩), fun q c => h (Or.inr ⟨q, t, a, b, c⟩)⟩
set_option maxRecDepth 100000 in
set_option maxHeartbeats 4000000 in
theorem l_M_il1 {L : Nat} {xs : Nat → Int32} (M : Nat → Nat → Int) (nc nw nb : Nat) (hM : MR M nc nw nb) (M1 : Nat → Nat → Int) (M1s : sf M M1) (M1R : IR M1) (w : Nat) (hw : w < nw) (s : Nat) (hs : s < 100) (hnl : nlo M nb w s) (hc : ∀ (M3 : Nat → Nat → Int) (x3 : Option sx_v), mq M1 M3 → sf M M3 → IR M3 → nlo M nb w (s + 1) → sx_V y_M_isLone (3, 0, 0) L xs (0, 0) 2 [some (sx_p 51), some (.inl (w : Int)), some (.inl ((s : Int) + 1)), x3] [] (gm M3) (fun v h2 => ∃ z, v = some (.inl z) ∧ (z = 0 ∨ z = 1) ∧ (z = 1 ↔ ¬ aln M nb w) ∧ ∃ M2, h2 = gm M2 ∧ mq M1 M2 ∧ sf M M2 ∧ IR M2)) : ∀ (n k : Nat) (M2 : Nat → Nat → Int), 2 - k < n → (k ≤ 2 ∧ (M (14 + w) 6 = 0 → k ≤ 1)) → mq M1 M2 → sf M M2 → IR M2 → (∀ j : Nat, j < k → ¬ mO M nb w (s : Int) (j : Int)) → sx_V y_M_isLone (3, 0, 0) L xs (0, 0) 10 [some (sx_p 51), some (.inl (w : Int)), some (.inl (s : Int)), some (.inl (k : Int))] [] (gm M2) (fun v h2 => ∃ z, v = some (.inl z) ∧ (z = 0 ∨ z = 1) ∧ (z = 1 ↔ ¬ aln M nb w) ∧ ∃ M2, h2 = gm M2 ∧ mq M1 M2 ∧ sf M M2 ∧ IR M2) := by
  have w6 := hM.w6
  have c4 := hM.c4
  have b8 := hM.b8
  have r33 : 0 ≤ M 3 3 ∧ M 3 3 ≤ 200 := by (have := hM.dy.2.2.2; have := dy_le (dr M) 200; omega)
  have bo := (hM.ws w hw).2.2.2.2
  intro n
  induction n with
  | zero => intro k M2 h1 h2; omega
  | succ n ih =>
    intro k M2 hn hk M2q M2s M2R hno
    refine sx_iload_n d_M_isLone_10 rfl ?_
    refine sx_aload_n d_M_isLone_11 rfl ?_
    refine sx_getR (r := some (57)) d_M_isLone_12 fl_M_25 (go rfl rfl rfl) (by decide) (by decide) (by decide) rfl ?_
    refine sx_iload_n d_M_isLone_15 rfl ?_
    refine sx_zald (z := (M (14 + w) 6)) d_M_isLone_16 (go rfl rfl rfl) (by omega) (by omega) (by decide) ((M2s 57 w (by decide) (by decide) (by omega)).trans (hM.mbo w (by omega))) ?_
    refine sx_if_eq (tgt := 24) d_M_isLone_17 (by decide) (by first | omega | exact hM.ir _ _) (fun c17_18 => ?_) (fun c17_18 => ?_)
    · refine sx_iconst d_M_isLone_24 ?_
      refine sx_icmp_ge (tgt := 63) d_M_isLone_25 (by decide) (by first | omega | exact hM.ir _ _) ⟨by decide, by decide⟩ (fun c25_20 => ?_) (fun c25_20 => ?_)
      · refine sx_iinc (l' := [some (sx_p 51), some (.inl (w : Int)), some (.inl ((s : Int) + 1)), some (.inl (k : Int))]) d_M_isLone_63 rfl (by decide) rfl rfl ?_
        refine sx_goto (tgt := 2) d_M_isLone_66 (by decide) ?_
        refine hc M2 _ M2q M2s M2R (fun t ht hd => ?_)
        by_cases q : t = s
        · subst q
          first
          | (exfalso; rw [(by first | exact (zri.mp (by omega)).2 | omega : dr M ((t : Int)).toNat = true)] at *; done)
          | (have h0 := hno 0 (by omega); refine ⟨h0, fun q2 => ?_⟩; exact hno 1 (by omega))
          | (have hz := (zri.mp (by omega)).2; rw [Int.toNat_natCast, hd] at hz; exact absurd hz (by decide))
        · exact hnl t (by omega) hd
      · refine sx_aload_n d_M_isLone_28 rfl ?_
        refine sx_iload_n d_M_isLone_29 rfl ?_
        refine sx_callV (c_M_isRest M nc nw nb hM M2 M2s (s : Int) (by omega)) d_M_isLone_30 cd_M_isRest lk_M_123 im_M_isRest se_M_isRest (go rfl rfl rfl) rfl rfl (by decide) (st := []) rfl rfl (Nat.le_of_ble_eq_true rfl) ⟨by decide, Nat.le_refl _, Nat.le_refl _⟩ (fun _ _ hq => ?_)
        obtain ⟨zr, rfl, zrb, zri, rfl⟩ := hq
        show sx_V _ _ _ _ (0, 0) _ _ [.inl zr] (gm M2) _
        refine sx_if_ne (tgt := 63) d_M_isLone_33 (by decide) (by first | omega | exact hM.ir _ _) (fun c33_36 => ?_) (fun c33_36 => ?_)
        · refine sx_iinc (l' := [some (sx_p 51), some (.inl (w : Int)), some (.inl ((s : Int) + 1)), some (.inl (k : Int))]) d_M_isLone_63 rfl (by decide) rfl rfl ?_
          refine sx_goto (tgt := 2) d_M_isLone_66 (by decide) ?_
          refine hc M2 _ M2q M2s M2R (fun t ht hd => ?_)
          by_cases q : t = s
          · subst q
            first
            | (exfalso; rw [(by first | exact (zri.mp (by omega)).2 | omega : dr M ((t : Int)).toNat = true)] at *; done)
            | (have h0 := hno 0 (by omega); refine ⟨h0, fun q2 => ?_⟩; exact hno 1 (by omega))
            | (have hz := (zri.mp (by omega)).2; rw [Int.toNat_natCast, hd] at hz; exact absurd hz (by decide))
          · exact hnl t (by omega) hd
        · have sdr : dr M s = false := by (cases q : dr M s; rfl; exact absurd (zri.mpr ⟨by omega, by rw [Int.toNat_natCast]; exact q⟩) (by omega))
          refine sx_aload_n d_M_isLone_36 rfl ?_
          refine sx_bipush d_M_isLone_37 (by decide) ?_
          refine sx_iload_n d_M_isLone_39 rfl ?_
          refine sx_iload_n d_M_isLone_40 rfl ?_
          refine sx_iload_n d_M_isLone_41 rfl ?_
          refine sx_callV (c_M_lay M nc nw nb hM M2 M2s M2R 6 (by decide) w hw (s : Int) (k : Int) (by omega) (by rw [Int.toNat_natCast]; exact sdr) (by omega)) d_M_isLone_42 cd_M_lay lk_M_159 im_M_lay se_M_lay (go rfl rfl rfl) rfl rfl (by decide) (st := []) rfl rfl (Nat.le_of_ble_eq_true rfl) ⟨by decide, Nat.le_refl _, Nat.le_refl _⟩ (fun _ _ hq => ?_)
          obtain ⟨rfl, M3, rfl, M3f, M3R, M3s, hL⟩ := hq
          show sx_V _ _ _ _ (0, 0) _ _ [] (gm M3) _
          refine sx_aload_n d_M_isLone_45 rfl ?_
          refine sx_bipush d_M_isLone_46 (by decide) ?_
          refine sx_iload_n d_M_isLone_48 rfl ?_
          refine sx_callV (c_M_own M nc nw nb hM M3 M3s M3R 6 (by decide) w hw (s : Int) (k : Int) (by omega) hL) d_M_isLone_49 cd_M_keepsOwn lk_M_134 im_M_keepsOwn se_M_keepsOwn (go rfl rfl rfl) rfl rfl (by decide) (st := []) rfl rfl (Nat.le_of_ble_eq_true rfl) ⟨by decide, Nat.le_refl _, Nat.le_refl _⟩ (fun _ _ hq => ?_)
          obtain ⟨zo, rfl, zob, zoi, rfl⟩ := hq
          show sx_V _ _ _ _ (0, 0) _ _ [.inl zo] (gm M3) _
          refine sx_if_eq (tgt := 57) d_M_isLone_52 (by decide) (by first | omega | exact hM.ir _ _) (fun c52_62 => ?_) (fun c52_62 => ?_)
          · refine sx_iinc (l' := [some (sx_p 51), some (.inl (w : Int)), some (.inl (s : Int)), some (.inl ((k : Int) + 1))]) d_M_isLone_57 rfl (by decide) rfl rfl ?_
            refine sx_goto (tgt := 10) d_M_isLone_60 (by decide) ?_
            have e1 : ((k : Int) + 1) = ((k + 1 : Nat) : Int) := by omega
            rw [e1]
            refine ih (k + 1) M3 (by omega) (by omega) (lyf.mq M2q M3f) M3s M3R (fun j hj => ?_)
            by_cases q : j = k
            · subst q; exact fun z => by have := zoi.mpr z; omega
            · exact hno j (by omega)
          · refine sx_iconst d_M_isLone_55 ?_
            refine sx_retI d_M_isLone_56 (Or.inr ⟨rfl, by first | exact Or.inl rfl | exact Or.inr rfl | omega⟩) ⟨Nat.zero_le _, Nat.zero_le _⟩ ?_
            refine ⟨_, rfl, Or.inl rfl, ⟨fun z => absurd z (by decide), fun z => ?_⟩, M3, rfl, lyf.mq M2q M3f, M3s, M3R⟩
            exfalso
            have z2 := ((nlo_all hM.ws hw).mpr z) s hs sdr
            have z3 := zoi.mp (by omega)
            rcases (show k = 0 ∨ k = 1 by omega) with q | q
            · subst q; exact z2.1 z3
            · subst q; exact z2.2 (by omega) z3
    · refine sx_iconst d_M_isLone_20 ?_
      refine sx_goto (tgt := 25) d_M_isLone_21 (by decide) ?_
      refine sx_icmp_ge (tgt := 63) d_M_isLone_25 (by decide) (by first | omega | exact hM.ir _ _) ⟨by decide, by decide⟩ (fun c25_82 => ?_) (fun c25_82 => ?_)
      · refine sx_iinc (l' := [some (sx_p 51), some (.inl (w : Int)), some (.inl ((s : Int) + 1)), some (.inl (k : Int))]) d_M_isLone_63 rfl (by decide) rfl rfl ?_
        refine sx_goto (tgt := 2) d_M_isLone_66 (by decide) ?_
        refine hc M2 _ M2q M2s M2R (fun t ht hd => ?_)
        by_cases q : t = s
        · subst q
          first
          | (exfalso; rw [(by first | exact (zri.mp (by omega)).2 | omega : dr M ((t : Int)).toNat = true)] at *; done)
          | (have h0 := hno 0 (by omega); refine ⟨h0, fun q2 => ?_⟩; exact hno 1 (by omega))
          | (have hz := (zri.mp (by omega)).2; rw [Int.toNat_natCast, hd] at hz; exact absurd hz (by decide))
        · exact hnl t (by omega) hd
      · refine sx_aload_n d_M_isLone_28 rfl ?_
        refine sx_iload_n d_M_isLone_29 rfl ?_
        refine sx_callV (c_M_isRest M nc nw nb hM M2 M2s (s : Int) (by omega)) d_M_isLone_30 cd_M_isRest lk_M_123 im_M_isRest se_M_isRest (go rfl rfl rfl) rfl rfl (by decide) (st := []) rfl rfl (Nat.le_of_ble_eq_true rfl) ⟨by decide, Nat.le_refl _, Nat.le_refl _⟩ (fun _ _ hq => ?_)
        obtain ⟨zr, rfl, zrb, zri, rfl⟩ := hq
        show sx_V _ _ _ _ (0, 0) _ _ [.inl zr] (gm M2) _
        refine sx_if_ne (tgt := 63) d_M_isLone_33 (by decide) (by first | omega | exact hM.ir _ _) (fun c33_98 => ?_) (fun c33_98 => ?_)
        · refine sx_iinc (l' := [some (sx_p 51), some (.inl (w : Int)), some (.inl ((s : Int) + 1)), some (.inl (k : Int))]) d_M_isLone_63 rfl (by decide) rfl rfl ?_
          refine sx_goto (tgt := 2) d_M_isLone_66 (by decide) ?_
          refine hc M2 _ M2q M2s M2R (fun t ht hd => ?_)
          by_cases q : t = s
          · subst q
            first
            | (exfalso; rw [(by first | exact (zri.mp (by omega)).2 | omega : dr M ((t : Int)).toNat = true)] at *; done)
            | (have h0 := hno 0 (by omega); refine ⟨h0, fun q2 => ?_⟩; exact hno 1 (by omega))
            | (have hz := (zri.mp (by omega)).2; rw [Int.toNat_natCast, hd] at hz; exact absurd hz (by decide))
          · exact hnl t (by omega) hd
        · have sdr : dr M s = false := by (cases q : dr M s; rfl; exact absurd (zri.mpr ⟨by omega, by rw [Int.toNat_natCast]; exact q⟩) (by omega))
          refine sx_aload_n d_M_isLone_36 rfl ?_
          refine sx_bipush d_M_isLone_37 (by decide) ?_
          refine sx_iload_n d_M_isLone_39 rfl ?_
          refine sx_iload_n d_M_isLone_40 rfl ?_
          refine sx_iload_n d_M_isLone_41 rfl ?_
          refine sx_callV (c_M_lay M nc nw nb hM M2 M2s M2R 6 (by decide) w hw (s : Int) (k : Int) (by omega) (by rw [Int.toNat_natCast]; exact sdr) (by omega)) d_M_isLone_42 cd_M_lay lk_M_159 im_M_lay se_M_lay (go rfl rfl rfl) rfl rfl (by decide) (st := []) rfl rfl (Nat.le_of_ble_eq_true rfl) ⟨by decide, Nat.le_refl _, Nat.le_refl _⟩ (fun _ _ hq => ?_)
          obtain ⟨rfl, M3, rfl, M3f, M3R, M3s, hL⟩ := hq
          show sx_V _ _ _ _ (0, 0) _ _ [] (gm M3) _
          refine sx_aload_n d_M_isLone_45 rfl ?_
          refine sx_bipush d_M_isLone_46 (by decide) ?_
          refine sx_iload_n d_M_isLone_48 rfl ?_
          refine sx_callV (c_M_own M nc nw nb hM M3 M3s M3R 6 (by decide) w hw (s : Int) (k : Int) (by omega) hL) d_M_isLone_49 cd_M_keepsOwn lk_M_134 im_M_keepsOwn se_M_keepsOwn (go rfl rfl rfl) rfl rfl (by decide) (st := []) rfl rfl (Nat.le_of_ble_eq_true rfl) ⟨by decide, Nat.le_refl _, Nat.le_refl _⟩ (fun _ _ hq => ?_)
          obtain ⟨zo, rfl, zob, zoi, rfl⟩ := hq
          show sx_V _ _ _ _ (0, 0) _ _ [.inl zo] (gm M3) _
          refine sx_if_eq (tgt := 57) d_M_isLone_52 (by decide) (by first | omega | exact hM.ir _ _) (fun c52_124 => ?_) (fun c52_124 => ?_)
          · refine sx_iinc (l' := [some (sx_p 51), some (.inl (w : Int)), some (.inl (s : Int)), some (.inl ((k : Int) + 1))]) d_M_isLone_57 rfl (by decide) rfl rfl ?_
            refine sx_goto (tgt := 10) d_M_isLone_60 (by decide) ?_
            have e1 : ((k : Int) + 1) = ((k + 1 : Nat) : Int) := by omega
            rw [e1]
            refine ih (k + 1) M3 (by omega) (by omega) (lyf.mq M2q M3f) M3s M3R (fun j hj => ?_)
            by_cases q : j = k
            · subst q; exact fun z => by have := zoi.mpr z; omega
            · exact hno j (by omega)
          · refine sx_iconst d_M_isLone_55 ?_
            refine sx_retI d_M_isLone_56 (Or.inr ⟨rfl, by first | exact Or.inl rfl | exact Or.inr rfl | omega⟩) ⟨Nat.zero_le _, Nat.zero_le _⟩ ?_
            refine ⟨_, rfl, Or.inl rfl, ⟨fun z => absurd z (by decide), fun z => ?_⟩, M3, rfl, lyf.mq M2q M3f, M3s, M3R⟩
            exfalso
            have z2 := ((nlo_all hM.ws hw).mpr z) s hs sdr
            have z3 := zoi.mp (by omega)
            rcases (show k = 0 ∨ k = 1 by omega) with q | q
            · subst q; exact z2.1 z3
            · subst q; exact z2.2 (by omega) z3
set_option maxRecDepth 100000 in
set_option maxHeartbeats 4000000 in
theorem l_M_il {L : Nat} {xs : Nat → Int32} (M : Nat → Nat → Int) (nc nw nb : Nat) (hM : MR M nc nw nb) (M1 : Nat → Nat → Int) (M1s : sf M M1) (M1R : IR M1) (w : Nat) (hw : w < nw) : ∀ (n s : Nat) (x3 : Option sx_v) (M2 : Nat → Nat → Int), 100 - s < n → s ≤ 100 → mq M1 M2 → sf M M2 → IR M2 → nlo M nb w s → sx_V y_M_isLone (3, 0, 0) L xs (0, 0) 2 [some (sx_p 51), some (.inl (w : Int)), some (.inl (s : Int)), x3] [] (gm M2) (fun v h2 => ∃ z, v = some (.inl z) ∧ (z = 0 ∨ z = 1) ∧ (z = 1 ↔ ¬ aln M nb w) ∧ ∃ M2, h2 = gm M2 ∧ mq M1 M2 ∧ sf M M2 ∧ IR M2) := by
  intro n
  induction n with
  | zero => intro s x3 M2 h1 h2; omega
  | succ n ih =>
    intro s x3 M2 hn hs M2q M2s M2R hnl
    refine sx_iload_n d_M_isLone_2 rfl ?_
    refine sx_bipush d_M_isLone_3 (by decide) ?_
    refine sx_icmp_ge (tgt := 69) d_M_isLone_5 (by decide) (by first | omega | exact hM.ir _ _) ⟨by decide, by decide⟩ (fun c5_10 => ?_) (fun c5_10 => ?_)
    · refine sx_iconst d_M_isLone_69 ?_
      refine sx_retI d_M_isLone_70 (Or.inr ⟨rfl, by first | exact Or.inl rfl | exact Or.inr rfl | omega⟩) ⟨Nat.zero_le _, Nat.zero_le _⟩ ?_
      have e0 : s = 100 := by omega
      subst e0
      exact ⟨_, rfl, Or.inr rfl, ⟨fun _ => (nlo_all hM.ws hw).mp hnl, fun _ => rfl⟩, M2, rfl, M2q, M2s, M2R⟩
    · refine sx_iconst d_M_isLone_8 ?_
      refine sx_istore_n (l' := [some (sx_p 51), some (.inl (w : Int)), some (.inl (s : Int)), some (.inl 0)]) d_M_isLone_9 (by decide) rfl rfl ?_
      have e1 : ((s : Int) + 1) = ((s + 1 : Nat) : Int) := by omega
      refine l_M_il1 M nc nw nb hM M1 M1s M1R w hw s (by omega) hnl (fun M3 x3 q1 q2 q3 q4 => by rw [e1]; exact ih (s + 1) x3 M3 (by omega) (by omega) q1 q2 q3 q4) 3 0 M2 (by omega) (by omega) M2q M2s M2R (fun j hj => absurd hj (Nat.not_lt_zero _))
set_option maxRecDepth 100000 in
set_option maxHeartbeats 4000000 in
theorem c_M_il {L : Nat} {xs : Nat → Int32} (M : Nat → Nat → Int) (nc nw nb : Nat) (hM : MR M nc nw nb) (M1 : Nat → Nat → Int) (M1s : sf M M1) (M1R : IR M1) (M2 : Nat → Nat → Int) (M2q : mq M1 M2) (M2s : sf M M2) (M2R : IR M2) (w : Nat) (hw : w < nw) : sx_R y_M_isLone (3, 0, 0) L xs [sx_p 51, .inl (w : Int)] (gm M2) (fun v h2 => ∃ z, v = some (.inl z) ∧ (z = 0 ∨ z = 1) ∧ (z = 1 ↔ ¬ aln M nb w) ∧ ∃ M2, h2 = gm M2 ∧ mq M1 M2 ∧ sf M M2 ∧ IR M2) := by
  refine sx_enter rfl (Nat.le_of_ble_eq_true rfl) rfl ?_
  show sx_V y_M_isLone (3, 0, 0) L xs (0, 0) 0 [some (sx_p 51), some (.inl (w : Int)), none, none] [] (gm M2) _
  refine sx_iconst d_M_isLone_0 ?_
  refine sx_istore_n (l' := [some (sx_p 51), some (.inl (w : Int)), some (.inl 0), none]) d_M_isLone_1 (by decide) rfl rfl ?_
  exact l_M_il M nc nw nb hM M1 M1s M1R w hw 101 0 none M2 (by omega) (by omega) M2q M2s M2R (fun t ht => absurd ht (Nat.not_lt_zero _))
theorem sm_mono {f : Nat → Int} (h : ∀ i, 0 ≤ f i) {a : Nat} : ∀ {b : Nat}, a ≤ b → sm f a ≤ sm f b := by
  intro b
  induction b with
  | zero => intro q; rw [show a = 0 by omega]; exact Int.le_refl _
  | succ b ih =>
    intro q
    by_cases e : a = b + 1
    · rw [e]; exact Int.le_refl _
    · have := ih (by omega)
      have := h b
      simp only [sm]
      omega
set_option maxRecDepth 100000 in
set_option maxHeartbeats 4000000 in
theorem l_M_lone {L : Nat} {xs : Nat → Int32} (M : Nat → Nat → Int) (nc nw nb : Nat) (hM : MR M nc nw nb) (M1 : Nat → Nat → Int) (M1s : sf M M1) (M1R : IR M1) (k : Int) (hk : sx_r k) : ∀ (n i : Nat) (M2 : Nat → Nat → Int), nw - i < n → i ≤ nw → mq M1 M2 → sf M M2 → IR M2 → (∀ j, j < i → ¬ aln M nb j → sm (fun j => b01 (¬ aln M nb j)) j ≠ k) → (0 ≤ k - sm (fun j => b01 (¬ aln M nb j)) i ∨ sm (fun j => b01 (¬ aln M nb j)) i = 0) → sx_V y_M_lone (4, 0, 0) L xs (0, 0) 4 [some (sx_p 51), some (.inl k), some (.inl (k - sm (fun j => b01 (¬ aln M nb j)) i)), some (.inl (i : Int))] [] (gm M2) (fun v h2 => ∃ M2, h2 = gm M2 ∧ mq M1 M2 ∧ IR M2 ∧ ((∃ j, j < nw ∧ ¬ aln M nb j ∧ sm (fun j => b01 (¬ aln M nb j)) j = k ∧ v = some (.inl (j : Int))) ∨ (v = some (.inl (-1)) ∧ ∀ j, j < nw → ¬ aln M nb j → sm (fun j => b01 (¬ aln M nb j)) j ≠ k))) := by
  have w6 := hM.w6
  have c4 := hM.c4
  have b8 := hM.b8
  have r33 : 0 ≤ M 3 3 ∧ M 3 3 ≤ 200 := by (have := hM.dy.2.2.2; have := dy_le (dr M) 200; omega)
  intro n
  induction n with
  | zero => intro i M2 h1 h2; omega
  | succ n ih =>
    intro i M2 hn hi M2q M2s M2R hno hl0
    have sq := sm_r2 (f := (fun j => b01 (¬ aln M nb j))) (c := 1) i (fun j _ => b01_r _)
    have krr : sx_r (k - sm (fun j => b01 (¬ aln M nb j)) i) := by omega
    refine sx_iload_n d_M_lone_4 rfl ?_
    refine sx_aload_n d_M_lone_5 rfl ?_
    refine sx_getI (z := (nw : Int)) d_M_lone_6 fl_M_95 (go rfl rfl rfl) (by decide) (by decide) (by decide) ((M2s 51 2 (by decide) (by decide) (by omega)).trans hM.mwn) ?_
    refine sx_icmp_ge (tgt := 39) d_M_lone_9 (by decide) (by omega) (by omega) (fun c9_17 => ?_) (fun c9_17 => ?_)
    · refine sx_iconst d_M_lone_39 ?_
      refine sx_retI d_M_lone_40 (Or.inl rfl) ⟨Nat.zero_le _, Nat.zero_le _⟩ ?_
      refine ⟨M2, rfl, M2q, M2R, Or.inr ⟨rfl, fun j hj hn2 => ?_⟩⟩
      rcases Nat.lt_or_ge j i with q | q
      · exact hno j q hn2
      · have mo := sm_mono (f := (fun j => b01 (¬ aln M nb j))) (fun j => (b01_r _).1) q; omega
    · refine sx_iload_n d_M_lone_12 rfl ?_
      refine sx_if_lt (tgt := 39) d_M_lone_13 (by decide) (by omega) (fun c13_25 => ?_) (fun c13_25 => ?_)
      · refine sx_iconst d_M_lone_39 ?_
        refine sx_retI d_M_lone_40 (Or.inl rfl) ⟨Nat.zero_le _, Nat.zero_le _⟩ ?_
        refine ⟨M2, rfl, M2q, M2R, Or.inr ⟨rfl, fun j hj hn2 => ?_⟩⟩
        rcases Nat.lt_or_ge j i with q | q
        · exact hno j q hn2
        · have mo := sm_mono (f := (fun j => b01 (¬ aln M nb j))) (fun j => (b01_r _).1) q; omega
      · refine sx_aload_n d_M_lone_16 rfl ?_
        refine sx_iload_n d_M_lone_17 rfl ?_
        refine sx_callV (c_M_il M nc nw nb hM M1 M1s M1R M2 M2q M2s M2R i (by omega)) d_M_lone_18 cd_M_isLone lk_M_201 im_M_isLone se_M_isLone (go rfl rfl rfl) rfl rfl (by decide) (st := []) rfl rfl (Nat.le_of_ble_eq_true rfl) ⟨by decide, Nat.le_refl _, Nat.le_refl _⟩ (fun _ _ hq => ?_)
        obtain ⟨z, rfl, zb, zi, M3, rfl, M3q, M3s, M3R⟩ := hq
        show sx_V _ _ _ _ (0, 0) _ _ [.inl z] (gm M3) _
        refine sx_if_eq (tgt := 33) d_M_lone_21 (by decide) (by omega) (fun c21_37 => ?_) (fun c21_37 => ?_)
        · refine sx_iinc (l' := [some (sx_p 51), some (.inl k), some (.inl (k - sm (fun j => b01 (¬ aln M nb j)) i)), some (.inl ((i : Int) + 1))]) d_M_lone_33 rfl (by decide) rfl rfl ?_
          refine sx_goto (tgt := 4) d_M_lone_36 (by decide) ?_
          have e1 : ((i : Int) + 1) = ((i + 1 : Nat) : Int) := by omega
          have e2 : (k - sm (fun j => b01 (¬ aln M nb j)) i) = k - sm (fun j => b01 (¬ aln M nb j)) (i + 1) := by (show _ = k - (sm (fun j => b01 (¬ aln M nb j)) i + b01 _); rw [b01_f (fun q => by have := zi.mpr q; omega)]; omega)
          rw [e1, e2]
          refine ih (i + 1) M3 (by omega) (by omega) M3q M3s M3R (fun j hj hn2 => ?_) (Or.inl (by rw [← e2]; omega))
          by_cases q : j = i
          · subst q; exact absurd (zi.mpr hn2) (by omega)
          · exact hno j (by omega) hn2
        · refine sx_iload_n d_M_lone_24 rfl ?_
          refine sx_if_ne (tgt := 30) d_M_lone_25 (by decide) (by omega) (fun c25_48 => ?_) (fun c25_48 => ?_)
          · refine sx_iinc (l' := [some (sx_p 51), some (.inl k), some (.inl ((k - sm (fun j => b01 (¬ aln M nb j)) i) + (-1))), some (.inl (i : Int))]) d_M_lone_30 rfl (by decide) rfl rfl ?_
            refine sx_iinc (l' := [some (sx_p 51), some (.inl k), some (.inl ((k - sm (fun j => b01 (¬ aln M nb j)) i) + (-1))), some (.inl ((i : Int) + 1))]) d_M_lone_33 rfl (by decide) rfl rfl ?_
            refine sx_goto (tgt := 4) d_M_lone_36 (by decide) ?_
            have e1 : ((i : Int) + 1) = ((i + 1 : Nat) : Int) := by omega
            have e2 : ((k - sm (fun j => b01 (¬ aln M nb j)) i) + (-1)) = k - sm (fun j => b01 (¬ aln M nb j)) (i + 1) := by (show _ = k - (sm (fun j => b01 (¬ aln M nb j)) i + b01 _); rw [b01_t (zi.mp (by omega))]; omega)
            rw [e1, e2]
            refine ih (i + 1) M3 (by omega) (by omega) M3q M3s M3R (fun j hj hn2 => ?_) (Or.inl (by rw [← e2]; omega))
            by_cases q : j = i
            · subst q; omega
            · exact hno j (by omega) hn2
          · refine sx_iload_n d_M_lone_28 rfl ?_
            refine sx_retI d_M_lone_29 (Or.inl rfl) ⟨Nat.zero_le _, Nat.zero_le _⟩ ?_
            exact ⟨M3, rfl, M3q, M3R, Or.inl ⟨i, by omega, zi.mp (by omega), by omega, rfl⟩⟩
set_option maxRecDepth 100000 in
set_option maxHeartbeats 4000000 in
theorem m_lone {L : Nat} {xs : Nat → Int32} (M : Nat → Nat → Int) (nc nw nb : Nat) (hM : MR M nc nw nb) (M1 : Nat → Nat → Int) (M1s : sf M M1) (M1R : IR M1) (k : Int) (hk : sx_r k) : sx_R y_M_lone (4, 0, 0) L xs [sx_p 51, .inl k] (gm M1) (fun v h2 => ∃ M2, h2 = gm M2 ∧ mq M1 M2 ∧ IR M2 ∧ ((∃ j, j < nw ∧ ¬ aln M nb j ∧ sm (fun j => b01 (¬ aln M nb j)) j = k ∧ v = some (.inl (j : Int))) ∨ (v = some (.inl (-1)) ∧ ∀ j, j < nw → ¬ aln M nb j → sm (fun j => b01 (¬ aln M nb j)) j ≠ k))) := by
  refine sx_enter rfl (Nat.le_of_ble_eq_true rfl) rfl ?_
  show sx_V y_M_lone (4, 0, 0) L xs (0, 0) 0 [some (sx_p 51), some (.inl k), none, none] [] (gm M1) _
  refine sx_iload_n d_M_lone_0 rfl ?_
  refine sx_istore_n (l' := [some (sx_p 51), some (.inl k), some (.inl k), none]) d_M_lone_1 (by decide) rfl rfl ?_
  refine sx_iconst d_M_lone_2 ?_
  refine sx_istore_n (l' := [some (sx_p 51), some (.inl k), some (.inl k), some (.inl 0)]) d_M_lone_3 (by decide) rfl rfl ?_
  have q := l_M_lone (L := L) (xs := xs) M nc nw nb hM M1 M1s M1R k hk (nw + 1) 0 M1 (by omega) (by omega) (fun _ _ _ _ => rfl) M1s M1R (fun j hj => absurd hj (Nat.not_lt_zero _)) (Or.inr rfl)
  rw [show k - sm (fun j => b01 (¬ aln M nb j)) 0 = k from Int.sub_zero k] at q
  exact q
