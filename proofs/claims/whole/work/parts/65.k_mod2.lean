set_option maxRecDepth 100000 in
set_option maxHeartbeats 4000000 in
theorem l_M_lay {L : Nat} {xs : Nat → Int32} (M : Nat → Nat → Int) (nc nw nb : Nat) (hM : MR M nc nw nb) (M1 : Nat → Nat → Int) (M1s : sf M M1) (sl : Nat) (hsl : sl < 7) (w : Nat) (hw : w < nw) (s d : Int) (hs : 0 ≤ s ∧ s ≤ 1000) (hsw : dr M s.toNat = false) (hd01 : d = 0 ∨ d = 1) (hW : IW M w) : ∀ (n i : Nat) (dy : Int) (x9 x10 : Option sx_v) (M2 : Nat → Nat → Int), 202 - i < n → (i : Int) ≤ M (14 + w) 3 - M (14 + w) 2 + 1 → lyf sl M1 M2 → sf M M2 → IR M2 → lys M w sl s d i M2 → M2 72 sl = s → M2 73 sl = d → hD M w s i dy → sx_V y_M_lay (2, 0, 0) L xs (0, 0) 44 [some (sx_p 51), some (.inl (sl : Int)), some (.inl (w : Int)), some (.inl s), some (.inl d), some (.inl (M (14 + w) 4)), some (.inl ((M (14 + w) 3) - (M (14 + w) 2))), some (.inl dy), some (.inl (i : Int)), x9, x10] [] (gm M2) (fun v h2 => v = none ∧ ∃ M3, h2 = gm M3 ∧ lyf sl M1 M3 ∧ IR M3 ∧ sf M M3 ∧ laid M w sl s d M3) := by
  obtain ⟨a1, a2, a3, a4, a5, a6⟩ := id hW
  have w6 := hM.w6
  intro n
  induction n with
  | zero => intro i dy x9 x10 M2 h1 h2; omega
  | succ n ih =>
    intro i dy x9 x10 M2 hn hi M2f M2s M2R hly h72 h73 hdy
    refine sx_iload d_M_lay_44 rfl ?_
    refine sx_iload d_M_lay_46 rfl ?_
    refine sx_icmp_gt (tgt := 195) d_M_lay_48 (by decide) (by omega) (by omega) (fun c48_12 => ?_) (fun c48_12 => ?_)
    · have dyr := hD_r hW hs hsw (by omega) hdy
      refine sx_aload_n d_M_lay_195 rfl ?_
      refine sx_getR (r := some (74)) d_M_lay_196 fl_M_77 (go rfl rfl rfl) (by decide) (by decide) (by decide) rfl ?_
      refine sx_iload_n d_M_lay_199 rfl ?_
      refine sx_iload d_M_lay_200 rfl ?_
      refine sx_iconst d_M_lay_202 ?_
      refine sx_iadd d_M_lay_203 ?_
      refine sx_iast (h2 := gm (sx_u M2 74 sl (dy + 1))) d_M_lay_204 (go rfl rfl rfl) (by omega) (by omega) (by decide) rfl ?_
      refine sx_retV d_M_lay_205 rfl ⟨Nat.zero_le _, Nat.zero_le _⟩ ?_
      have he := hD_e hW (by omega) hdy
      refine ⟨rfl, _, rfl, M2f.v (by decide) (by decide) _, M2R.u _ _ (by omega), M2s.u (by decide) _ _, h72, h73, by rw [sx_us]; exact he, ?_⟩
      exact laid_of (n := i) (by omega) (fun j hj => by rw [sx_u_ne (by decide), sx_u_ne (by decide)]; exact hly j hj)
    · have dyr := hD_r hW hs hsw (by omega) hdy
      refine sx_sipush d_M_lay_51 (by decide) ?_
      refine sx_iload_n d_M_lay_54 rfl ?_
      refine sx_imul d_M_lay_55 ?_
      refine sx_iload d_M_lay_56 rfl ?_
      refine sx_if_ne (tgt := 73) d_M_lay_58 (by decide) (by omega) (fun c58_30 => ?_) (fun c58_30 => ?_)
      · refine sx_aload_n d_M_lay_73 rfl ?_
        refine sx_getR (r := some (55)) d_M_lay_74 fl_M_19 (go rfl rfl rfl) (by decide) (by decide) (by decide) rfl ?_
        refine sx_iload_n d_M_lay_77 rfl ?_
        refine sx_iald (z := (M (14 + w) 3)) d_M_lay_78 (go rfl rfl rfl) (by omega) (by omega) (by decide) ((M2s 55 w (by decide) (by decide) (by omega)).trans (hM.mto w (by omega))) ?_
        refine sx_iload d_M_lay_79 rfl ?_
        refine sx_isub d_M_lay_81 ?_
        refine sx_iadd d_M_lay_82 ?_
        refine sx_istore (l' := [some (sx_p 51), some (.inl (sl : Int)), some (.inl (w : Int)), some (.inl s), some (.inl d), some (.inl (M (14 + w) 4)), some (.inl ((M (14 + w) 3) - (M (14 + w) 2))), some (.inl dy), some (.inl (i : Int)), some (.inl ((201 * (sl : Int)) + ((M (14 + w) 3) - (i : Int)))), x10]) d_M_lay_83 (by decide) rfl rfl ?_
        refine sx_iload d_M_lay_85 rfl ?_
        refine sx_if_ne (tgt := 115) d_M_lay_87 (by decide) (by omega) (fun c87_40 => ?_) (fun c87_40 => ?_)
        · refine sx_iload d_M_lay_115 rfl ?_
          refine sx_iconst d_M_lay_117 ?_
          refine sx_isub d_M_lay_118 ?_
          refine sx_iload d_M_lay_119 rfl ?_
          refine sx_irem d_M_lay_121 (by omega) (by omega) (by omega) ?_
          refine sx_iconst d_M_lay_122 ?_
          refine sx_iadd d_M_lay_123 ?_
          have tq := Int.tmod_eq_emod_of_nonneg (a := (i : Int) - 1) (b := (M (14 + w) 4)) (by omega)
          have tq1 := Int.emod_nonneg ((i : Int) - 1) (show (M (14 + w) 4) ≠ 0 by omega)
          have tq2 := Int.emod_lt_of_pos ((i : Int) - 1) (show 0 < (M (14 + w) 4) by omega)
          refine sx_istore (l' := [some (sx_p 51), some (.inl (sl : Int)), some (.inl (w : Int)), some (.inl s), some (.inl d), some (.inl (M (14 + w) 4)), some (.inl ((M (14 + w) 3) - (M (14 + w) 2))), some (.inl dy), some (.inl (i : Int)), some (.inl ((201 * (sl : Int)) + ((M (14 + w) 3) - (i : Int)))), some (.inl ((Int.tmod ((i : Int) - 1) (M (14 + w) 4)) + 1))]) d_M_lay_124 (by decide) rfl rfl ?_
          refine sx_aload_n d_M_lay_126 rfl ?_
          refine sx_getR (r := some (75)) d_M_lay_127 fl_M_80 (go rfl rfl rfl) (by decide) (by decide) (by decide) rfl ?_
          refine sx_iload d_M_lay_130 rfl ?_
          refine sx_iload d_M_lay_132 rfl ?_
          refine sx_iload d_M_lay_134 rfl ?_
          refine sx_imul d_M_lay_136 ?_
          refine sx_iload d_M_lay_137 rfl ?_
          refine sx_iadd d_M_lay_139 ?_
          refine sx_iast (h2 := gm (sx_u M2 75 (Int.toNat ((201 * (sl : Int)) + ((M (14 + w) 3) - (i : Int)))) ((dy * (M (14 + w) 4)) + ((Int.tmod ((i : Int) - 1) (M (14 + w) 4)) + 1)))) d_M_lay_140 (go rfl rfl rfl) (by omega) (by omega) (by decide) rfl ?_
          refine sx_aload_n d_M_lay_141 rfl ?_
          refine sx_getR (r := some (76)) d_M_lay_142 fl_M_83 (go rfl rfl rfl) (by decide) (by decide) (by decide) rfl ?_
          refine sx_iload d_M_lay_145 rfl ?_
          refine sx_aload_n d_M_lay_147 rfl ?_
          refine sx_getR (r := some (75)) d_M_lay_148 fl_M_80 (go rfl rfl rfl) (by decide) (by decide) (by decide) rfl ?_
          refine sx_iload d_M_lay_151 rfl ?_
          refine sx_iald (z := ((dy * (M (14 + w) 4)) + ((Int.tmod ((i : Int) - 1) (M (14 + w) 4)) + 1))) d_M_lay_153 (go rfl rfl rfl) (by omega) (by omega) (by decide) sx_us ?_
          refine sx_iast (h2 := gm (sx_u (sx_u M2 75 (Int.toNat ((201 * (sl : Int)) + ((M (14 + w) 3) - (i : Int)))) ((dy * (M (14 + w) 4)) + ((Int.tmod ((i : Int) - 1) (M (14 + w) 4)) + 1))) 76 (Int.toNat ((201 * (sl : Int)) + ((M (14 + w) 3) - (i : Int)))) ((dy * (M (14 + w) 4)) + ((Int.tmod ((i : Int) - 1) (M (14 + w) 4)) + 1)))) d_M_lay_154 (go rfl rfl rfl) (by omega) (by omega) (by decide) rfl ?_
          refine sx_iload d_M_lay_155 rfl ?_
          refine sx_iload d_M_lay_157 rfl ?_
          refine sx_icmp_ne (tgt := 189) d_M_lay_159 (by decide) (by omega) (by omega) (fun c159_71 => ?_) (fun c159_71 => ?_)
          · refine sx_iinc (l' := [some (sx_p 51), some (.inl (sl : Int)), some (.inl (w : Int)), some (.inl s), some (.inl d), some (.inl (M (14 + w) 4)), some (.inl ((M (14 + w) 3) - (M (14 + w) 2))), some (.inl dy), some (.inl ((i : Int) + 1)), some (.inl ((201 * (sl : Int)) + ((M (14 + w) 3) - (i : Int)))), some (.inl ((Int.tmod ((i : Int) - 1) (M (14 + w) 4)) + 1))]) d_M_lay_189 rfl (by decide) rfl rfl ?_
            refine sx_goto (tgt := 44) d_M_lay_192 (by decide) ?_
            have e1 : ((i : Int) + 1) = ((i + 1 : Nat) : Int) := by omega
            have hA : (Int.toNat ((201 * (sl : Int)) + ((M (14 + w) 3) - (i : Int)))) = 201 * sl + (pl M w d i).toNat := by (unfold pl; rw [if_neg (by omega)]; omega)
            rw [e1, hA]
            have plr := pl_r hW (d := d) (j := i) (by omega)
            have hX : ((dy * (M (14 + w) 4)) + ((Int.tmod ((i : Int) - 1) (M (14 + w) 4)) + 1)) = pT M w s d (pl M w d i) 0 := by (rw [pT_a (by omega), tq, hdy.2.1 (by omega) (by omega)])
            have hY : ((dy * (M (14 + w) 4)) + ((Int.tmod ((i : Int) - 1) (M (14 + w) 4)) + 1)) = pT M w s d (pl M w d i) 1 := by (rw [pT_l hW.2.2.2.1 (by omega), if_neg (fun k => by omega), tq, hdy.2.1 (by omega) (by omega)])
            have pr0 := (pT_r hW (s := s) (d := d) (p := pl M w d i) (lv := 0) hs (by rw [wx_pl]; omega))
            have pr1 := (pT_r hW (s := s) (d := d) (p := pl M w d i) (lv := 1) hs (by rw [wx_pl]; omega))
            exact ih (i + 1) dy _ _ _ (by omega) (by omega) ((M2f.w (by decide) (by decide) (by omega) (by omega) _).w (by decide) (by decide) (by omega) (by omega) _) ((M2s.u (by decide) _ _).u (by decide) _ _) ((M2R.u _ _ (by omega)).u _ _ (by omega)) (lys_s hW (by omega) hly hX hY) h72 h73 (hD_n hW (by omega) (by omega) hdy (by omega))
          · refine sx_iload d_M_lay_162 rfl ?_
            refine sx_iload d_M_lay_164 rfl ?_
            refine sx_icmp_ge (tgt := 189) d_M_lay_166 (by decide) (by omega) (by omega) (fun c166_85 => ?_) (fun c166_85 => ?_)
            · refine sx_iinc (l' := [some (sx_p 51), some (.inl (sl : Int)), some (.inl (w : Int)), some (.inl s), some (.inl d), some (.inl (M (14 + w) 4)), some (.inl ((M (14 + w) 3) - (M (14 + w) 2))), some (.inl dy), some (.inl ((i : Int) + 1)), some (.inl ((201 * (sl : Int)) + ((M (14 + w) 3) - (i : Int)))), some (.inl ((Int.tmod ((i : Int) - 1) (M (14 + w) 4)) + 1))]) d_M_lay_189 rfl (by decide) rfl rfl ?_
              refine sx_goto (tgt := 44) d_M_lay_192 (by decide) ?_
              have e1 : ((i : Int) + 1) = ((i + 1 : Nat) : Int) := by omega
              have hA : (Int.toNat ((201 * (sl : Int)) + ((M (14 + w) 3) - (i : Int)))) = 201 * sl + (pl M w d i).toNat := by (unfold pl; rw [if_neg (by omega)]; omega)
              rw [e1, hA]
              have plr := pl_r hW (d := d) (j := i) (by omega)
              have hX : ((dy * (M (14 + w) 4)) + ((Int.tmod ((i : Int) - 1) (M (14 + w) 4)) + 1)) = pT M w s d (pl M w d i) 0 := by (rw [pT_a (by omega), tq, hdy.2.1 (by omega) (by omega)])
              have hY : ((dy * (M (14 + w) 4)) + ((Int.tmod ((i : Int) - 1) (M (14 + w) 4)) + 1)) = pT M w s d (pl M w d i) 1 := by (rw [pT_l hW.2.2.2.1 (by omega), if_neg (fun k => by omega), tq, hdy.2.1 (by omega) (by omega)])
              have pr0 := (pT_r hW (s := s) (d := d) (p := pl M w d i) (lv := 0) hs (by rw [wx_pl]; omega))
              have pr1 := (pT_r hW (s := s) (d := d) (p := pl M w d i) (lv := 1) hs (by rw [wx_pl]; omega))
              exact ih (i + 1) dy _ _ _ (by omega) (by omega) ((M2f.w (by decide) (by decide) (by omega) (by omega) _).w (by decide) (by decide) (by omega) (by omega) _) ((M2s.u (by decide) _ _).u (by decide) _ _) ((M2R.u _ _ (by omega)).u _ _ (by omega)) (lys_s hW (by omega) hly hX hY) h72 h73 (hD_n hW (by omega) (by omega) hdy (by omega))
            · refine sx_aload_n d_M_lay_169 rfl ?_
              refine sx_iload d_M_lay_170 rfl ?_
              refine sx_callV (c_M_next M nc nw nb hM (sx_u (sx_u M2 75 (Int.toNat ((201 * (sl : Int)) + ((M (14 + w) 3) - (i : Int)))) ((dy * (M (14 + w) 4)) + ((Int.tmod ((i : Int) - 1) (M (14 + w) 4)) + 1))) 76 (Int.toNat ((201 * (sl : Int)) + ((M (14 + w) 3) - (i : Int)))) ((dy * (M (14 + w) 4)) + ((Int.tmod ((i : Int) - 1) (M (14 + w) 4)) + 1))) ((M2s.u (by decide) _ _).u (by decide) _ _) dy (by omega) dyr.2) d_M_lay_172 cd_M_nextDay lk_M_126 im_M_nextDay se_M_nextDay (go rfl rfl rfl) rfl rfl (by decide) (st := []) rfl rfl (Nat.le_of_ble_eq_true rfl) ⟨by decide, Nat.le_refl _, Nat.le_refl _⟩ (fun _ _ hq => ?_)
              obtain ⟨rfl, rfl⟩ := hq
              show sx_V _ _ _ _ (0, 0) _ _ [.inl (Dd M (Bd M dy + 1))] (gm (sx_u (sx_u M2 75 (Int.toNat ((201 * (sl : Int)) + ((M (14 + w) 3) - (i : Int)))) ((dy * (M (14 + w) 4)) + ((Int.tmod ((i : Int) - 1) (M (14 + w) 4)) + 1))) 76 (Int.toNat ((201 * (sl : Int)) + ((M (14 + w) 3) - (i : Int)))) ((dy * (M (14 + w) 4)) + ((Int.tmod ((i : Int) - 1) (M (14 + w) 4)) + 1)))) _
              refine sx_istore (l' := [some (sx_p 51), some (.inl (sl : Int)), some (.inl (w : Int)), some (.inl s), some (.inl d), some (.inl (M (14 + w) 4)), some (.inl ((M (14 + w) 3) - (M (14 + w) 2))), some (.inl (Dd M (Bd M dy + 1))), some (.inl (i : Int)), some (.inl ((201 * (sl : Int)) + ((M (14 + w) 3) - (i : Int)))), some (.inl ((Int.tmod ((i : Int) - 1) (M (14 + w) 4)) + 1))]) d_M_lay_175 (by decide) rfl rfl ?_
              refine sx_aload_n d_M_lay_177 rfl ?_
              refine sx_getR (r := some (76)) d_M_lay_178 fl_M_83 (go rfl rfl rfl) (by decide) (by decide) (by decide) rfl ?_
              refine sx_iload d_M_lay_181 rfl ?_
              refine sx_iload d_M_lay_183 rfl ?_
              refine sx_iload d_M_lay_185 rfl ?_
              refine sx_imul d_M_lay_187 ?_
              refine sx_iast (h2 := gm (sx_u (sx_u (sx_u M2 75 (Int.toNat ((201 * (sl : Int)) + ((M (14 + w) 3) - (i : Int)))) ((dy * (M (14 + w) 4)) + ((Int.tmod ((i : Int) - 1) (M (14 + w) 4)) + 1))) 76 (Int.toNat ((201 * (sl : Int)) + ((M (14 + w) 3) - (i : Int)))) ((dy * (M (14 + w) 4)) + ((Int.tmod ((i : Int) - 1) (M (14 + w) 4)) + 1))) 76 (Int.toNat ((201 * (sl : Int)) + ((M (14 + w) 3) - (i : Int)))) ((Dd M (Bd M dy + 1)) * (M (14 + w) 4)))) d_M_lay_188 (go rfl rfl rfl) (by omega) (by omega) (by decide) rfl ?_
              refine sx_iinc (l' := [some (sx_p 51), some (.inl (sl : Int)), some (.inl (w : Int)), some (.inl s), some (.inl d), some (.inl (M (14 + w) 4)), some (.inl ((M (14 + w) 3) - (M (14 + w) 2))), some (.inl (Dd M (Bd M dy + 1))), some (.inl ((i : Int) + 1)), some (.inl ((201 * (sl : Int)) + ((M (14 + w) 3) - (i : Int)))), some (.inl ((Int.tmod ((i : Int) - 1) (M (14 + w) 4)) + 1))]) d_M_lay_189 rfl (by decide) rfl rfl ?_
              refine sx_goto (tgt := 44) d_M_lay_192 (by decide) ?_
              have e1 : ((i : Int) + 1) = ((i + 1 : Nat) : Int) := by omega
              have hA : (Int.toNat ((201 * (sl : Int)) + ((M (14 + w) 3) - (i : Int)))) = 201 * sl + (pl M w d i).toNat := by (unfold pl; rw [if_neg (by omega)]; omega)
              rw [e1, hA]
              have plr := pl_r hW (d := d) (j := i) (by omega)
              have hX : ((dy * (M (14 + w) 4)) + ((Int.tmod ((i : Int) - 1) (M (14 + w) 4)) + 1)) = pT M w s d (pl M w d i) 0 := by (rw [pT_a (by omega), tq, hdy.2.1 (by omega) (by omega)])
              rw [sx_uu]
              have hda := hD_a hW (by omega) (by omega) hdy (by omega)
              have hY : ((Dd M (Bd M dy + 1)) * (M (14 + w) 4)) = pT M w s d (pl M w d i) 1 := by (rw [pT_l hW.2.2.2.1 (by omega), if_pos ⟨by omega, by omega⟩, hda.1])
              have pr0 := (pT_r hW (s := s) (d := d) (p := pl M w d i) (lv := 0) hs (by rw [wx_pl]; omega))
              have pr1 := (pT_r hW (s := s) (d := d) (p := pl M w d i) (lv := 1) hs (by rw [wx_pl]; omega))
              exact ih (i + 1) (Dd M (Bd M dy + 1)) _ _ _ (by omega) (by omega) ((M2f.w (by decide) (by decide) (by omega) (by omega) _).w (by decide) (by decide) (by omega) (by omega) _) ((M2s.u (by decide) _ _).u (by decide) _ _) ((M2R.u _ _ (by omega)).u _ _ (by omega)) (lys_s hW (by omega) hly hX hY) h72 h73 hda.2
        · refine sx_aload_n d_M_lay_90 rfl ?_
          refine sx_getR (r := some (75)) d_M_lay_91 fl_M_80 (go rfl rfl rfl) (by decide) (by decide) (by decide) rfl ?_
          refine sx_iload d_M_lay_94 rfl ?_
          refine sx_iload_n d_M_lay_96 rfl ?_
          refine sx_iload d_M_lay_97 rfl ?_
          refine sx_imul d_M_lay_99 ?_
          refine sx_iast (h2 := gm (sx_u M2 75 (Int.toNat ((201 * (sl : Int)) + ((M (14 + w) 3) - (i : Int)))) (s * (M (14 + w) 4)))) d_M_lay_100 (go rfl rfl rfl) (by omega) (by omega) (by decide) rfl ?_
          refine sx_aload_n d_M_lay_101 rfl ?_
          refine sx_getR (r := some (76)) d_M_lay_102 fl_M_83 (go rfl rfl rfl) (by decide) (by decide) (by decide) rfl ?_
          refine sx_iload d_M_lay_105 rfl ?_
          refine sx_iload_n d_M_lay_107 rfl ?_
          refine sx_iload d_M_lay_108 rfl ?_
          refine sx_imul d_M_lay_110 ?_
          refine sx_iast (h2 := gm (sx_u (sx_u M2 75 (Int.toNat ((201 * (sl : Int)) + ((M (14 + w) 3) - (i : Int)))) (s * (M (14 + w) 4))) 76 (Int.toNat ((201 * (sl : Int)) + ((M (14 + w) 3) - (i : Int)))) (s * (M (14 + w) 4)))) d_M_lay_111 (go rfl rfl rfl) (by omega) (by omega) (by decide) rfl ?_
          refine sx_goto (tgt := 189) d_M_lay_112 (by decide) ?_
          refine sx_iinc (l' := [some (sx_p 51), some (.inl (sl : Int)), some (.inl (w : Int)), some (.inl s), some (.inl d), some (.inl (M (14 + w) 4)), some (.inl ((M (14 + w) 3) - (M (14 + w) 2))), some (.inl dy), some (.inl ((i : Int) + 1)), some (.inl ((201 * (sl : Int)) + ((M (14 + w) 3) - (i : Int)))), x10]) d_M_lay_189 rfl (by decide) rfl rfl ?_
          refine sx_goto (tgt := 44) d_M_lay_192 (by decide) ?_
          have e1 : ((i : Int) + 1) = ((i + 1 : Nat) : Int) := by omega
          have hA : (Int.toNat ((201 * (sl : Int)) + ((M (14 + w) 3) - (i : Int)))) = 201 * sl + (pl M w d i).toNat := by (unfold pl; rw [if_neg (by omega)]; omega)
          rw [e1, hA]
          have i0 : i = 0 := by omega
          have hX : (s * (M (14 + w) 4)) = pT M w s d (pl M w d i) 0 := by (rw [i0, pT_0 hs.1 hsw])
          have hY : (s * (M (14 + w) 4)) = pT M w s d (pl M w d i) 1 := by (rw [i0, pT_0 hs.1 hsw])
          have pr0 := (pT_r hW (s := s) (d := d) (p := pl M w d i) (lv := 0) hs (by rw [wx_pl]; omega))
          have pr1 := (pT_r hW (s := s) (d := d) (p := pl M w d i) (lv := 1) hs (by rw [wx_pl]; omega))
          exact ih (i + 1) dy _ _ _ (by omega) (by omega) ((M2f.w (by decide) (by decide) (by omega) (by omega) _).w (by decide) (by decide) (by omega) (by omega) _) ((M2s.u (by decide) _ _).u (by decide) _ _) ((M2R.u _ _ (by omega)).u _ _ (by omega)) (lys_s hW (by omega) hly hX hY) h72 h73 (by subst i0; rw [hdy.1 rfl]; exact hD_1 hW hs.1 hsw)
      · refine sx_aload_n d_M_lay_61 rfl ?_
        refine sx_getR (r := some (54)) d_M_lay_62 fl_M_16 (go rfl rfl rfl) (by decide) (by decide) (by decide) rfl ?_
        refine sx_iload_n d_M_lay_65 rfl ?_
        refine sx_iald (z := (M (14 + w) 2)) d_M_lay_66 (go rfl rfl rfl) (by omega) (by omega) (by decide) ((M2s 54 w (by decide) (by decide) (by omega)).trans (hM.mfr w (by omega))) ?_
        refine sx_iload d_M_lay_67 rfl ?_
        refine sx_iadd d_M_lay_69 ?_
        refine sx_goto (tgt := 82) d_M_lay_70 (by decide) ?_
        refine sx_iadd d_M_lay_82 ?_
        refine sx_istore (l' := [some (sx_p 51), some (.inl (sl : Int)), some (.inl (w : Int)), some (.inl s), some (.inl d), some (.inl (M (14 + w) 4)), some (.inl ((M (14 + w) 3) - (M (14 + w) 2))), some (.inl dy), some (.inl (i : Int)), some (.inl ((201 * (sl : Int)) + ((M (14 + w) 2) + (i : Int)))), x10]) d_M_lay_83 (by decide) rfl rfl ?_
        refine sx_iload d_M_lay_85 rfl ?_
        refine sx_if_ne (tgt := 115) d_M_lay_87 (by decide) (by omega) (fun c87_159 => ?_) (fun c87_159 => ?_)
        · refine sx_iload d_M_lay_115 rfl ?_
          refine sx_iconst d_M_lay_117 ?_
          refine sx_isub d_M_lay_118 ?_
          refine sx_iload d_M_lay_119 rfl ?_
          refine sx_irem d_M_lay_121 (by omega) (by omega) (by omega) ?_
          refine sx_iconst d_M_lay_122 ?_
          refine sx_iadd d_M_lay_123 ?_
          have tq := Int.tmod_eq_emod_of_nonneg (a := (i : Int) - 1) (b := (M (14 + w) 4)) (by omega)
          have tq1 := Int.emod_nonneg ((i : Int) - 1) (show (M (14 + w) 4) ≠ 0 by omega)
          have tq2 := Int.emod_lt_of_pos ((i : Int) - 1) (show 0 < (M (14 + w) 4) by omega)
          refine sx_istore (l' := [some (sx_p 51), some (.inl (sl : Int)), some (.inl (w : Int)), some (.inl s), some (.inl d), some (.inl (M (14 + w) 4)), some (.inl ((M (14 + w) 3) - (M (14 + w) 2))), some (.inl dy), some (.inl (i : Int)), some (.inl ((201 * (sl : Int)) + ((M (14 + w) 2) + (i : Int)))), some (.inl ((Int.tmod ((i : Int) - 1) (M (14 + w) 4)) + 1))]) d_M_lay_124 (by decide) rfl rfl ?_
          refine sx_aload_n d_M_lay_126 rfl ?_
          refine sx_getR (r := some (75)) d_M_lay_127 fl_M_80 (go rfl rfl rfl) (by decide) (by decide) (by decide) rfl ?_
          refine sx_iload d_M_lay_130 rfl ?_
          refine sx_iload d_M_lay_132 rfl ?_
          refine sx_iload d_M_lay_134 rfl ?_
          refine sx_imul d_M_lay_136 ?_
          refine sx_iload d_M_lay_137 rfl ?_
          refine sx_iadd d_M_lay_139 ?_
          refine sx_iast (h2 := gm (sx_u M2 75 (Int.toNat ((201 * (sl : Int)) + ((M (14 + w) 2) + (i : Int)))) ((dy * (M (14 + w) 4)) + ((Int.tmod ((i : Int) - 1) (M (14 + w) 4)) + 1)))) d_M_lay_140 (go rfl rfl rfl) (by omega) (by omega) (by decide) rfl ?_
          refine sx_aload_n d_M_lay_141 rfl ?_
          refine sx_getR (r := some (76)) d_M_lay_142 fl_M_83 (go rfl rfl rfl) (by decide) (by decide) (by decide) rfl ?_
          refine sx_iload d_M_lay_145 rfl ?_
          refine sx_aload_n d_M_lay_147 rfl ?_
          refine sx_getR (r := some (75)) d_M_lay_148 fl_M_80 (go rfl rfl rfl) (by decide) (by decide) (by decide) rfl ?_
          refine sx_iload d_M_lay_151 rfl ?_
          refine sx_iald (z := ((dy * (M (14 + w) 4)) + ((Int.tmod ((i : Int) - 1) (M (14 + w) 4)) + 1))) d_M_lay_153 (go rfl rfl rfl) (by omega) (by omega) (by decide) sx_us ?_
          refine sx_iast (h2 := gm (sx_u (sx_u M2 75 (Int.toNat ((201 * (sl : Int)) + ((M (14 + w) 2) + (i : Int)))) ((dy * (M (14 + w) 4)) + ((Int.tmod ((i : Int) - 1) (M (14 + w) 4)) + 1))) 76 (Int.toNat ((201 * (sl : Int)) + ((M (14 + w) 2) + (i : Int)))) ((dy * (M (14 + w) 4)) + ((Int.tmod ((i : Int) - 1) (M (14 + w) 4)) + 1)))) d_M_lay_154 (go rfl rfl rfl) (by omega) (by omega) (by decide) rfl ?_
          refine sx_iload d_M_lay_155 rfl ?_
          refine sx_iload d_M_lay_157 rfl ?_
          refine sx_icmp_ne (tgt := 189) d_M_lay_159 (by decide) (by omega) (by omega) (fun c159_190 => ?_) (fun c159_190 => ?_)
          · refine sx_iinc (l' := [some (sx_p 51), some (.inl (sl : Int)), some (.inl (w : Int)), some (.inl s), some (.inl d), some (.inl (M (14 + w) 4)), some (.inl ((M (14 + w) 3) - (M (14 + w) 2))), some (.inl dy), some (.inl ((i : Int) + 1)), some (.inl ((201 * (sl : Int)) + ((M (14 + w) 2) + (i : Int)))), some (.inl ((Int.tmod ((i : Int) - 1) (M (14 + w) 4)) + 1))]) d_M_lay_189 rfl (by decide) rfl rfl ?_
            refine sx_goto (tgt := 44) d_M_lay_192 (by decide) ?_
            have e1 : ((i : Int) + 1) = ((i + 1 : Nat) : Int) := by omega
            have hA : (Int.toNat ((201 * (sl : Int)) + ((M (14 + w) 2) + (i : Int)))) = 201 * sl + (pl M w d i).toNat := by (unfold pl; rw [if_pos (by omega)]; omega)
            rw [e1, hA]
            have plr := pl_r hW (d := d) (j := i) (by omega)
            have hX : ((dy * (M (14 + w) 4)) + ((Int.tmod ((i : Int) - 1) (M (14 + w) 4)) + 1)) = pT M w s d (pl M w d i) 0 := by (rw [pT_a (by omega), tq, hdy.2.1 (by omega) (by omega)])
            have hY : ((dy * (M (14 + w) 4)) + ((Int.tmod ((i : Int) - 1) (M (14 + w) 4)) + 1)) = pT M w s d (pl M w d i) 1 := by (rw [pT_l hW.2.2.2.1 (by omega), if_neg (fun k => by omega), tq, hdy.2.1 (by omega) (by omega)])
            have pr0 := (pT_r hW (s := s) (d := d) (p := pl M w d i) (lv := 0) hs (by rw [wx_pl]; omega))
            have pr1 := (pT_r hW (s := s) (d := d) (p := pl M w d i) (lv := 1) hs (by rw [wx_pl]; omega))
            exact ih (i + 1) dy _ _ _ (by omega) (by omega) ((M2f.w (by decide) (by decide) (by omega) (by omega) _).w (by decide) (by decide) (by omega) (by omega) _) ((M2s.u (by decide) _ _).u (by decide) _ _) ((M2R.u _ _ (by omega)).u _ _ (by omega)) (lys_s hW (by omega) hly hX hY) h72 h73 (hD_n hW (by omega) (by omega) hdy (by omega))
          · refine sx_iload d_M_lay_162 rfl ?_
            refine sx_iload d_M_lay_164 rfl ?_
            refine sx_icmp_ge (tgt := 189) d_M_lay_166 (by decide) (by omega) (by omega) (fun c166_204 => ?_) (fun c166_204 => ?_)
            · refine sx_iinc (l' := [some (sx_p 51), some (.inl (sl : Int)), some (.inl (w : Int)), some (.inl s), some (.inl d), some (.inl (M (14 + w) 4)), some (.inl ((M (14 + w) 3) - (M (14 + w) 2))), some (.inl dy), some (.inl ((i : Int) + 1)), some (.inl ((201 * (sl : Int)) + ((M (14 + w) 2) + (i : Int)))), some (.inl ((Int.tmod ((i : Int) - 1) (M (14 + w) 4)) + 1))]) d_M_lay_189 rfl (by decide) rfl rfl ?_
              refine sx_goto (tgt := 44) d_M_lay_192 (by decide) ?_
              have e1 : ((i : Int) + 1) = ((i + 1 : Nat) : Int) := by omega
              have hA : (Int.toNat ((201 * (sl : Int)) + ((M (14 + w) 2) + (i : Int)))) = 201 * sl + (pl M w d i).toNat := by (unfold pl; rw [if_pos (by omega)]; omega)
              rw [e1, hA]
              have plr := pl_r hW (d := d) (j := i) (by omega)
              have hX : ((dy * (M (14 + w) 4)) + ((Int.tmod ((i : Int) - 1) (M (14 + w) 4)) + 1)) = pT M w s d (pl M w d i) 0 := by (rw [pT_a (by omega), tq, hdy.2.1 (by omega) (by omega)])
              have hY : ((dy * (M (14 + w) 4)) + ((Int.tmod ((i : Int) - 1) (M (14 + w) 4)) + 1)) = pT M w s d (pl M w d i) 1 := by (rw [pT_l hW.2.2.2.1 (by omega), if_neg (fun k => by omega), tq, hdy.2.1 (by omega) (by omega)])
              have pr0 := (pT_r hW (s := s) (d := d) (p := pl M w d i) (lv := 0) hs (by rw [wx_pl]; omega))
              have pr1 := (pT_r hW (s := s) (d := d) (p := pl M w d i) (lv := 1) hs (by rw [wx_pl]; omega))
              exact ih (i + 1) dy _ _ _ (by omega) (by omega) ((M2f.w (by decide) (by decide) (by omega) (by omega) _).w (by decide) (by decide) (by omega) (by omega) _) ((M2s.u (by decide) _ _).u (by decide) _ _) ((M2R.u _ _ (by omega)).u _ _ (by omega)) (lys_s hW (by omega) hly hX hY) h72 h73 (hD_n hW (by omega) (by omega) hdy (by omega))
            · refine sx_aload_n d_M_lay_169 rfl ?_
              refine sx_iload d_M_lay_170 rfl ?_
              refine sx_callV (c_M_next M nc nw nb hM (sx_u (sx_u M2 75 (Int.toNat ((201 * (sl : Int)) + ((M (14 + w) 2) + (i : Int)))) ((dy * (M (14 + w) 4)) + ((Int.tmod ((i : Int) - 1) (M (14 + w) 4)) + 1))) 76 (Int.toNat ((201 * (sl : Int)) + ((M (14 + w) 2) + (i : Int)))) ((dy * (M (14 + w) 4)) + ((Int.tmod ((i : Int) - 1) (M (14 + w) 4)) + 1))) ((M2s.u (by decide) _ _).u (by decide) _ _) dy (by omega) dyr.2) d_M_lay_172 cd_M_nextDay lk_M_126 im_M_nextDay se_M_nextDay (go rfl rfl rfl) rfl rfl (by decide) (st := []) rfl rfl (Nat.le_of_ble_eq_true rfl) ⟨by decide, Nat.le_refl _, Nat.le_refl _⟩ (fun _ _ hq => ?_)
              obtain ⟨rfl, rfl⟩ := hq
              show sx_V _ _ _ _ (0, 0) _ _ [.inl (Dd M (Bd M dy + 1))] (gm (sx_u (sx_u M2 75 (Int.toNat ((201 * (sl : Int)) + ((M (14 + w) 2) + (i : Int)))) ((dy * (M (14 + w) 4)) + ((Int.tmod ((i : Int) - 1) (M (14 + w) 4)) + 1))) 76 (Int.toNat ((201 * (sl : Int)) + ((M (14 + w) 2) + (i : Int)))) ((dy * (M (14 + w) 4)) + ((Int.tmod ((i : Int) - 1) (M (14 + w) 4)) + 1)))) _
              refine sx_istore (l' := [some (sx_p 51), some (.inl (sl : Int)), some (.inl (w : Int)), some (.inl s), some (.inl d), some (.inl (M (14 + w) 4)), some (.inl ((M (14 + w) 3) - (M (14 + w) 2))), some (.inl (Dd M (Bd M dy + 1))), some (.inl (i : Int)), some (.inl ((201 * (sl : Int)) + ((M (14 + w) 2) + (i : Int)))), some (.inl ((Int.tmod ((i : Int) - 1) (M (14 + w) 4)) + 1))]) d_M_lay_175 (by decide) rfl rfl ?_
              refine sx_aload_n d_M_lay_177 rfl ?_
              refine sx_getR (r := some (76)) d_M_lay_178 fl_M_83 (go rfl rfl rfl) (by decide) (by decide) (by decide) rfl ?_
              refine sx_iload d_M_lay_181 rfl ?_
              refine sx_iload d_M_lay_183 rfl ?_
              refine sx_iload d_M_lay_185 rfl ?_
              refine sx_imul d_M_lay_187 ?_
              refine sx_iast (h2 := gm (sx_u (sx_u (sx_u M2 75 (Int.toNat ((201 * (sl : Int)) + ((M (14 + w) 2) + (i : Int)))) ((dy * (M (14 + w) 4)) + ((Int.tmod ((i : Int) - 1) (M (14 + w) 4)) + 1))) 76 (Int.toNat ((201 * (sl : Int)) + ((M (14 + w) 2) + (i : Int)))) ((dy * (M (14 + w) 4)) + ((Int.tmod ((i : Int) - 1) (M (14 + w) 4)) + 1))) 76 (Int.toNat ((201 * (sl : Int)) + ((M (14 + w) 2) + (i : Int)))) ((Dd M (Bd M dy + 1)) * (M (14 + w) 4)))) d_M_lay_188 (go rfl rfl rfl) (by omega) (by omega) (by decide) rfl ?_
              refine sx_iinc (l' := [some (sx_p 51), some (.inl (sl : Int)), some (.inl (w : Int)), some (.inl s), some (.inl d), some (.inl (M (14 + w) 4)), some (.inl ((M (14 + w) 3) - (M (14 + w) 2))), some (.inl (Dd M (Bd M dy + 1))), some (.inl ((i : Int) + 1)), some (.inl ((201 * (sl : Int)) + ((M (14 + w) 2) + (i : Int)))), some (.inl ((Int.tmod ((i : Int) - 1) (M (14 + w) 4)) + 1))]) d_M_lay_189 rfl (by decide) rfl rfl ?_
              refine sx_goto (tgt := 44) d_M_lay_192 (by decide) ?_
              have e1 : ((i : Int) + 1) = ((i + 1 : Nat) : Int) := by omega
              have hA : (Int.toNat ((201 * (sl : Int)) + ((M (14 + w) 2) + (i : Int)))) = 201 * sl + (pl M w d i).toNat := by (unfold pl; rw [if_pos (by omega)]; omega)
              rw [e1, hA]
              have plr := pl_r hW (d := d) (j := i) (by omega)
              have hX : ((dy * (M (14 + w) 4)) + ((Int.tmod ((i : Int) - 1) (M (14 + w) 4)) + 1)) = pT M w s d (pl M w d i) 0 := by (rw [pT_a (by omega), tq, hdy.2.1 (by omega) (by omega)])
              rw [sx_uu]
              have hda := hD_a hW (by omega) (by omega) hdy (by omega)
              have hY : ((Dd M (Bd M dy + 1)) * (M (14 + w) 4)) = pT M w s d (pl M w d i) 1 := by (rw [pT_l hW.2.2.2.1 (by omega), if_pos ⟨by omega, by omega⟩, hda.1])
              have pr0 := (pT_r hW (s := s) (d := d) (p := pl M w d i) (lv := 0) hs (by rw [wx_pl]; omega))
              have pr1 := (pT_r hW (s := s) (d := d) (p := pl M w d i) (lv := 1) hs (by rw [wx_pl]; omega))
              exact ih (i + 1) (Dd M (Bd M dy + 1)) _ _ _ (by omega) (by omega) ((M2f.w (by decide) (by decide) (by omega) (by omega) _).w (by decide) (by decide) (by omega) (by omega) _) ((M2s.u (by decide) _ _).u (by decide) _ _) ((M2R.u _ _ (by omega)).u _ _ (by omega)) (lys_s hW (by omega) hly hX hY) h72 h73 hda.2
        · refine sx_aload_n d_M_lay_90 rfl ?_
          refine sx_getR (r := some (75)) d_M_lay_91 fl_M_80 (go rfl rfl rfl) (by decide) (by decide) (by decide) rfl ?_
          refine sx_iload d_M_lay_94 rfl ?_
          refine sx_iload_n d_M_lay_96 rfl ?_
          refine sx_iload d_M_lay_97 rfl ?_
          refine sx_imul d_M_lay_99 ?_
          refine sx_iast (h2 := gm (sx_u M2 75 (Int.toNat ((201 * (sl : Int)) + ((M (14 + w) 2) + (i : Int)))) (s * (M (14 + w) 4)))) d_M_lay_100 (go rfl rfl rfl) (by omega) (by omega) (by decide) rfl ?_
          refine sx_aload_n d_M_lay_101 rfl ?_
          refine sx_getR (r := some (76)) d_M_lay_102 fl_M_83 (go rfl rfl rfl) (by decide) (by decide) (by decide) rfl ?_
          refine sx_iload d_M_lay_105 rfl ?_
          refine sx_iload_n d_M_lay_107 rfl ?_
          refine sx_iload d_M_lay_108 rfl ?_
          refine sx_imul d_M_lay_110 ?_
          refine sx_iast (h2 := gm (sx_u (sx_u M2 75 (Int.toNat ((201 * (sl : Int)) + ((M (14 + w) 2) + (i : Int)))) (s * (M (14 + w) 4))) 76 (Int.toNat ((201 * (sl : Int)) + ((M (14 + w) 2) + (i : Int)))) (s * (M (14 + w) 4)))) d_M_lay_111 (go rfl rfl rfl) (by omega) (by omega) (by decide) rfl ?_
          refine sx_goto (tgt := 189) d_M_lay_112 (by decide) ?_
          refine sx_iinc (l' := [some (sx_p 51), some (.inl (sl : Int)), some (.inl (w : Int)), some (.inl s), some (.inl d), some (.inl (M (14 + w) 4)), some (.inl ((M (14 + w) 3) - (M (14 + w) 2))), some (.inl dy), some (.inl ((i : Int) + 1)), some (.inl ((201 * (sl : Int)) + ((M (14 + w) 2) + (i : Int)))), x10]) d_M_lay_189 rfl (by decide) rfl rfl ?_
          refine sx_goto (tgt := 44) d_M_lay_192 (by decide) ?_
          have e1 : ((i : Int) + 1) = ((i + 1 : Nat) : Int) := by omega
          have hA : (Int.toNat ((201 * (sl : Int)) + ((M (14 + w) 2) + (i : Int)))) = 201 * sl + (pl M w d i).toNat := by (unfold pl; rw [if_pos (by omega)]; omega)
          rw [e1, hA]
          have i0 : i = 0 := by omega
          have hX : (s * (M (14 + w) 4)) = pT M w s d (pl M w d i) 0 := by (rw [i0, pT_0 hs.1 hsw])
          have hY : (s * (M (14 + w) 4)) = pT M w s d (pl M w d i) 1 := by (rw [i0, pT_0 hs.1 hsw])
          have pr0 := (pT_r hW (s := s) (d := d) (p := pl M w d i) (lv := 0) hs (by rw [wx_pl]; omega))
          have pr1 := (pT_r hW (s := s) (d := d) (p := pl M w d i) (lv := 1) hs (by rw [wx_pl]; omega))
          exact ih (i + 1) dy _ _ _ (by omega) (by omega) ((M2f.w (by decide) (by decide) (by omega) (by omega) _).w (by decide) (by decide) (by omega) (by omega) _) ((M2s.u (by decide) _ _).u (by decide) _ _) ((M2R.u _ _ (by omega)).u _ _ (by omega)) (lys_s hW (by omega) hly hX hY) h72 h73 (by subst i0; rw [hdy.1 rfl]; exact hD_1 hW hs.1 hsw)
set_option maxRecDepth 100000 in
set_option maxHeartbeats 4000000 in
theorem c_M_lay {L : Nat} {xs : Nat → Int32} (M : Nat → Nat → Int) (nc nw nb : Nat) (hM : MR M nc nw nb) (M1 : Nat → Nat → Int) (M1s : sf M M1) (M1R : IR M1) (sl : Nat) (hsl : sl < 7) (w : Nat) (hw : w < nw) (s d : Int) (hs : 0 ≤ s ∧ s ≤ 1000) (hsw : dr M s.toNat = false) (hd01 : d = 0 ∨ d = 1) : sx_R y_M_lay (2, 0, 0) L xs [sx_p 51, .inl (sl : Int), .inl (w : Int), .inl s, .inl d] (gm M1) (fun v h2 => v = none ∧ ∃ M3, h2 = gm M3 ∧ lyf sl M1 M3 ∧ IR M3 ∧ sf M M3 ∧ laid M w sl s d M3) := by
  have hW := (hM.ws w hw).1
  obtain ⟨a1, a2, a3, a4, a5, a6⟩ := id hW
  have w6 := hM.w6
  refine sx_enter rfl (Nat.le_of_ble_eq_true rfl) rfl ?_
  show sx_V y_M_lay (2, 0, 0) L xs (0, 0) 0 [some (sx_p 51), some (.inl (sl : Int)), some (.inl (w : Int)), some (.inl s), some (.inl d), none, none, none, none, none, none] [] (gm M1) _
  refine sx_aload_n d_M_lay_0 rfl ?_
  refine sx_getR (r := some (56)) d_M_lay_1 fl_M_22 (go rfl rfl rfl) (by decide) (by decide) (by decide) rfl ?_
  refine sx_iload_n d_M_lay_4 rfl ?_
  refine sx_iald (z := (M (14 + w) 4)) d_M_lay_5 (go rfl rfl rfl) (by omega) (by omega) (by decide) ((M1s 56 w (by decide) (by decide) (by omega)).trans (hM.msp w (by omega))) ?_
  refine sx_istore (l' := [some (sx_p 51), some (.inl (sl : Int)), some (.inl (w : Int)), some (.inl s), some (.inl d), some (.inl (M (14 + w) 4)), none, none, none, none, none]) d_M_lay_6 (by decide) rfl rfl ?_
  refine sx_aload_n d_M_lay_8 rfl ?_
  refine sx_getR (r := some (55)) d_M_lay_9 fl_M_19 (go rfl rfl rfl) (by decide) (by decide) (by decide) rfl ?_
  refine sx_iload_n d_M_lay_12 rfl ?_
  refine sx_iald (z := (M (14 + w) 3)) d_M_lay_13 (go rfl rfl rfl) (by omega) (by omega) (by decide) ((M1s 55 w (by decide) (by decide) (by omega)).trans (hM.mto w (by omega))) ?_
  refine sx_aload_n d_M_lay_14 rfl ?_
  refine sx_getR (r := some (54)) d_M_lay_15 fl_M_16 (go rfl rfl rfl) (by decide) (by decide) (by decide) rfl ?_
  refine sx_iload_n d_M_lay_18 rfl ?_
  refine sx_iald (z := (M (14 + w) 2)) d_M_lay_19 (go rfl rfl rfl) (by omega) (by omega) (by decide) ((M1s 54 w (by decide) (by decide) (by omega)).trans (hM.mfr w (by omega))) ?_
  refine sx_isub d_M_lay_20 ?_
  refine sx_istore (l' := [some (sx_p 51), some (.inl (sl : Int)), some (.inl (w : Int)), some (.inl s), some (.inl d), some (.inl (M (14 + w) 4)), some (.inl ((M (14 + w) 3) - (M (14 + w) 2))), none, none, none, none]) d_M_lay_21 (by decide) rfl rfl ?_
  refine sx_iload_n d_M_lay_23 rfl ?_
  refine sx_istore (l' := [some (sx_p 51), some (.inl (sl : Int)), some (.inl (w : Int)), some (.inl s), some (.inl d), some (.inl (M (14 + w) 4)), some (.inl ((M (14 + w) 3) - (M (14 + w) 2))), some (.inl s), none, none, none]) d_M_lay_24 (by decide) rfl rfl ?_
  refine sx_aload_n d_M_lay_26 rfl ?_
  refine sx_getR (r := some (72)) d_M_lay_27 fl_M_71 (go rfl rfl rfl) (by decide) (by decide) (by decide) rfl ?_
  refine sx_iload_n d_M_lay_30 rfl ?_
  refine sx_iload_n d_M_lay_31 rfl ?_
  refine sx_iast (h2 := gm (sx_u M1 72 sl s)) d_M_lay_32 (go rfl rfl rfl) (by omega) (by omega) (by decide) rfl ?_
  refine sx_aload_n d_M_lay_33 rfl ?_
  refine sx_getR (r := some (73)) d_M_lay_34 fl_M_74 (go rfl rfl rfl) (by decide) (by decide) (by decide) rfl ?_
  refine sx_iload_n d_M_lay_37 rfl ?_
  refine sx_iload d_M_lay_38 rfl ?_
  refine sx_iast (h2 := gm (sx_u (sx_u M1 72 sl s) 73 sl d)) d_M_lay_40 (go rfl rfl rfl) (by omega) (by omega) (by decide) rfl ?_
  refine sx_iconst d_M_lay_41 ?_
  refine sx_istore (l' := [some (sx_p 51), some (.inl (sl : Int)), some (.inl (w : Int)), some (.inl s), some (.inl d), some (.inl (M (14 + w) 4)), some (.inl ((M (14 + w) 3) - (M (14 + w) 2))), some (.inl s), some (.inl 0), none, none]) d_M_lay_42 (by decide) rfl rfl ?_
  exact l_M_lay M nc nw nb hM M1 M1s sl hsl w hw s d hs hsw hd01 hW 203 0 s none none _ (by omega) (by omega) ((show lyf sl M1 M1 from ⟨fun _ _ _ => rfl, fun _ _ _ _ _ => rfl, fun _ _ _ _ _ => rfl⟩).v (by decide) (by decide) _ |>.v (by decide) (by decide) _) ((M1s.u (by decide) _ _).u (by decide) _ _) ((M1R.u _ _ (by omega)).u _ _ (by omega)) (fun j hj => absurd hj (Nat.not_lt_zero _)) (by rw [sx_u_ne (by decide), sx_us]) (by rw [sx_us]) ⟨fun _ => rfl, fun q => absurd q (by omega), fun q => absurd q (by omega)⟩
