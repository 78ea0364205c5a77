set_option maxRecDepth 100000 in
set_option maxHeartbeats 4000000 in
theorem l_R_kG {L : Nat} {xs : Nat → Int32} (M : Nat → Nat → Int) (hI : IDy M) (hR : IR M) (u : Nat) (ho : ∀ M, sx_o (gm M) u 6 2) (hu0 : 20 < u) (pa pb pc : Nat) (hpa : ∀ M, sx_o (gm M) pa 2 2) (hpb : ∀ M, sx_o (gm M) pb 100 6) (hpc : ∀ M, sx_o (gm M) pc 100 6) (hab : ∀ M, (gm M).2.2.2 pa 0 = some pb) (hac : ∀ M, (gm M).2.2.2 pa 1 = some pc) (hub : pb ≠ u) (huc : pc ≠ u) (o w : Nat) (ho6 : o < 6) (hw : w < 6) (hO : IW M o) (hW : IW M w) (way : Int) (hway : sx_r way) (hso : 0 ≤ M pb o ∧ M pb o ≤ 1000) (hg1 : -1 ≤ M 9 (6 * o + w) ∧ M 9 (6 * o + w) ≤ 30) (hg2 : -1 ≤ M 9 (6 * w + o) ∧ M 9 (6 * w + o) ≤ 30) (M0 : Nat → Nat → Int) : ∀ (n : Nat) (p : Int) (M1 : Nat → Nat → Int) (l12 l13 : Option sx_v), (lA M o w + 1 - p).toNat < n → fI M o w ≤ p → (p ≤ fI M o w ∨ p ≤ lA M o w + 1) → fr u M M1 → IR M1 → (∀ n, M1 u 0 ≤ n ↔ M0 u 0 ≤ n ∧ (M 9 (6 * o + w) = -1 ∨ ∀ q, fI M o w ≤ q → q < p → gL M pb pc o w way q ≤ n)) → (∀ n, n ≤ M1 u 1 ↔ n ≤ M0 u 1 ∧ (M 9 (6 * w + o) = -1 ∨ ∀ q, fI M o w ≤ q → q < p → n ≤ gG M pb pc o w way q)) → sx_V y_R_keepGaps (2, 0, 0) L xs (0, 0) 87 [some (sx_p 20), some (sx_p u), some (sx_p pa), some (.inl (o : Int)), some (.inl (w : Int)), some (.inl way), some (.inl (M 9 (6 * o + w))), some (.inl (M 9 (6 * w + o))), some (sx_p (14 + w)), some (.inl (M (14 + o) 4)), some (.inl (lA M o w)), some (.inl p), l12, l13] [] (gm M1) (fun v h2 => v = none ∧ ∃ M2, h2 = gm M2 ∧ fr u M M2 ∧ IR M2 ∧ (∀ n, M2 u 0 ≤ n ↔ M0 u 0 ≤ n ∧ kL M pb pc o w way n) ∧ (∀ n, n ≤ M2 u 1 ↔ n ≤ M0 u 1 ∧ kG M pb pc o w way n)) := by
  have lar : sx_r (lA M o w) := by unfold lA; split <;> exact hR _ _
  have f200 : fI M o w ≤ 200 ∧ lA M o w ≤ 200 := by obtain ⟨a1, a2, a3, a4, a5, a6⟩ := hW; obtain ⟨b1, b2, b3, b4, b5, b6⟩ := hO; unfold fI lA; constructor <;> split <;> omega
  intro n
  induction n with
  | zero => intro p M1 l12 l13 h1 h2; omega
  | succ n ih =>
    intro p M1 l12 l13 hn hp1 hp2 M1f M1R M10 M11
    refine sx_iload d_R_keepGaps_87 rfl ?_
    refine sx_iload d_R_keepGaps_89 rfl ?_
    refine sx_icmp_gt (tgt := 195) d_R_keepGaps_91 (by decide) ⟨by have := (fI_le hp1).2; have := hW.1; omega, by omega⟩ lar (fun c91_12 => ?_) (fun c91_12 => ?_)
    · refine sx_retV d_R_keepGaps_195 rfl ⟨by decide, by decide⟩ ?_
      refine ⟨rfl, _, rfl, M1f, M1R, fun n2 => ?_, fun n2 => ?_⟩
      · rw [M10 n2]; exact ⟨fun k => ⟨k.1, k.2.imp id (fun k2 q a1 a2 => k2 q a1 (by omega))⟩, fun k => ⟨k.1, k.2.imp id (fun k2 q a1 a2 => k2 q a1 (by omega))⟩⟩
      · rw [M11 n2]; exact ⟨fun k => ⟨k.1, k.2.imp id (fun k2 q a1 a2 => k2 q a1 (by omega))⟩, fun k => ⟨k.1, k.2.imp id (fun k2 q a1 a2 => k2 q a1 (by omega))⟩⟩
    · refine sx_aload d_R_keepGaps_94 rfl ?_
      refine sx_iload d_R_keepGaps_96 rfl ?_
      refine sx_iload d_R_keepGaps_98 rfl ?_
      refine sx_callV (by have q := c_K_wayTo (L := L) (xs := xs) M1 w hw p way hway; simp only [fr_wk M1f hu0 hw] at q; exact q) d_R_keepGaps_100 cd_K_wayTo lk_R_94 im_K_wayTo se_K_wayTo (go_w _ (by omega)) rfl rfl (by decide) (st := []) rfl rfl (Nat.le_of_ble_eq_true rfl) ⟨by decide, by decide, by decide⟩ (fun _ _ hq => ?_)
      obtain ⟨rfl, rfl⟩ := hq
      show sx_V _ _ _ _ (0, 0) _ _ [.inl (wx M w p way)] (gm M1) _
      refine sx_istore (l' := [some (sx_p 20), some (sx_p u), some (sx_p pa), some (.inl (o : Int)), some (.inl (w : Int)), some (.inl way), some (.inl (M 9 (6 * o + w))), some (.inl (M 9 (6 * w + o))), some (sx_p (14 + w)), some (.inl (M (14 + o) 4)), some (.inl (lA M o w)), some (.inl p), some (.inl (wx M w p way)), l13]) d_R_keepGaps_103 (by decide) rfl rfl ?_
      refine sx_iload d_R_keepGaps_105 rfl ?_
      refine sx_iconst d_R_keepGaps_107 ?_
      refine sx_icmp_eq (tgt := 147) d_R_keepGaps_108 (by decide) (by omega) ⟨by decide, by decide⟩ (fun c108_26 => ?_) (fun c108_26 => ?_)
      · refine sx_iload d_R_keepGaps_147 rfl ?_
        refine sx_iconst d_R_keepGaps_149 ?_
        refine sx_icmp_eq (tgt := 189) d_R_keepGaps_150 (by decide) (by omega) ⟨by decide, by decide⟩ (fun c150_29 => ?_) (fun c150_29 => ?_)
        · refine sx_iinc (l' := [some (sx_p 20), some (sx_p u), some (sx_p pa), some (.inl (o : Int)), some (.inl (w : Int)), some (.inl way), some (.inl (M 9 (6 * o + w))), some (.inl (M 9 (6 * w + o))), some (sx_p (14 + w)), some (.inl (M (14 + o) 4)), some (.inl (lA M o w)), some (.inl (p + 1)), some (.inl (wx M w p way)), l13]) d_R_keepGaps_189 rfl (by decide) rfl rfl ?_
          refine sx_goto (tgt := 87) d_R_keepGaps_192 (by decide) ?_
          refine ih (p + 1) _ _ _ (by omega) (by omega) (by omega) M1f M1R (fun n2 => ?_) (fun n2 => ?_)
          · rw [M10 n2]
            exact ⟨fun k => ⟨k.1, Or.inl (by omega)⟩, fun k => ⟨k.1, Or.inl (by omega)⟩⟩
          · rw [M11 n2]
            exact ⟨fun k => ⟨k.1, Or.inl (by omega)⟩, fun k => ⟨k.1, Or.inl (by omega)⟩⟩
        · refine sx_aload_n d_R_keepGaps_153 rfl ?_
          refine sx_getR (r := some (2)) d_R_keepGaps_154 fl_R_18 (go rfl rfl rfl) (by decide) (by decide) (by decide) rfl ?_
          refine sx_iload_n d_R_keepGaps_157 rfl ?_
          refine sx_aload_n d_R_keepGaps_158 rfl ?_
          refine sx_iload d_R_keepGaps_159 rfl ?_
          refine sx_iconst d_R_keepGaps_161 ?_
          refine sx_callV (x_L_passTime (M := M) M1f hu0 hI M1R pa pb pc hpa hpb hpc hab hac hub huc o ho6 hO p 0 ⟨by decide, by decide⟩ hso (wx_in hO (fI_le hp1).1 (lA_le (by omega)).1)) d_R_keepGaps_162 cd_L_passTime lk_R_116 im_L_passTime se_L_passTime (go rfl rfl rfl) rfl rfl (by decide) (st := []) rfl rfl (Nat.le_of_ble_eq_true rfl) ⟨by decide, by decide, by decide⟩ (fun _ _ hq => ?_)
          obtain ⟨rfl, rfl⟩ := hq
          show sx_V _ _ _ _ (0, 0) _ _ [.inl (pT M o (M pb o) (M pc o) p 0)] (gm M1) _
          refine sx_iload d_R_keepGaps_165 rfl ?_
          refine sx_iload d_R_keepGaps_167 rfl ?_
          refine sx_imul d_R_keepGaps_169 ?_
          refine sx_isub d_R_keepGaps_170 ?_
          refine sx_istore (l' := [some (sx_p 20), some (sx_p u), some (sx_p pa), some (.inl (o : Int)), some (.inl (w : Int)), some (.inl way), some (.inl (M 9 (6 * o + w))), some (.inl (M 9 (6 * w + o))), some (sx_p (14 + w)), some (.inl (M (14 + o) 4)), some (.inl (lA M o w)), some (.inl p), some (.inl (wx M w p way)), some (.inl ((pT M o (M pb o) (M pc o) p 0) - ((M 9 (6 * w + o)) * (M (14 + o) 4))))]) d_R_keepGaps_171 (by decide) rfl rfl ?_
          refine sx_aload_n d_R_keepGaps_173 rfl ?_
          refine sx_aload_n d_R_keepGaps_174 rfl ?_
          refine sx_aload d_R_keepGaps_175 rfl ?_
          refine sx_iload d_R_keepGaps_177 rfl ?_
          refine sx_iload d_R_keepGaps_179 rfl ?_
          refine sx_iload d_R_keepGaps_181 rfl ?_
          refine sx_callV (x_R_lS (M := M) M1f hu0 hI M1R w hw hW (wx M w p way) ((pT M o (M pb o) (M pc o) p 0) - ((M 9 (6 * w + o)) * (M (14 + o) 4))) (M (14 + o) 4) (wx_in hW (fI_le hp1).2 (lA_le (by omega)).2) ⟨hO.2.2.2.1, hO.2.2.2.2.1⟩ (up_r hO hso (fI_le hp1).1 (lA_le (by omega)).1 hg2).2) d_R_keepGaps_183 cd_R_lastStart lk_R_120 im_R_lastStart se_R_lastStart (go rfl rfl rfl) rfl rfl (by decide) (st := [sx_p u]) rfl rfl (Nat.le_of_ble_eq_true rfl) ⟨by decide, by decide, by decide⟩ (fun _ _ hq => ?_)
          obtain ⟨rfl, rfl⟩ := hq
          show sx_V _ _ _ _ (0, 0) _ _ [.inl (lS M w (wx M w p way) ((pT M o (M pb o) (M pc o) p 0) - ((M 9 (6 * w + o)) * (M (14 + o) 4))) (M (14 + o) 4)), sx_p u] (gm M1) _
          have fq := (fS_r hW (x := (wx M w p way)) (up := ((pT M o (M pb o) (M pc o) p 0) - ((M 9 (6 * w + o)) * (M (14 + o) 4)))) (lo := (M (14 + o) 4)) (wx_in hW (fI_le hp1).2 (lA_le (by omega)).2) ⟨hO.2.2.2.1, hO.2.2.2.2.1⟩ (up_r hO hso (fI_le hp1).1 (lA_le (by omega)).1 hg2).2).2
          refine sx_callV (x_W_lower (M := M) M1f M1R ho (lS M w (wx M w p way) ((pT M o (M pb o) (M pc o) p 0) - ((M 9 (6 * w + o)) * (M (14 + o) 4))) (M (14 + o) 4)) fq) d_R_keepGaps_186 cd_W_lowerGreatest lk_R_123 im_W_lowerGreatest se_W_lowerGreatest (ho _) rfl rfl (by decide) (st := []) rfl rfl (Nat.le_of_ble_eq_true rfl) ⟨by decide, by decide, by decide⟩ (fun _ _ hq => ?_)
          obtain ⟨rfl, m4, rfl, m4f, m4R, m41, m40⟩ := hq
          show sx_V _ _ _ _ (0, 0) _ _ [] (gm m4) _
          refine sx_iinc (l' := [some (sx_p 20), some (sx_p u), some (sx_p pa), some (.inl (o : Int)), some (.inl (w : Int)), some (.inl way), some (.inl (M 9 (6 * o + w))), some (.inl (M 9 (6 * w + o))), some (sx_p (14 + w)), some (.inl (M (14 + o) 4)), some (.inl (lA M o w)), some (.inl (p + 1)), some (.inl (wx M w p way)), some (.inl ((pT M o (M pb o) (M pc o) p 0) - ((M 9 (6 * w + o)) * (M (14 + o) 4))))]) d_R_keepGaps_189 rfl (by decide) rfl rfl ?_
          refine sx_goto (tgt := 87) d_R_keepGaps_192 (by decide) ?_
          refine ih (p + 1) _ _ _ (by omega) (by omega) (by omega) m4f m4R (fun n2 => ?_) (fun n2 => ?_)
          · rw [m40, M10 n2]
            exact ⟨fun k => ⟨k.1, Or.inl (by omega)⟩, fun k => ⟨k.1, Or.inl (by omega)⟩⟩
          · rw [m41 n2, M11 n2]
            constructor
            · rintro ⟨⟨k1, k2⟩, k3⟩; exact ⟨k1, Or.inr fun q a1 a2 => by rcases Int.lt_or_le q p with z | z; (rcases k2 with k2 | k2; omega; exact k2 q a1 z); (rw [show q = p by omega]; exact k3)⟩
            · rintro ⟨k1, k2⟩; rcases k2 with k2 | k2; omega; exact ⟨⟨k1, Or.inr fun q a1 a2 => k2 q a1 (by omega)⟩, k2 p hp1 (by omega)⟩
      · refine sx_aload_n d_R_keepGaps_111 rfl ?_
        refine sx_getR (r := some (2)) d_R_keepGaps_112 fl_R_18 (go rfl rfl rfl) (by decide) (by decide) (by decide) rfl ?_
        refine sx_iload_n d_R_keepGaps_115 rfl ?_
        refine sx_aload_n d_R_keepGaps_116 rfl ?_
        refine sx_iload d_R_keepGaps_117 rfl ?_
        refine sx_iconst d_R_keepGaps_119 ?_
        refine sx_callV (x_L_passTime (M := M) M1f hu0 hI M1R pa pb pc hpa hpb hpc hab hac hub huc o ho6 hO p 1 ⟨by decide, by decide⟩ hso (wx_in hO (fI_le hp1).1 (lA_le (by omega)).1)) d_R_keepGaps_120 cd_L_passTime lk_R_116 im_L_passTime se_L_passTime (go rfl rfl rfl) rfl rfl (by decide) (st := []) rfl rfl (Nat.le_of_ble_eq_true rfl) ⟨by decide, by decide, by decide⟩ (fun _ _ hq => ?_)
        obtain ⟨rfl, rfl⟩ := hq
        show sx_V _ _ _ _ (0, 0) _ _ [.inl (pT M o (M pb o) (M pc o) p 1)] (gm M1) _
        refine sx_iload d_R_keepGaps_123 rfl ?_
        refine sx_iload d_R_keepGaps_125 rfl ?_
        refine sx_imul d_R_keepGaps_127 ?_
        refine sx_iadd d_R_keepGaps_128 ?_
        refine sx_istore (l' := [some (sx_p 20), some (sx_p u), some (sx_p pa), some (.inl (o : Int)), some (.inl (w : Int)), some (.inl way), some (.inl (M 9 (6 * o + w))), some (.inl (M 9 (6 * w + o))), some (sx_p (14 + w)), some (.inl (M (14 + o) 4)), some (.inl (lA M o w)), some (.inl p), some (.inl (wx M w p way)), some (.inl ((pT M o (M pb o) (M pc o) p 1) + ((M 9 (6 * o + w)) * (M (14 + o) 4))))]) d_R_keepGaps_129 (by decide) rfl rfl ?_
        refine sx_aload_n d_R_keepGaps_131 rfl ?_
        refine sx_aload_n d_R_keepGaps_132 rfl ?_
        refine sx_aload d_R_keepGaps_133 rfl ?_
        refine sx_iload d_R_keepGaps_135 rfl ?_
        refine sx_iload d_R_keepGaps_137 rfl ?_
        refine sx_iload d_R_keepGaps_139 rfl ?_
        refine sx_callV (x_R_fS (M := M) M1f hu0 hI M1R w hw hW (wx M w p way) ((pT M o (M pb o) (M pc o) p 1) + ((M 9 (6 * o + w)) * (M (14 + o) 4))) (M (14 + o) 4) (wx_in hW (fI_le hp1).2 (lA_le (by omega)).2) ⟨hO.2.2.2.1, hO.2.2.2.2.1⟩ (up_r hO hso (fI_le hp1).1 (lA_le (by omega)).1 hg1).1) d_R_keepGaps_141 cd_R_firstStart lk_R_100 im_R_firstStart se_R_firstStart (go rfl rfl rfl) rfl rfl (by decide) (st := [sx_p u]) rfl rfl (Nat.le_of_ble_eq_true rfl) ⟨by decide, by decide, by decide⟩ (fun _ _ hq => ?_)
        obtain ⟨rfl, rfl⟩ := hq
        show sx_V _ _ _ _ (0, 0) _ _ [.inl (fS M w (wx M w p way) ((pT M o (M pb o) (M pc o) p 1) + ((M 9 (6 * o + w)) * (M (14 + o) 4))) (M (14 + o) 4)), sx_p u] (gm M1) _
        have fq := (fS_r hW (x := (wx M w p way)) (up := ((pT M o (M pb o) (M pc o) p 1) + ((M 9 (6 * o + w)) * (M (14 + o) 4)))) (lo := (M (14 + o) 4)) (wx_in hW (fI_le hp1).2 (lA_le (by omega)).2) ⟨hO.2.2.2.1, hO.2.2.2.2.1⟩ (up_r hO hso (fI_le hp1).1 (lA_le (by omega)).1 hg1).1).1
        refine sx_callV (x_W_raise (M := M) M1f M1R ho (fS M w (wx M w p way) ((pT M o (M pb o) (M pc o) p 1) + ((M 9 (6 * o + w)) * (M (14 + o) 4))) (M (14 + o) 4)) fq) d_R_keepGaps_144 cd_W_raiseLeast lk_R_80 im_W_raiseLeast se_W_raiseLeast (ho _) rfl rfl (by decide) (st := []) rfl rfl (Nat.le_of_ble_eq_true rfl) ⟨by decide, by decide, by decide⟩ (fun _ _ hq => ?_)
        obtain ⟨rfl, m5, rfl, m5f, m5R, m50, m51⟩ := hq
        show sx_V _ _ _ _ (0, 0) _ _ [] (gm m5) _
        refine sx_iload d_R_keepGaps_147 rfl ?_
        refine sx_iconst d_R_keepGaps_149 ?_
        refine sx_icmp_eq (tgt := 189) d_R_keepGaps_150 (by decide) (by omega) ⟨by decide, by decide⟩ (fun c150_102 => ?_) (fun c150_102 => ?_)
        · refine sx_iinc (l' := [some (sx_p 20), some (sx_p u), some (sx_p pa), some (.inl (o : Int)), some (.inl (w : Int)), some (.inl way), some (.inl (M 9 (6 * o + w))), some (.inl (M 9 (6 * w + o))), some (sx_p (14 + w)), some (.inl (M (14 + o) 4)), some (.inl (lA M o w)), some (.inl (p + 1)), some (.inl (wx M w p way)), some (.inl ((pT M o (M pb o) (M pc o) p 1) + ((M 9 (6 * o + w)) * (M (14 + o) 4))))]) d_R_keepGaps_189 rfl (by decide) rfl rfl ?_
          refine sx_goto (tgt := 87) d_R_keepGaps_192 (by decide) ?_
          refine ih (p + 1) _ _ _ (by omega) (by omega) (by omega) m5f m5R (fun n2 => ?_) (fun n2 => ?_)
          · rw [m50 n2, M10 n2]
            constructor
            · rintro ⟨⟨k1, k2⟩, k3⟩; exact ⟨k1, Or.inr fun q a1 a2 => by rcases Int.lt_or_le q p with z | z; (rcases k2 with k2 | k2; omega; exact k2 q a1 z); (rw [show q = p by omega]; exact k3)⟩
            · rintro ⟨k1, k2⟩; rcases k2 with k2 | k2; omega; exact ⟨⟨k1, Or.inr fun q a1 a2 => k2 q a1 (by omega)⟩, k2 p hp1 (by omega)⟩
          · rw [m51, M11 n2]
            exact ⟨fun k => ⟨k.1, Or.inl (by omega)⟩, fun k => ⟨k.1, Or.inl (by omega)⟩⟩
        · refine sx_aload_n d_R_keepGaps_153 rfl ?_
          refine sx_getR (r := some (2)) d_R_keepGaps_154 fl_R_18 (go rfl rfl rfl) (by decide) (by decide) (by decide) rfl ?_
          refine sx_iload_n d_R_keepGaps_157 rfl ?_
          refine sx_aload_n d_R_keepGaps_158 rfl ?_
          refine sx_iload d_R_keepGaps_159 rfl ?_
          refine sx_iconst d_R_keepGaps_161 ?_
          refine sx_callV (x_L_passTime (M := M) m5f hu0 hI m5R pa pb pc hpa hpb hpc hab hac hub huc o ho6 hO p 0 ⟨by decide, by decide⟩ hso (wx_in hO (fI_le hp1).1 (lA_le (by omega)).1)) d_R_keepGaps_162 cd_L_passTime lk_R_116 im_L_passTime se_L_passTime (go rfl rfl rfl) rfl rfl (by decide) (st := []) rfl rfl (Nat.le_of_ble_eq_true rfl) ⟨by decide, by decide, by decide⟩ (fun _ _ hq => ?_)
          obtain ⟨rfl, rfl⟩ := hq
          show sx_V _ _ _ _ (0, 0) _ _ [.inl (pT M o (M pb o) (M pc o) p 0)] (gm m5) _
          refine sx_iload d_R_keepGaps_165 rfl ?_
          refine sx_iload d_R_keepGaps_167 rfl ?_
          refine sx_imul d_R_keepGaps_169 ?_
          refine sx_isub d_R_keepGaps_170 ?_
          refine sx_istore (l' := [some (sx_p 20), some (sx_p u), some (sx_p pa), some (.inl (o : Int)), some (.inl (w : Int)), some (.inl way), some (.inl (M 9 (6 * o + w))), some (.inl (M 9 (6 * w + o))), some (sx_p (14 + w)), some (.inl (M (14 + o) 4)), some (.inl (lA M o w)), some (.inl p), some (.inl (wx M w p way)), some (.inl ((pT M o (M pb o) (M pc o) p 0) - ((M 9 (6 * w + o)) * (M (14 + o) 4))))]) d_R_keepGaps_171 (by decide) rfl rfl ?_
          refine sx_aload_n d_R_keepGaps_173 rfl ?_
          refine sx_aload_n d_R_keepGaps_174 rfl ?_
          refine sx_aload d_R_keepGaps_175 rfl ?_
          refine sx_iload d_R_keepGaps_177 rfl ?_
          refine sx_iload d_R_keepGaps_179 rfl ?_
          refine sx_iload d_R_keepGaps_181 rfl ?_
          refine sx_callV (x_R_lS (M := M) m5f hu0 hI m5R w hw hW (wx M w p way) ((pT M o (M pb o) (M pc o) p 0) - ((M 9 (6 * w + o)) * (M (14 + o) 4))) (M (14 + o) 4) (wx_in hW (fI_le hp1).2 (lA_le (by omega)).2) ⟨hO.2.2.2.1, hO.2.2.2.2.1⟩ (up_r hO hso (fI_le hp1).1 (lA_le (by omega)).1 hg2).2) d_R_keepGaps_183 cd_R_lastStart lk_R_120 im_R_lastStart se_R_lastStart (go rfl rfl rfl) rfl rfl (by decide) (st := [sx_p u]) rfl rfl (Nat.le_of_ble_eq_true rfl) ⟨by decide, by decide, by decide⟩ (fun _ _ hq => ?_)
          obtain ⟨rfl, rfl⟩ := hq
          show sx_V _ _ _ _ (0, 0) _ _ [.inl (lS M w (wx M w p way) ((pT M o (M pb o) (M pc o) p 0) - ((M 9 (6 * w + o)) * (M (14 + o) 4))) (M (14 + o) 4)), sx_p u] (gm m5) _
          have fq := (fS_r hW (x := (wx M w p way)) (up := ((pT M o (M pb o) (M pc o) p 0) - ((M 9 (6 * w + o)) * (M (14 + o) 4)))) (lo := (M (14 + o) 4)) (wx_in hW (fI_le hp1).2 (lA_le (by omega)).2) ⟨hO.2.2.2.1, hO.2.2.2.2.1⟩ (up_r hO hso (fI_le hp1).1 (lA_le (by omega)).1 hg2).2).2
          refine sx_callV (x_W_lower (M := M) m5f m5R ho (lS M w (wx M w p way) ((pT M o (M pb o) (M pc o) p 0) - ((M 9 (6 * w + o)) * (M (14 + o) 4))) (M (14 + o) 4)) fq) d_R_keepGaps_186 cd_W_lowerGreatest lk_R_123 im_W_lowerGreatest se_W_lowerGreatest (ho _) rfl rfl (by decide) (st := []) rfl rfl (Nat.le_of_ble_eq_true rfl) ⟨by decide, by decide, by decide⟩ (fun _ _ hq => ?_)
          obtain ⟨rfl, m6, rfl, m6f, m6R, m61, m60⟩ := hq
          show sx_V _ _ _ _ (0, 0) _ _ [] (gm m6) _
          refine sx_iinc (l' := [some (sx_p 20), some (sx_p u), some (sx_p pa), some (.inl (o : Int)), some (.inl (w : Int)), some (.inl way), some (.inl (M 9 (6 * o + w))), some (.inl (M 9 (6 * w + o))), some (sx_p (14 + w)), some (.inl (M (14 + o) 4)), some (.inl (lA M o w)), some (.inl (p + 1)), some (.inl (wx M w p way)), some (.inl ((pT M o (M pb o) (M pc o) p 0) - ((M 9 (6 * w + o)) * (M (14 + o) 4))))]) d_R_keepGaps_189 rfl (by decide) rfl rfl ?_
          refine sx_goto (tgt := 87) d_R_keepGaps_192 (by decide) ?_
          refine ih (p + 1) _ _ _ (by omega) (by omega) (by omega) m6f m6R (fun n2 => ?_) (fun n2 => ?_)
          · rw [m60, m50 n2, M10 n2]
            constructor
            · rintro ⟨⟨k1, k2⟩, k3⟩; exact ⟨k1, Or.inr fun q a1 a2 => by rcases Int.lt_or_le q p with z | z; (rcases k2 with k2 | k2; omega; exact k2 q a1 z); (rw [show q = p by omega]; exact k3)⟩
            · rintro ⟨k1, k2⟩; rcases k2 with k2 | k2; omega; exact ⟨⟨k1, Or.inr fun q a1 a2 => k2 q a1 (by omega)⟩, k2 p hp1 (by omega)⟩
          · rw [m61 n2, m51, M11 n2]
            constructor
            · rintro ⟨⟨k1, k2⟩, k3⟩; exact ⟨k1, Or.inr fun q a1 a2 => by rcases Int.lt_or_le q p with z | z; (rcases k2 with k2 | k2; omega; exact k2 q a1 z); (rw [show q = p by omega]; exact k3)⟩
            · rintro ⟨k1, k2⟩; rcases k2 with k2 | k2; omega; exact ⟨⟨k1, Or.inr fun q a1 a2 => k2 q a1 (by omega)⟩, k2 p hp1 (by omega)⟩
set_option maxRecDepth 100000 in
set_option maxHeartbeats 4000000 in
theorem c_R_kG {L : Nat} {xs : Nat → Int32} (M : Nat → Nat → Int) (hI : IDy M) (hR : IR M) (u : Nat) (ho : ∀ M, sx_o (gm M) u 6 2) (hu0 : 20 < u) (pa pb pc : Nat) (hpa : ∀ M, sx_o (gm M) pa 2 2) (hpb : ∀ M, sx_o (gm M) pb 100 6) (hpc : ∀ M, sx_o (gm M) pc 100 6) (hab : ∀ M, (gm M).2.2.2 pa 0 = some pb) (hac : ∀ M, (gm M).2.2.2 pa 1 = some pc) (hub : pb ≠ u) (huc : pc ≠ u) (o w : Nat) (ho6 : o < 6) (hw : w < 6) (hO : IW M o) (hW : IW M w) (way : Int) (hway : sx_r way) (hso : 0 ≤ M pb o ∧ M pb o ≤ 1000) (hg1 : -1 ≤ M 9 (6 * o + w) ∧ M 9 (6 * o + w) ≤ 30) (hg2 : -1 ≤ M 9 (6 * w + o) ∧ M 9 (6 * w + o) ≤ 30) (M0 : Nat → Nat → Int) (M0f : fr u M M0) (M0R : IR M0) : sx_R y_R_keepGaps (2, 0, 0) L xs [sx_p 20, sx_p u, sx_p pa, .inl (o : Int), .inl (w : Int), .inl way] (gm M0) (fun v h2 => v = none ∧ ∃ M2, h2 = gm M2 ∧ fr u M M2 ∧ IR M2 ∧ (∀ n, M2 u 0 ≤ n ↔ M0 u 0 ≤ n ∧ kL M pb pc o w way n) ∧ (∀ n, n ≤ M2 u 1 ↔ n ≤ M0 u 1 ∧ kG M pb pc o w way n)) := by
  refine sx_enter rfl (Nat.le_of_ble_eq_true rfl) rfl ?_
  show sx_V y_R_keepGaps (2, 0, 0) L xs (0, 0) 0 [some (sx_p 20), some (sx_p u), some (sx_p pa), some (.inl (o : Int)), some (.inl (w : Int)), some (.inl way), none, none, none, none, none, none, none, none] [] (gm M0) _
  refine sx_aload_n d_R_keepGaps_0 rfl ?_
  refine sx_getR (r := some (2)) d_R_keepGaps_1 fl_R_18 (go rfl rfl rfl) (by decide) (by decide) (by decide) rfl ?_
  refine sx_iload_n d_R_keepGaps_4 rfl ?_
  refine sx_iload d_R_keepGaps_5 rfl ?_
  refine sx_callV (by have q := c_L_gap (L := L) (xs := xs) M0 o w (by omega) (by omega); rw [M0f 9 _ (by omega)] at q; exact q) d_R_keepGaps_7 cd_L_gapBetween lk_R_104 im_L_gapBetween se_L_gapBetween (go rfl rfl rfl) rfl rfl (by decide) (st := []) rfl rfl (Nat.le_of_ble_eq_true rfl) ⟨by decide, by decide, by decide⟩ (fun _ _ hq => ?_)
  obtain ⟨rfl, rfl⟩ := hq
  show sx_V _ _ _ _ (0, 0) _ _ [.inl (M 9 (6 * o + w))] (gm M0) _
  refine sx_istore (l' := [some (sx_p 20), some (sx_p u), some (sx_p pa), some (.inl (o : Int)), some (.inl (w : Int)), some (.inl way), some (.inl (M 9 (6 * o + w))), none, none, none, none, none, none, none]) d_R_keepGaps_10 (by decide) rfl rfl ?_
  refine sx_aload_n d_R_keepGaps_12 rfl ?_
  refine sx_getR (r := some (2)) d_R_keepGaps_13 fl_R_18 (go rfl rfl rfl) (by decide) (by decide) (by decide) rfl ?_
  refine sx_iload d_R_keepGaps_16 rfl ?_
  refine sx_iload_n d_R_keepGaps_18 rfl ?_
  refine sx_callV (by have q := c_L_gap (L := L) (xs := xs) M0 w o (by omega) (by omega); rw [M0f 9 _ (by omega)] at q; exact q) d_R_keepGaps_19 cd_L_gapBetween lk_R_104 im_L_gapBetween se_L_gapBetween (go rfl rfl rfl) rfl rfl (by decide) (st := []) rfl rfl (Nat.le_of_ble_eq_true rfl) ⟨by decide, by decide, by decide⟩ (fun _ _ hq => ?_)
  obtain ⟨rfl, rfl⟩ := hq
  show sx_V _ _ _ _ (0, 0) _ _ [.inl (M 9 (6 * w + o))] (gm M0) _
  refine sx_istore (l' := [some (sx_p 20), some (sx_p u), some (sx_p pa), some (.inl (o : Int)), some (.inl (w : Int)), some (.inl way), some (.inl (M 9 (6 * o + w))), some (.inl (M 9 (6 * w + o))), none, none, none, none, none, none]) d_R_keepGaps_22 (by decide) rfl rfl ?_
  refine sx_iload d_R_keepGaps_24 rfl ?_
  refine sx_iconst d_R_keepGaps_26 ?_
  refine sx_icmp_ne (tgt := 37) d_R_keepGaps_27 (by decide) (by omega) ⟨by decide, by decide⟩ (fun c27_23 => ?_) (fun c27_23 => ?_)
  · refine sx_aload_n d_R_keepGaps_37 rfl ?_
    refine sx_getR (r := some (2)) d_R_keepGaps_38 fl_R_18 (go rfl rfl rfl) (by decide) (by decide) (by decide) rfl ?_
    refine sx_getR (r := some (8)) d_R_keepGaps_41 fl_R_37 (go rfl rfl rfl) (by decide) (by decide) (by decide) rfl ?_
    refine sx_iload d_R_keepGaps_44 rfl ?_
    refine sx_aald (r := some ((14 + w))) d_R_keepGaps_46 (go rfl rfl rfl) (t := 0) rfl (by omega) (by omega) (by decide) (gr_w _ (by omega)) ?_
    refine sx_astore (l' := [some (sx_p 20), some (sx_p u), some (sx_p pa), some (.inl (o : Int)), some (.inl (w : Int)), some (.inl way), some (.inl (M 9 (6 * o + w))), some (.inl (M 9 (6 * w + o))), some (sx_p (14 + w)), none, none, none, none, none]) d_R_keepGaps_47 (by decide) rfl rfl ?_
    refine sx_aload_n d_R_keepGaps_49 rfl ?_
    refine sx_getR (r := some (2)) d_R_keepGaps_50 fl_R_18 (go rfl rfl rfl) (by decide) (by decide) (by decide) rfl ?_
    refine sx_getR (r := some (8)) d_R_keepGaps_53 fl_R_37 (go rfl rfl rfl) (by decide) (by decide) (by decide) rfl ?_
    refine sx_iload_n d_R_keepGaps_56 rfl ?_
    refine sx_aald (r := some ((14 + o))) d_R_keepGaps_57 (go rfl rfl rfl) (t := 0) rfl (by omega) (by omega) (by decide) (gr_w _ (by omega)) ?_
    refine sx_getI (z := (M (14 + o) 4)) d_R_keepGaps_58 fl_R_107 (go_w _ (by omega)) (by decide) (by decide) (by decide) (M0f (14 + o) 4 (by omega)) ?_
    refine sx_istore (l' := [some (sx_p 20), some (sx_p u), some (sx_p pa), some (.inl (o : Int)), some (.inl (w : Int)), some (.inl way), some (.inl (M 9 (6 * o + w))), some (.inl (M 9 (6 * w + o))), some (sx_p (14 + w)), some (.inl (M (14 + o) 4)), none, none, none, none]) d_R_keepGaps_61 (by decide) rfl rfl ?_
    refine sx_aload_n d_R_keepGaps_63 rfl ?_
    refine sx_getR (r := some (2)) d_R_keepGaps_64 fl_R_18 (go rfl rfl rfl) (by decide) (by decide) (by decide) rfl ?_
    refine sx_iload_n d_R_keepGaps_67 rfl ?_
    refine sx_iload d_R_keepGaps_68 rfl ?_
    refine sx_callV (by have q := c_L_last (L := L) (xs := xs) M0 M0R o w ho6 hw; simp only [fr_wk M0f hu0 ho6, fr_wk M0f hu0 hw] at q; exact q) d_R_keepGaps_70 cd_L_lastShared lk_R_110 im_L_lastShared se_L_lastShared (go rfl rfl rfl) rfl rfl (by decide) (st := []) rfl rfl (Nat.le_of_ble_eq_true rfl) ⟨by decide, by decide, by decide⟩ (fun _ _ hq => ?_)
    obtain ⟨rfl, rfl⟩ := hq
    show sx_V _ _ _ _ (0, 0) _ _ [.inl (lA M o w)] (gm M0) _
    refine sx_istore (l' := [some (sx_p 20), some (sx_p u), some (sx_p pa), some (.inl (o : Int)), some (.inl (w : Int)), some (.inl way), some (.inl (M 9 (6 * o + w))), some (.inl (M 9 (6 * w + o))), some (sx_p (14 + w)), some (.inl (M (14 + o) 4)), some (.inl (lA M o w)), none, none, none]) d_R_keepGaps_73 (by decide) rfl rfl ?_
    refine sx_aload_n d_R_keepGaps_75 rfl ?_
    refine sx_getR (r := some (2)) d_R_keepGaps_76 fl_R_18 (go rfl rfl rfl) (by decide) (by decide) (by decide) rfl ?_
    refine sx_iload_n d_R_keepGaps_79 rfl ?_
    refine sx_iload d_R_keepGaps_80 rfl ?_
    refine sx_callV (by have q := c_L_first (L := L) (xs := xs) M0 M0R o w ho6 hw; simp only [fr_wk M0f hu0 ho6, fr_wk M0f hu0 hw] at q; exact q) d_R_keepGaps_82 cd_L_firstShared lk_R_113 im_L_firstShared se_L_firstShared (go rfl rfl rfl) rfl rfl (by decide) (st := []) rfl rfl (Nat.le_of_ble_eq_true rfl) ⟨by decide, by decide, by decide⟩ (fun _ _ hq => ?_)
    obtain ⟨rfl, rfl⟩ := hq
    show sx_V _ _ _ _ (0, 0) _ _ [.inl (fI M o w)] (gm M0) _
    refine sx_istore (l' := [some (sx_p 20), some (sx_p u), some (sx_p pa), some (.inl (o : Int)), some (.inl (w : Int)), some (.inl way), some (.inl (M 9 (6 * o + w))), some (.inl (M 9 (6 * w + o))), some (sx_p (14 + w)), some (.inl (M (14 + o) 4)), some (.inl (lA M o w)), some (.inl (fI M o w)), none, none]) d_R_keepGaps_85 (by decide) rfl rfl ?_
    refine l_R_kG M hI hR u ho hu0 pa pb pc hpa hpb hpc hab hac hub huc o w ho6 hw hO hW way hway hso hg1 hg2 M0 ((lA M o w + 1 - fI M o w).toNat + 1) _ _ _ _ (by omega) (Int.le_refl _) (Or.inl (Int.le_refl _)) M0f M0R (fun n2 => ?_) (fun n2 => ?_)
    · exact ⟨fun k => ⟨k, Or.inr fun q a1 a2 => absurd a1 (by omega)⟩, fun k => k.1⟩
    · exact ⟨fun k => ⟨k, Or.inr fun q a1 a2 => absurd a1 (by omega)⟩, fun k => k.1⟩
  · refine sx_iload d_R_keepGaps_30 rfl ?_
    refine sx_iconst d_R_keepGaps_32 ?_
    refine sx_icmp_ne (tgt := 37) d_R_keepGaps_33 (by decide) (by omega) ⟨by decide, by decide⟩ (fun c33_58 => ?_) (fun c33_58 => ?_)
    · refine sx_aload_n d_R_keepGaps_37 rfl ?_
      refine sx_getR (r := some (2)) d_R_keepGaps_38 fl_R_18 (go rfl rfl rfl) (by decide) (by decide) (by decide) rfl ?_
      refine sx_getR (r := some (8)) d_R_keepGaps_41 fl_R_37 (go rfl rfl rfl) (by decide) (by decide) (by decide) rfl ?_
      refine sx_iload d_R_keepGaps_44 rfl ?_
      refine sx_aald (r := some ((14 + w))) d_R_keepGaps_46 (go rfl rfl rfl) (t := 0) rfl (by omega) (by omega) (by decide) (gr_w _ (by omega)) ?_
      refine sx_astore (l' := [some (sx_p 20), some (sx_p u), some (sx_p pa), some (.inl (o : Int)), some (.inl (w : Int)), some (.inl way), some (.inl (M 9 (6 * o + w))), some (.inl (M 9 (6 * w + o))), some (sx_p (14 + w)), none, none, none, none, none]) d_R_keepGaps_47 (by decide) rfl rfl ?_
      refine sx_aload_n d_R_keepGaps_49 rfl ?_
      refine sx_getR (r := some (2)) d_R_keepGaps_50 fl_R_18 (go rfl rfl rfl) (by decide) (by decide) (by decide) rfl ?_
      refine sx_getR (r := some (8)) d_R_keepGaps_53 fl_R_37 (go rfl rfl rfl) (by decide) (by decide) (by decide) rfl ?_
      refine sx_iload_n d_R_keepGaps_56 rfl ?_
      refine sx_aald (r := some ((14 + o))) d_R_keepGaps_57 (go rfl rfl rfl) (t := 0) rfl (by omega) (by omega) (by decide) (gr_w _ (by omega)) ?_
      refine sx_getI (z := (M (14 + o) 4)) d_R_keepGaps_58 fl_R_107 (go_w _ (by omega)) (by decide) (by decide) (by decide) (M0f (14 + o) 4 (by omega)) ?_
      refine sx_istore (l' := [some (sx_p 20), some (sx_p u), some (sx_p pa), some (.inl (o : Int)), some (.inl (w : Int)), some (.inl way), some (.inl (M 9 (6 * o + w))), some (.inl (M 9 (6 * w + o))), some (sx_p (14 + w)), some (.inl (M (14 + o) 4)), none, none, none, none]) d_R_keepGaps_61 (by decide) rfl rfl ?_
      refine sx_aload_n d_R_keepGaps_63 rfl ?_
      refine sx_getR (r := some (2)) d_R_keepGaps_64 fl_R_18 (go rfl rfl rfl) (by decide) (by decide) (by decide) rfl ?_
      refine sx_iload_n d_R_keepGaps_67 rfl ?_
      refine sx_iload d_R_keepGaps_68 rfl ?_
      refine sx_callV (by have q := c_L_last (L := L) (xs := xs) M0 M0R o w ho6 hw; simp only [fr_wk M0f hu0 ho6, fr_wk M0f hu0 hw] at q; exact q) d_R_keepGaps_70 cd_L_lastShared lk_R_110 im_L_lastShared se_L_lastShared (go rfl rfl rfl) rfl rfl (by decide) (st := []) rfl rfl (Nat.le_of_ble_eq_true rfl) ⟨by decide, by decide, by decide⟩ (fun _ _ hq => ?_)
      obtain ⟨rfl, rfl⟩ := hq
      show sx_V _ _ _ _ (0, 0) _ _ [.inl (lA M o w)] (gm M0) _
      refine sx_istore (l' := [some (sx_p 20), some (sx_p u), some (sx_p pa), some (.inl (o : Int)), some (.inl (w : Int)), some (.inl way), some (.inl (M 9 (6 * o + w))), some (.inl (M 9 (6 * w + o))), some (sx_p (14 + w)), some (.inl (M (14 + o) 4)), some (.inl (lA M o w)), none, none, none]) d_R_keepGaps_73 (by decide) rfl rfl ?_
      refine sx_aload_n d_R_keepGaps_75 rfl ?_
      refine sx_getR (r := some (2)) d_R_keepGaps_76 fl_R_18 (go rfl rfl rfl) (by decide) (by decide) (by decide) rfl ?_
      refine sx_iload_n d_R_keepGaps_79 rfl ?_
      refine sx_iload d_R_keepGaps_80 rfl ?_
      refine sx_callV (by have q := c_L_first (L := L) (xs := xs) M0 M0R o w ho6 hw; simp only [fr_wk M0f hu0 ho6, fr_wk M0f hu0 hw] at q; exact q) d_R_keepGaps_82 cd_L_firstShared lk_R_113 im_L_firstShared se_L_firstShared (go rfl rfl rfl) rfl rfl (by decide) (st := []) rfl rfl (Nat.le_of_ble_eq_true rfl) ⟨by decide, by decide, by decide⟩ (fun _ _ hq => ?_)
      obtain ⟨rfl, rfl⟩ := hq
      show sx_V _ _ _ _ (0, 0) _ _ [.inl (fI M o w)] (gm M0) _
      refine sx_istore (l' := [some (sx_p 20), some (sx_p u), some (sx_p pa), some (.inl (o : Int)), some (.inl (w : Int)), some (.inl way), some (.inl (M 9 (6 * o + w))), some (.inl (M 9 (6 * w + o))), some (sx_p (14 + w)), some (.inl (M (14 + o) 4)), some (.inl (lA M o w)), some (.inl (fI M o w)), none, none]) d_R_keepGaps_85 (by decide) rfl rfl ?_
      refine l_R_kG M hI hR u ho hu0 pa pb pc hpa hpb hpc hab hac hub huc o w ho6 hw hO hW way hway hso hg1 hg2 M0 ((lA M o w + 1 - fI M o w).toNat + 1) _ _ _ _ (by omega) (Int.le_refl _) (Or.inl (Int.le_refl _)) M0f M0R (fun n2 => ?_) (fun n2 => ?_)
      · exact ⟨fun k => ⟨k, Or.inr fun q a1 a2 => absurd a1 (by omega)⟩, fun k => k.1⟩
      · exact ⟨fun k => ⟨k, Or.inr fun q a1 a2 => absurd a1 (by omega)⟩, fun k => k.1⟩
    · refine sx_retV d_R_keepGaps_36 rfl ⟨by decide, by decide⟩ ?_
      refine ⟨rfl, _, rfl, M0f, M0R, fun n2 => ⟨fun k => ⟨k, Or.inl (by omega)⟩, fun k => k.1⟩, fun n2 => ⟨fun k => ⟨k, Or.inl (by omega)⟩, fun k => k.1⟩⟩
