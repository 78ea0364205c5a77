set_option maxRecDepth 100000 in
set_option maxHeartbeats 4000000 in
theorem l_R_open {L : Nat} {xs : Nat → Int32} (M : Nat → Nat → Int) (hI : IDy M) (hR : IR M) (u : Nat) (ho : ∀ M, sx_o (gm M) u 6 2) (hu0 : 20 < u) (pa pb pc : Nat) (hpa : ∀ M, sx_o (gm M) pa 2 2) (hpb : ∀ M, sx_o (gm M) pb 100 6) (hpc : ∀ M, sx_o (gm M) pc 100 6) (hab : ∀ M, (gm M).2.2.2 pa 0 = some pb) (hac : ∀ M, (gm M).2.2.2 pa 1 = some pc) (hub : pb ≠ u) (huc : pc ≠ u) (w : Nat) (hw : w < 6) (hW : IW M w) (hS : IS M w) (way : Int) (hway : sx_r way) (nb : Nat) (hnb : M 2 10 = (nb : Int)) (hnb8 : nb ≤ 8) (hB : IB M nb w way) (mn : Nat) (hmn : mn ≤ 6) (hO : ∀ o, o < mn → IW M o) (hso : ∀ o, o < mn → 0 ≤ M pb o ∧ M pb o ≤ 1000) (hg : ∀ j, j < 36 → -1 ≤ M 9 j ∧ M 9 j ≤ 30) : ∀ (n i : Nat) (M1 : Nat → Nat → Int), mn - i < n → i ≤ mn → fr u M M1 → IR M1 → (∀ n, M1 u 0 ≤ n ↔ oL M w way nb n ∧ ∀ o, o < i → o ≠ w → kL M pb pc o w way n) → (∀ n, n ≤ M1 u 1 ↔ oG M w n ∧ ∀ o, o < i → o ≠ w → kG M pb pc o w way n) → sx_V y_R_open (3, 0, 0) L xs (0, 0) 11 [some (sx_p 20), some (sx_p u), some (sx_p pa), some (.inl (w : Int)), some (.inl way), some (.inl (mn : Int)), some (.inl (i : Int))] [] (gm M1) (fun v h2 => v = none ∧ ∃ M2, h2 = gm M2 ∧ fr u M M2 ∧ IR M2 ∧ (∀ n, M2 u 0 ≤ n ↔ oL M w way nb n ∧ ∀ o, o < mn → o ≠ w → kL M pb pc o w way n) ∧ (∀ n, n ≤ M2 u 1 ↔ oG M w n ∧ ∀ o, o < mn → o ≠ w → kG M pb pc o w way n)) := by
  intro n
  induction n with
  | zero => intro i M1 h1 h2; omega
  | succ n ih =>
    intro i M1 hn hi M1f M1R M10 M11
    refine sx_iload d_R_open_11 rfl ?_
    refine sx_iload d_R_open_13 rfl ?_
    refine sx_icmp_ge (tgt := 41) d_R_open_15 (by decide) (by omega) (by omega) (fun c15_10 => ?_) (fun c15_10 => ?_)
    · refine sx_retV d_R_open_41 rfl ⟨by decide, by decide⟩ ?_
      have e0 : i = mn := by omega
      subst e0
      exact ⟨rfl, _, rfl, M1f, M1R, M10, M11⟩
    · refine sx_iload d_R_open_18 rfl ?_
      refine sx_iload_n d_R_open_20 rfl ?_
      refine sx_icmp_eq (tgt := 35) d_R_open_21 (by decide) (by omega) (by omega) (fun c21_17 => ?_) (fun c21_17 => ?_)
      · refine sx_iinc (l' := [some (sx_p 20), some (sx_p u), some (sx_p pa), some (.inl (w : Int)), some (.inl way), some (.inl (mn : Int)), some (.inl ((i : Int) + 1))]) d_R_open_35 rfl (by decide) rfl rfl ?_
        refine sx_goto (tgt := 11) d_R_open_38 (by decide) ?_
        have e1 : ((i : Int) + 1) = ((i + 1 : Nat) : Int) := by omega
        rw [e1]
        refine ih (i + 1) M1 (by omega) (by omega) M1f M1R (fun n2 => ?_) (fun n2 => ?_)
        · rw [M10 n2]; exact ⟨fun ⟨k1, k2⟩ => ⟨k1, fun o a c => by rcases Nat.lt_or_ge o i with z | z; exact k2 o z c; exact absurd (show o = w by omega) c⟩, fun ⟨k1, k2⟩ => ⟨k1, fun o a c => k2 o (by omega) c⟩⟩
        · rw [M11 n2]; exact ⟨fun ⟨k1, k2⟩ => ⟨k1, fun o a c => by rcases Nat.lt_or_ge o i with z | z; exact k2 o z c; exact absurd (show o = w by omega) c⟩, fun ⟨k1, k2⟩ => ⟨k1, fun o a c => k2 o (by omega) c⟩⟩
      · refine sx_aload_n d_R_open_24 rfl ?_
        refine sx_aload_n d_R_open_25 rfl ?_
        refine sx_aload_n d_R_open_26 rfl ?_
        refine sx_iload d_R_open_27 rfl ?_
        refine sx_iload_n d_R_open_29 rfl ?_
        refine sx_iload d_R_open_30 rfl ?_
        refine sx_callV (c_R_kG M hI hR u ho hu0 pa pb pc hpa hpb hpc hab hac hub huc i w (by omega) hw (hO i (by omega)) hW way hway (hso i (by omega)) (hg _ (by omega)) (hg _ (by omega)) M1 M1f M1R) d_R_open_32 cd_R_keepGaps lk_R_47 im_R_keepGaps se_R_keepGaps (go rfl rfl rfl) rfl rfl (by decide) (st := []) rfl rfl (Nat.le_of_ble_eq_true rfl) ⟨by decide, by decide, by decide⟩ (fun _ _ hq => ?_)
        obtain ⟨rfl, m9, rfl, m9f, m9R, m90, m91⟩ := hq
        show sx_V _ _ _ _ (0, 0) _ _ [] (gm m9) _
        refine sx_iinc (l' := [some (sx_p 20), some (sx_p u), some (sx_p pa), some (.inl (w : Int)), some (.inl way), some (.inl (mn : Int)), some (.inl ((i : Int) + 1))]) d_R_open_35 rfl (by decide) rfl rfl ?_
        refine sx_goto (tgt := 11) d_R_open_38 (by decide) ?_
        have e1 : ((i : Int) + 1) = ((i + 1 : Nat) : Int) := by omega
        rw [e1]
        refine ih (i + 1) m9 (by omega) (by omega) m9f m9R (fun n2 => ?_) (fun n2 => ?_)
        · rw [m90 n2, M10 n2]; exact ⟨fun ⟨⟨k1, k2⟩, k3⟩ => ⟨k1, fun o a c => by rcases Nat.lt_or_ge o i with z | z; exact k2 o z c; (rw [show o = i by omega]; exact k3)⟩, fun ⟨k1, k2⟩ => ⟨⟨k1, fun o a c => k2 o (by omega) c⟩, k2 i (by omega) (by omega)⟩⟩
        · rw [m91 n2, M11 n2]; exact ⟨fun ⟨⟨k1, k2⟩, k3⟩ => ⟨k1, fun o a c => by rcases Nat.lt_or_ge o i with z | z; exact k2 o z c; (rw [show o = i by omega]; exact k3)⟩, fun ⟨k1, k2⟩ => ⟨⟨k1, fun o a c => k2 o (by omega) c⟩, k2 i (by omega) (by omega)⟩⟩
set_option maxRecDepth 100000 in
set_option maxHeartbeats 4000000 in
theorem c_R_open {L : Nat} {xs : Nat → Int32} (M : Nat → Nat → Int) (hI : IDy M) (hR : IR M) (u : Nat) (ho : ∀ M, sx_o (gm M) u 6 2) (hu0 : 20 < u) (pa pb pc : Nat) (hpa : ∀ M, sx_o (gm M) pa 2 2) (hpb : ∀ M, sx_o (gm M) pb 100 6) (hpc : ∀ M, sx_o (gm M) pc 100 6) (hab : ∀ M, (gm M).2.2.2 pa 0 = some pb) (hac : ∀ M, (gm M).2.2.2 pa 1 = some pc) (hub : pb ≠ u) (huc : pc ≠ u) (w : Nat) (hw : w < 6) (hW : IW M w) (hS : IS M w) (way : Int) (hway : sx_r way) (nb : Nat) (hnb : M 2 10 = (nb : Int)) (hnb8 : nb ≤ 8) (hB : IB M nb w way) (mn : Nat) (hmn : mn ≤ 6) (hO : ∀ o, o < mn → IW M o) (hso : ∀ o, o < mn → 0 ≤ M pb o ∧ M pb o ≤ 1000) (hg : ∀ j, j < 36 → -1 ≤ M 9 j ∧ M 9 j ≤ 30) : sx_R y_R_open (3, 0, 0) L xs [sx_p 20, sx_p u, sx_p pa, .inl (w : Int), .inl way, .inl (mn : Int)] (gm M) (fun v h2 => v = none ∧ ∃ M2, h2 = gm M2 ∧ fr u M M2 ∧ IR M2 ∧ (∀ n, M2 u 0 ≤ n ↔ oL M w way nb n ∧ ∀ o, o < mn → o ≠ w → kL M pb pc o w way n) ∧ (∀ n, n ≤ M2 u 1 ↔ oG M w n ∧ ∀ o, o < mn → o ≠ w → kG M pb pc o w way n)) := by
  refine sx_enter rfl (Nat.le_of_ble_eq_true rfl) rfl ?_
  show sx_V y_R_open (3, 0, 0) L xs (0, 0) 0 [some (sx_p 20), some (sx_p u), some (sx_p pa), some (.inl (w : Int)), some (.inl way), some (.inl (mn : Int)), none] [] (gm M) _
  refine sx_aload_n d_R_open_0 rfl ?_
  refine sx_aload_n d_R_open_1 rfl ?_
  refine sx_iload_n d_R_open_2 rfl ?_
  refine sx_iload d_R_open_3 rfl ?_
  refine sx_callV (c_R_oA M hI hR u ho hu0 w hw hW hS way hway nb hnb hnb8 hB) d_R_open_5 cd_R_openAlone lk_R_29 im_R_openAlone se_R_openAlone (go rfl rfl rfl) rfl rfl (by decide) (st := []) rfl rfl (Nat.le_of_ble_eq_true rfl) ⟨by decide, by decide, by decide⟩ (fun _ _ hq => ?_)
  obtain ⟨rfl, m8, rfl, m8f, m8R, m80, m81⟩ := hq
  show sx_V _ _ _ _ (0, 0) _ _ [] (gm m8) _
  refine sx_iconst d_R_open_8 ?_
  refine sx_istore (l' := [some (sx_p 20), some (sx_p u), some (sx_p pa), some (.inl (w : Int)), some (.inl way), some (.inl (mn : Int)), some (.inl 0)]) d_R_open_9 (by decide) rfl rfl ?_
  exact l_R_open M hI hR u ho hu0 pa pb pc hpa hpb hpc hab hac hub huc w hw hW hS way hway nb hnb hnb8 hB mn hmn hO hso hg (mn + 1) 0 m8 (by omega) (by omega) m8f m8R (fun n2 => by rw [m80 n2]; exact ⟨fun k => ⟨k, fun o a => absurd a (Nat.not_lt_zero _)⟩, fun k => k.1⟩) (fun n2 => by rw [m81 n2]; exact ⟨fun k => ⟨k, fun o a => absurd a (Nat.not_lt_zero _)⟩, fun k => k.1⟩)
set_option maxRecDepth 100000 in
set_option maxHeartbeats 4000000 in
theorem l_R_crowd {L : Nat} {xs : Nat → Int32} (M : Nat → Nat → Int) (hI : IDy M) (hR : IR M) (pa pb : Nat) (hpa : ∀ M, sx_o (gm M) pa 2 2) (hpb : ∀ M, sx_o (gm M) pb 100 6) (hab : ∀ M, (gm M).2.2.2 pa 0 = some pb) (w : Nat) (hw : w < 6) (hkd : 0 ≤ M (14 + w) 1 ∧ M (14 + w) 1 ≤ 3) (mn : Nat) (hmn : mn ≤ 6) (hO : ∀ o, o < mn → IW M o) (hso : ∀ o, o < mn → 0 ≤ M pb o ∧ M pb o ≤ 1000) (n2 : Int) (hn2 : sx_r n2) : ∀ (n i : Nat) (l8 : Option sx_v), mn - i < n → i ≤ mn → sx_V y_R_isCrowded (1, 0, 0) L xs (0, 0) 20 [some (sx_p 20), some (sx_p pa), some (.inl (w : Int)), some (.inl n2), some (.inl (mn : Int)), some (.inl (M (14 + w) 1)), some (.inl (cn M pb w n2 i)), some (.inl (i : Int)), l8] [] (gm M) (fun v h2 => v = some (.inl (if M 10 (M (14 + w) 1).toNat < cn M pb w n2 mn then 1 else 0)) ∧ h2 = gm M) := by
  intro n
  induction n with
  | zero => intro i l8 h1 h2; omega
  | succ n ih =>
    intro i l8 hn hi
    refine sx_iload d_R_isCrowded_20 rfl ?_
    refine sx_iload d_R_isCrowded_22 rfl ?_
    refine sx_icmp_ge (tgt := 102) d_R_isCrowded_24 (by decide) (by have cq := cn_r M pb w n2 i; first | omega | (split <;> omega)) (by have cq := cn_r M pb w n2 i; first | omega | (split <;> omega)) (fun c24_10 => ?_) (fun c24_10 => ?_)
    · refine sx_iload d_R_isCrowded_102 rfl ?_
      refine sx_iconst d_R_isCrowded_104 ?_
      refine sx_iconst d_R_isCrowded_105 ?_
      refine sx_callS (c_isWithin M (M (14 + w) 1) 0 3 (hR _ _) ⟨by decide, by decide⟩ ⟨by decide, by decide⟩) d_R_isCrowded_106 cd_T_isWithin lk_R_148 st_T_isWithin (st := []) rfl rfl (Nat.le_of_ble_eq_true rfl) ⟨by decide, by decide, by decide⟩ (fun _ _ hq => ?_)
      obtain ⟨rfl, rfl⟩ := hq
      show sx_V _ _ _ _ (0, 0) _ _ [.inl (if 0 ≤ (M (14 + w) 1) ∧ (M (14 + w) 1) ≤ 3 then 1 else 0)] (gm M) _
      refine sx_if_eq (tgt := 127) d_R_isCrowded_109 (by decide) (by have cq := cn_r M pb w n2 i; first | omega | (split <;> omega)) (fun c109_17 => ?_) (fun c109_17 => ?_)
      · exact absurd c109_17 (by rw [if_pos (by omega)]; decide)
      · refine sx_iload d_R_isCrowded_112 rfl ?_
        refine sx_aload_n d_R_isCrowded_114 rfl ?_
        refine sx_getR (r := some (2)) d_R_isCrowded_115 fl_R_18 (go rfl rfl rfl) (by decide) (by decide) (by decide) rfl ?_
        refine sx_getR (r := some (10)) d_R_isCrowded_118 fl_R_152 (go rfl rfl rfl) (by decide) (by decide) (by decide) rfl ?_
        refine sx_iload d_R_isCrowded_121 rfl ?_
        refine sx_iald (z := (M 10 (Int.toNat (M (14 + w) 1)))) d_R_isCrowded_123 (go rfl rfl rfl) (by omega) (by omega) (by decide) rfl ?_
        refine sx_icmp_le (tgt := 131) d_R_isCrowded_124 (by decide) (by have cq := cn_r M pb w n2 i; first | omega | (split <;> omega)) (hR _ _) (fun c124_25 => ?_) (fun c124_25 => ?_)
        · refine sx_iconst d_R_isCrowded_131 ?_
          refine sx_retI d_R_isCrowded_132 (Or.inr ⟨rfl, by first | exact Or.inl rfl | exact Or.inr rfl | omega⟩) ⟨by decide, by decide⟩ ?_
          have e0 : i = mn := by omega
          subst e0
          refine ⟨?_, rfl⟩
          congr 2
          first | rw [if_pos (by omega)] | rw [if_neg (by omega)]
        · refine sx_iconst d_R_isCrowded_127 ?_
          refine sx_goto (tgt := 132) d_R_isCrowded_128 (by decide) ?_
          refine sx_retI d_R_isCrowded_132 (Or.inr ⟨rfl, by first | exact Or.inl rfl | exact Or.inr rfl | omega⟩) ⟨by decide, by decide⟩ ?_
          have e0 : i = mn := by omega
          subst e0
          refine ⟨?_, rfl⟩
          congr 2
          first | rw [if_pos (by omega)] | rw [if_neg (by omega)]
    · refine sx_iload d_R_isCrowded_27 rfl ?_
      refine sx_iload_n d_R_isCrowded_29 rfl ?_
      refine sx_icmp_eq (tgt := 96) d_R_isCrowded_30 (by decide) (by have cq := cn_r M pb w n2 i; first | omega | (split <;> omega)) (by have cq := cn_r M pb w n2 i; first | omega | (split <;> omega)) (fun c30_43 => ?_) (fun c30_43 => ?_)
      · refine sx_iinc (l' := [some (sx_p 20), some (sx_p pa), some (.inl (w : Int)), some (.inl n2), some (.inl (mn : Int)), some (.inl (M (14 + w) 1)), some (.inl (cn M pb w n2 i)), some (.inl ((i : Int) + 1)), l8]) d_R_isCrowded_96 rfl (by decide) rfl rfl ?_
        refine sx_goto (tgt := 20) d_R_isCrowded_99 (by decide) ?_
        have e1 : ((i : Int) + 1) = ((i + 1 : Nat) : Int) := by omega
        rw [e1]
        have e2 : (cn M pb w n2 i) = cn M pb w n2 (i + 1) := by (unfold cn; simp only [sm]; unfold cf; first | (rw [if_pos ⟨by omega, by omega, by omega, by omega⟩]; omega) | (rw [if_neg (fun k => by omega)]; omega))
        rw [e2]
        exact ih (i + 1) _ (by omega) (by omega)
      · refine sx_aload_n d_R_isCrowded_33 rfl ?_
        refine sx_getR (r := some (2)) d_R_isCrowded_34 fl_R_18 (go rfl rfl rfl) (by decide) (by decide) (by decide) rfl ?_
        refine sx_getR (r := some (8)) d_R_isCrowded_37 fl_R_37 (go rfl rfl rfl) (by decide) (by decide) (by decide) rfl ?_
        refine sx_iload d_R_isCrowded_40 rfl ?_
        refine sx_aald (r := some ((14 + i))) d_R_isCrowded_42 (go rfl rfl rfl) (t := 0) rfl (by omega) (by omega) (by decide) (gr_w _ (by omega)) ?_
        refine sx_getI (z := (M (14 + i) 1)) d_R_isCrowded_43 fl_R_145 (go_w _ (by omega)) (by decide) (by decide) (by decide) rfl ?_
        refine sx_iload d_R_isCrowded_46 rfl ?_
        refine sx_icmp_ne (tgt := 96) d_R_isCrowded_48 (by decide) (hR _ _) (by have cq := cn_r M pb w n2 i; first | omega | (split <;> omega)) (fun c48_58 => ?_) (fun c48_58 => ?_)
        · refine sx_iinc (l' := [some (sx_p 20), some (sx_p pa), some (.inl (w : Int)), some (.inl n2), some (.inl (mn : Int)), some (.inl (M (14 + w) 1)), some (.inl (cn M pb w n2 i)), some (.inl ((i : Int) + 1)), l8]) d_R_isCrowded_96 rfl (by decide) rfl rfl ?_
          refine sx_goto (tgt := 20) d_R_isCrowded_99 (by decide) ?_
          have e1 : ((i : Int) + 1) = ((i + 1 : Nat) : Int) := by omega
          rw [e1]
          have e2 : (cn M pb w n2 i) = cn M pb w n2 (i + 1) := by (unfold cn; simp only [sm]; unfold cf; first | (rw [if_pos ⟨by omega, by omega, by omega, by omega⟩]; omega) | (rw [if_neg (fun k => by omega)]; omega))
          rw [e2]
          exact ih (i + 1) _ (by omega) (by omega)
        · have soq := hso i (by omega)
          refine sx_aload_n d_R_isCrowded_51 rfl ?_
          refine sx_getR (r := some (3)) d_R_isCrowded_52 fl_R_28 (go rfl rfl rfl) (by decide) (by decide) (by decide) rfl ?_
          refine sx_aload_n d_R_isCrowded_55 rfl ?_
          refine sx_getR (r := some (pb)) d_R_isCrowded_56 fl_R_137 (hpa _) (by decide) (by decide) (by decide) (hab _) ?_
          refine sx_iload d_R_isCrowded_59 rfl ?_
          refine sx_iald (z := (M pb i)) d_R_isCrowded_61 (hpb _) (by omega) (by omega) (by decide) rfl ?_
          refine sx_callV (c_D_before M hI (M pb i) (by have cq := cn_r M pb w n2 i; first | omega | (split <;> omega))) d_R_isCrowded_62 cd_D_before lk_R_51 im_D_before se_D_before (go rfl rfl rfl) rfl rfl (by decide) (st := []) rfl rfl (Nat.le_of_ble_eq_true rfl) ⟨by decide, by decide, by decide⟩ (fun _ _ hq => ?_)
          obtain ⟨rfl, rfl⟩ := hq
          show sx_V _ _ _ _ (0, 0) _ _ [.inl (Bd M (M pb i))] (gm M) _
          have bq := Bd_r M (M pb i)
          refine sx_istore (l' := [some (sx_p 20), some (sx_p pa), some (.inl (w : Int)), some (.inl n2), some (.inl (mn : Int)), some (.inl (M (14 + w) 1)), some (.inl (cn M pb w n2 i)), some (.inl (i : Int)), some (.inl (Bd M (M pb i)))]) d_R_isCrowded_65 (by decide) rfl rfl ?_
          refine sx_iload d_R_isCrowded_67 rfl ?_
          refine sx_iload_n d_R_isCrowded_69 rfl ?_
          refine sx_icmp_gt (tgt := 96) d_R_isCrowded_70 (by decide) (by have cq := cn_r M pb w n2 i; first | omega | (split <;> omega)) hn2 (fun c70_80 => ?_) (fun c70_80 => ?_)
          · refine sx_iinc (l' := [some (sx_p 20), some (sx_p pa), some (.inl (w : Int)), some (.inl n2), some (.inl (mn : Int)), some (.inl (M (14 + w) 1)), some (.inl (cn M pb w n2 i)), some (.inl ((i : Int) + 1)), some (.inl (Bd M (M pb i)))]) d_R_isCrowded_96 rfl (by decide) rfl rfl ?_
            refine sx_goto (tgt := 20) d_R_isCrowded_99 (by decide) ?_
            have e1 : ((i : Int) + 1) = ((i + 1 : Nat) : Int) := by omega
            rw [e1]
            have e2 : (cn M pb w n2 i) = cn M pb w n2 (i + 1) := by (unfold cn; simp only [sm]; unfold cf; first | (rw [if_pos ⟨by omega, by omega, by omega, by omega⟩]; omega) | (rw [if_neg (fun k => by omega)]; omega))
            rw [e2]
            exact ih (i + 1) _ (by omega) (by omega)
          · have nq := (hO i (by omega)).need
            refine sx_iload_n d_R_isCrowded_73 rfl ?_
            refine sx_iload d_R_isCrowded_74 rfl ?_
            refine sx_aload_n d_R_isCrowded_76 rfl ?_
            refine sx_getR (r := some (2)) d_R_isCrowded_77 fl_R_18 (go rfl rfl rfl) (by decide) (by decide) (by decide) rfl ?_
            refine sx_getR (r := some (8)) d_R_isCrowded_80 fl_R_37 (go rfl rfl rfl) (by decide) (by decide) (by decide) rfl ?_
            refine sx_iload d_R_isCrowded_83 rfl ?_
            refine sx_aald (r := some ((14 + i))) d_R_isCrowded_85 (go rfl rfl rfl) (t := 0) rfl (by omega) (by omega) (by decide) (gr_w _ (by omega)) ?_
            refine sx_getI (z := (M (14 + i) 5)) d_R_isCrowded_86 fl_R_61 (go_w _ (by omega)) (by decide) (by decide) (by decide) rfl ?_
            refine sx_iadd d_R_isCrowded_89 ?_
            refine sx_icmp_ge (tgt := 96) d_R_isCrowded_90 (by decide) hn2 (by have cq := cn_r M pb w n2 i; first | omega | (split <;> omega)) (fun c90_98 => ?_) (fun c90_98 => ?_)
            · refine sx_iinc (l' := [some (sx_p 20), some (sx_p pa), some (.inl (w : Int)), some (.inl n2), some (.inl (mn : Int)), some (.inl (M (14 + w) 1)), some (.inl (cn M pb w n2 i)), some (.inl ((i : Int) + 1)), some (.inl (Bd M (M pb i)))]) d_R_isCrowded_96 rfl (by decide) rfl rfl ?_
              refine sx_goto (tgt := 20) d_R_isCrowded_99 (by decide) ?_
              have e1 : ((i : Int) + 1) = ((i + 1 : Nat) : Int) := by omega
              rw [e1]
              have e2 : (cn M pb w n2 i) = cn M pb w n2 (i + 1) := by (unfold cn; simp only [sm]; unfold cf; first | (rw [if_pos ⟨by omega, by omega, by omega, by omega⟩]; omega) | (rw [if_neg (fun k => by omega)]; omega))
              rw [e2]
              exact ih (i + 1) _ (by omega) (by omega)
            · refine sx_iinc (l' := [some (sx_p 20), some (sx_p pa), some (.inl (w : Int)), some (.inl n2), some (.inl (mn : Int)), some (.inl (M (14 + w) 1)), some (.inl ((cn M pb w n2 i) + 1)), some (.inl (i : Int)), some (.inl (Bd M (M pb i)))]) d_R_isCrowded_93 rfl (by decide) rfl rfl ?_
              refine sx_iinc (l' := [some (sx_p 20), some (sx_p pa), some (.inl (w : Int)), some (.inl n2), some (.inl (mn : Int)), some (.inl (M (14 + w) 1)), some (.inl ((cn M pb w n2 i) + 1)), some (.inl ((i : Int) + 1)), some (.inl (Bd M (M pb i)))]) d_R_isCrowded_96 rfl (by decide) rfl rfl ?_
              refine sx_goto (tgt := 20) d_R_isCrowded_99 (by decide) ?_
              have e1 : ((i : Int) + 1) = ((i + 1 : Nat) : Int) := by omega
              rw [e1]
              have e2 : ((cn M pb w n2 i) + 1) = cn M pb w n2 (i + 1) := by (unfold cn; simp only [sm]; unfold cf; first | (rw [if_pos ⟨by omega, by omega, by omega, by omega⟩]; omega) | (rw [if_neg (fun k => by omega)]; omega))
              rw [e2]
              exact ih (i + 1) _ (by omega) (by omega)
set_option maxRecDepth 100000 in
set_option maxHeartbeats 4000000 in
theorem c_R_crowd {L : Nat} {xs : Nat → Int32} (M : Nat → Nat → Int) (hI : IDy M) (hR : IR M) (pa pb : Nat) (hpa : ∀ M, sx_o (gm M) pa 2 2) (hpb : ∀ M, sx_o (gm M) pb 100 6) (hab : ∀ M, (gm M).2.2.2 pa 0 = some pb) (w : Nat) (hw : w < 6) (hkd : 0 ≤ M (14 + w) 1 ∧ M (14 + w) 1 ≤ 3) (mn : Nat) (hmn : mn ≤ 6) (hO : ∀ o, o < mn → IW M o) (hso : ∀ o, o < mn → 0 ≤ M pb o ∧ M pb o ≤ 1000) (n2 : Int) (hn2 : sx_r n2) : sx_R y_R_isCrowded (1, 0, 0) L xs [sx_p 20, sx_p pa, .inl (w : Int), .inl n2, .inl (mn : Int)] (gm M) (fun v h2 => v = some (.inl (if M 10 (M (14 + w) 1).toNat < cn M pb w n2 mn then 1 else 0)) ∧ h2 = gm M) := by
  refine sx_enter rfl (Nat.le_of_ble_eq_true rfl) rfl ?_
  show sx_V y_R_isCrowded (1, 0, 0) L xs (0, 0) 0 [some (sx_p 20), some (sx_p pa), some (.inl (w : Int)), some (.inl n2), some (.inl (mn : Int)), none, none, none, none] [] (gm M) _
  refine sx_aload_n d_R_isCrowded_0 rfl ?_
  refine sx_getR (r := some (2)) d_R_isCrowded_1 fl_R_18 (go rfl rfl rfl) (by decide) (by decide) (by decide) rfl ?_
  refine sx_getR (r := some (8)) d_R_isCrowded_4 fl_R_37 (go rfl rfl rfl) (by decide) (by decide) (by decide) rfl ?_
  refine sx_iload_n d_R_isCrowded_7 rfl ?_
  refine sx_aald (r := some ((14 + w))) d_R_isCrowded_8 (go rfl rfl rfl) (t := 0) rfl (by omega) (by omega) (by decide) (gr_w _ (by omega)) ?_
  refine sx_getI (z := (M (14 + w) 1)) d_R_isCrowded_9 fl_R_145 (go_w _ (by omega)) (by decide) (by decide) (by decide) rfl ?_
  refine sx_istore (l' := [some (sx_p 20), some (sx_p pa), some (.inl (w : Int)), some (.inl n2), some (.inl (mn : Int)), some (.inl (M (14 + w) 1)), none, none, none]) d_R_isCrowded_12 (by decide) rfl rfl ?_
  refine sx_iconst d_R_isCrowded_14 ?_
  refine sx_istore (l' := [some (sx_p 20), some (sx_p pa), some (.inl (w : Int)), some (.inl n2), some (.inl (mn : Int)), some (.inl (M (14 + w) 1)), some (.inl 1), none, none]) d_R_isCrowded_15 (by decide) rfl rfl ?_
  refine sx_iconst d_R_isCrowded_17 ?_
  refine sx_istore (l' := [some (sx_p 20), some (sx_p pa), some (.inl (w : Int)), some (.inl n2), some (.inl (mn : Int)), some (.inl (M (14 + w) 1)), some (.inl 1), some (.inl 0), none]) d_R_isCrowded_18 (by decide) rfl rfl ?_
  exact l_R_crowd M hI hR pa pb hpa hpb hab w hw hkd mn hmn hO hso n2 hn2 (mn + 1) 0 _ (by omega) (by omega)
set_option maxRecDepth 100000 in
set_option maxHeartbeats 4000000 in
theorem l_R_room {L : Nat} {xs : Nat → Int32} (M : Nat → Nat → Int) (hI : IDy M) (hR : IR M) (pa pb : Nat) (hpa : ∀ M, sx_o (gm M) pa 2 2) (hpb : ∀ M, sx_o (gm M) pb 100 6) (hab : ∀ M, (gm M).2.2.2 pa 0 = some pb) (w : Nat) (hw : w < 6) (hkd : 0 ≤ M (14 + w) 1 ∧ M (14 + w) 1 ≤ 3) (mn : Nat) (hmn : mn ≤ 6) (hO : ∀ o, o < mn → IW M o) (hso : ∀ o, o < mn → 0 ≤ M pb o ∧ M pb o ≤ 1000) (hW : IW M w) (s : Int) (hs : 0 ≤ s ∧ s ≤ 1000) (h1 : cn M pb w (Bd M s) mn ≤ M 10 (M (14 + w) 1).toNat) : ∀ (n i : Nat) (l8 l9 l10 l11 : Option sx_v), mn - i < n → i ≤ mn → (∀ o, o < i → o ≠ w → Bd M s < Bd M (M pb o) + M (14 + o) 5 → Bd M (M pb o) < Bd M s + M (14 + w) 5 → M (14 + o) 0 ≠ M (14 + w) 0 ∧ (Bd M s < Bd M (M pb o) → cn M pb w (Bd M (M pb o)) mn ≤ M 10 (M (14 + w) 1).toNat)) → sx_V y_R_hasRoom (2, 0, 0) L xs (0, 0) 45 [some (sx_p 20), some (sx_p pa), some (.inl (w : Int)), some (.inl s), some (.inl (mn : Int)), some (.inl (Bd M s)), some (.inl (Bd M s + M (14 + w) 5)), some (.inl (i : Int)), l8, l9, l10, l11] [] (gm M) (fun v h2 => ∃ z, v = some (.inl z) ∧ (z = 0 ∨ z = 1) ∧ h2 = gm M ∧ (z = 1 ↔ hRm M pb w s mn)) := by
  have bs := Bd_r M s
  intro n
  induction n with
  | zero => intro i l8 l9 l10 l11 h1 h2; omega
  | succ n ih =>
    intro i l8 l9 l10 l11 hn hi hin
    refine sx_iload d_R_hasRoom_45 rfl ?_
    refine sx_iload d_R_hasRoom_47 rfl ?_
    refine sx_icmp_ge (tgt := 193) d_R_hasRoom_49 (by decide) (by first | omega | (split <;> omega)) (by first | omega | (split <;> omega)) (fun c49_11 => ?_) (fun c49_11 => ?_)
    · refine sx_iconst d_R_hasRoom_193 ?_
      refine sx_retI d_R_hasRoom_194 (Or.inr ⟨rfl, by first | exact Or.inl rfl | exact Or.inr rfl | omega⟩) ⟨by decide, by decide⟩ ?_
      have e0 : i = mn := by omega
      subst e0
      exact ⟨_, rfl, Or.inr rfl, rfl, ⟨fun _ => ⟨h1, hin⟩, fun _ => rfl⟩⟩
    · have nqw := hW.need
      refine sx_iload d_R_hasRoom_52 rfl ?_
      refine sx_iload_n d_R_hasRoom_54 rfl ?_
      refine sx_icmp_eq (tgt := 187) d_R_hasRoom_55 (by decide) (by first | omega | (split <;> omega)) (by first | omega | (split <;> omega)) (fun c55_20 => ?_) (fun c55_20 => ?_)
      · refine sx_iinc (l' := [some (sx_p 20), some (sx_p pa), some (.inl (w : Int)), some (.inl s), some (.inl (mn : Int)), some (.inl (Bd M s)), some (.inl (Bd M s + M (14 + w) 5)), some (.inl ((i : Int) + 1)), l8, l9, l10, l11]) d_R_hasRoom_187 rfl (by decide) rfl rfl ?_
        refine sx_goto (tgt := 45) d_R_hasRoom_190 (by decide) ?_
        have e1 : ((i : Int) + 1) = ((i + 1 : Nat) : Int) := by omega
        rw [e1]
        refine ih (i + 1) _ _ _ _ (by omega) (by omega) (fun o a c d1 d2 => ?_)
        rcases Nat.lt_or_ge o i with z | z
        · exact hin o z c d1 d2
        · obtain rfl : o = i := by omega
          first | exact absurd rfl (show ¬ (o = o) by omega) | exact absurd (show o = w by omega) c | omega | exact ⟨by omega, fun d3 => by omega⟩ | exact ⟨by omega, fun d3 => by split at * <;> omega⟩
      · have soq := hso i (by omega)
        have nqi := (hO i (by omega)).need
        refine sx_aload_n d_R_hasRoom_58 rfl ?_
        refine sx_getR (r := some (3)) d_R_hasRoom_59 fl_R_28 (go rfl rfl rfl) (by decide) (by decide) (by decide) rfl ?_
        refine sx_aload_n d_R_hasRoom_62 rfl ?_
        refine sx_getR (r := some (pb)) d_R_hasRoom_63 fl_R_137 (hpa _) (by decide) (by decide) (by decide) (hab _) ?_
        refine sx_iload d_R_hasRoom_66 rfl ?_
        refine sx_iald (z := (M pb i)) d_R_hasRoom_68 (hpb _) (by omega) (by omega) (by decide) rfl ?_
        refine sx_callV (c_D_before M hI (M pb i) (by first | omega | (split <;> omega))) d_R_hasRoom_69 cd_D_before lk_R_51 im_D_before se_D_before (go rfl rfl rfl) rfl rfl (by decide) (st := []) rfl rfl (Nat.le_of_ble_eq_true rfl) ⟨by decide, by decide, by decide⟩ (fun _ _ hq => ?_)
        obtain ⟨rfl, rfl⟩ := hq
        show sx_V _ _ _ _ (0, 0) _ _ [.inl (Bd M (M pb i))] (gm M) _
        have bq := Bd_r M (M pb i)
        refine sx_istore (l' := [some (sx_p 20), some (sx_p pa), some (.inl (w : Int)), some (.inl s), some (.inl (mn : Int)), some (.inl (Bd M s)), some (.inl (Bd M s + M (14 + w) 5)), some (.inl (i : Int)), some (.inl (Bd M (M pb i))), l9, l10, l11]) d_R_hasRoom_72 (by decide) rfl rfl ?_
        refine sx_iload d_R_hasRoom_74 rfl ?_
        refine sx_aload_n d_R_hasRoom_76 rfl ?_
        refine sx_getR (r := some (2)) d_R_hasRoom_77 fl_R_18 (go rfl rfl rfl) (by decide) (by decide) (by decide) rfl ?_
        refine sx_getR (r := some (8)) d_R_hasRoom_80 fl_R_37 (go rfl rfl rfl) (by decide) (by decide) (by decide) rfl ?_
        refine sx_iload d_R_hasRoom_83 rfl ?_
        refine sx_aald (r := some ((14 + i))) d_R_hasRoom_85 (go rfl rfl rfl) (t := 0) rfl (by omega) (by omega) (by decide) (gr_w _ (by omega)) ?_
        refine sx_getI (z := (M (14 + i) 5)) d_R_hasRoom_86 fl_R_61 (go_w _ (by omega)) (by decide) (by decide) (by decide) rfl ?_
        refine sx_iadd d_R_hasRoom_89 ?_
        refine sx_istore (l' := [some (sx_p 20), some (sx_p pa), some (.inl (w : Int)), some (.inl s), some (.inl (mn : Int)), some (.inl (Bd M s)), some (.inl (Bd M s + M (14 + w) 5)), some (.inl (i : Int)), some (.inl (Bd M (M pb i))), some (.inl ((Bd M (M pb i)) + (M (14 + i) 5))), l10, l11]) d_R_hasRoom_90 (by decide) rfl rfl ?_
        refine sx_iload d_R_hasRoom_92 rfl ?_
        refine sx_iload d_R_hasRoom_94 rfl ?_
        refine sx_icmp_ge (tgt := 110) d_R_hasRoom_96 (by decide) (by first | omega | (split <;> omega)) (by first | omega | (split <;> omega)) (fun c96_54 => ?_) (fun c96_54 => ?_)
        · refine sx_iconst d_R_hasRoom_110 ?_
          refine sx_istore (l' := [some (sx_p 20), some (sx_p pa), some (.inl (w : Int)), some (.inl s), some (.inl (mn : Int)), some (.inl (Bd M s)), some (.inl (Bd M s + M (14 + w) 5)), some (.inl (i : Int)), some (.inl (Bd M (M pb i))), some (.inl ((Bd M (M pb i)) + (M (14 + i) 5))), some (.inl 0), l11]) d_R_hasRoom_111 (by decide) rfl rfl ?_
          refine sx_aload_n d_R_hasRoom_113 rfl ?_
          refine sx_getR (r := some (2)) d_R_hasRoom_114 fl_R_18 (go rfl rfl rfl) (by decide) (by decide) (by decide) rfl ?_
          refine sx_getR (r := some (8)) d_R_hasRoom_117 fl_R_37 (go rfl rfl rfl) (by decide) (by decide) (by decide) rfl ?_
          refine sx_iload d_R_hasRoom_120 rfl ?_
          refine sx_aald (r := some ((14 + i))) d_R_hasRoom_122 (go rfl rfl rfl) (t := 0) rfl (by omega) (by omega) (by decide) (gr_w _ (by omega)) ?_
          refine sx_getI (z := (M (14 + i) 0)) d_R_hasRoom_123 fl_R_142 (go_w _ (by omega)) (by decide) (by decide) (by decide) rfl ?_
          refine sx_aload_n d_R_hasRoom_126 rfl ?_
          refine sx_getR (r := some (2)) d_R_hasRoom_127 fl_R_18 (go rfl rfl rfl) (by decide) (by decide) (by decide) rfl ?_
          refine sx_getR (r := some (8)) d_R_hasRoom_130 fl_R_37 (go rfl rfl rfl) (by decide) (by decide) (by decide) rfl ?_
          refine sx_iload_n d_R_hasRoom_133 rfl ?_
          refine sx_aald (r := some ((14 + w))) d_R_hasRoom_134 (go rfl rfl rfl) (t := 0) rfl (by omega) (by omega) (by decide) (gr_w _ (by omega)) ?_
          refine sx_getI (z := (M (14 + w) 0)) d_R_hasRoom_135 fl_R_142 (go_w _ (by omega)) (by decide) (by decide) (by decide) rfl ?_
          refine sx_icmp_ne (tgt := 145) d_R_hasRoom_138 (by decide) (hR _ _) (hR _ _) (fun c138_69 => ?_) (fun c138_69 => ?_)
          · refine sx_iconst d_R_hasRoom_145 ?_
            refine sx_istore (l' := [some (sx_p 20), some (sx_p pa), some (.inl (w : Int)), some (.inl s), some (.inl (mn : Int)), some (.inl (Bd M s)), some (.inl (Bd M s + M (14 + w) 5)), some (.inl (i : Int)), some (.inl (Bd M (M pb i))), some (.inl ((Bd M (M pb i)) + (M (14 + i) 5))), some (.inl 0), some (.inl 0)]) d_R_hasRoom_146 (by decide) rfl rfl ?_
            refine sx_iload d_R_hasRoom_148 rfl ?_
            refine sx_if_eq (tgt := 160) d_R_hasRoom_150 (by decide) ⟨by decide, by decide⟩ (fun c150_73 => ?_) (fun c150_73 => ?_)
            · refine sx_iload d_R_hasRoom_160 rfl ?_
              refine sx_if_eq (tgt := 187) d_R_hasRoom_162 (by decide) ⟨by decide, by decide⟩ (fun c162_75 => ?_) (fun c162_75 => ?_)
              · refine sx_iinc (l' := [some (sx_p 20), some (sx_p pa), some (.inl (w : Int)), some (.inl s), some (.inl (mn : Int)), some (.inl (Bd M s)), some (.inl (Bd M s + M (14 + w) 5)), some (.inl ((i : Int) + 1)), some (.inl (Bd M (M pb i))), some (.inl ((Bd M (M pb i)) + (M (14 + i) 5))), some (.inl 0), some (.inl 0)]) d_R_hasRoom_187 rfl (by decide) rfl rfl ?_
                refine sx_goto (tgt := 45) d_R_hasRoom_190 (by decide) ?_
                have e1 : ((i : Int) + 1) = ((i + 1 : Nat) : Int) := by omega
                rw [e1]
                refine ih (i + 1) _ _ _ _ (by omega) (by omega) (fun o a c d1 d2 => ?_)
                rcases Nat.lt_or_ge o i with z | z
                · exact hin o z c d1 d2
                · obtain rfl : o = i := by omega
                  first | exact absurd rfl (show ¬ (o = o) by omega) | exact absurd (show o = w by omega) c | omega | exact ⟨by omega, fun d3 => by omega⟩ | exact ⟨by omega, fun d3 => by split at * <;> omega⟩
              · refine sx_iload d_R_hasRoom_165 rfl ?_
                refine sx_iload d_R_hasRoom_167 rfl ?_
                refine sx_icmp_le (tgt := 187) d_R_hasRoom_169 (by decide) (by first | omega | (split <;> omega)) (by first | omega | (split <;> omega)) (fun c169_87 => ?_) (fun c169_87 => ?_)
                · refine sx_iinc (l' := [some (sx_p 20), some (sx_p pa), some (.inl (w : Int)), some (.inl s), some (.inl (mn : Int)), some (.inl (Bd M s)), some (.inl (Bd M s + M (14 + w) 5)), some (.inl ((i : Int) + 1)), some (.inl (Bd M (M pb i))), some (.inl ((Bd M (M pb i)) + (M (14 + i) 5))), some (.inl 0), some (.inl 0)]) d_R_hasRoom_187 rfl (by decide) rfl rfl ?_
                  refine sx_goto (tgt := 45) d_R_hasRoom_190 (by decide) ?_
                  have e1 : ((i : Int) + 1) = ((i + 1 : Nat) : Int) := by omega
                  rw [e1]
                  refine ih (i + 1) _ _ _ _ (by omega) (by omega) (fun o a c d1 d2 => ?_)
                  rcases Nat.lt_or_ge o i with z | z
                  · exact hin o z c d1 d2
                  · obtain rfl : o = i := by omega
                    first | exact absurd rfl (show ¬ (o = o) by omega) | exact absurd (show o = w by omega) c | omega | exact ⟨by omega, fun d3 => by omega⟩ | exact ⟨by omega, fun d3 => by split at * <;> omega⟩
                · refine sx_aload_n d_R_hasRoom_172 rfl ?_
                  refine sx_aload_n d_R_hasRoom_173 rfl ?_
                  refine sx_iload_n d_R_hasRoom_174 rfl ?_
                  refine sx_iload d_R_hasRoom_175 rfl ?_
                  refine sx_iload d_R_hasRoom_177 rfl ?_
                  refine sx_callV (c_R_crowd M hI hR pa pb hpa hpb hab w hw hkd mn hmn hO hso (Bd M (M pb i)) (by omega)) d_R_hasRoom_179 cd_R_isCrowded lk_R_133 im_R_isCrowded se_R_isCrowded (go rfl rfl rfl) rfl rfl (by decide) (st := []) rfl rfl (Nat.le_of_ble_eq_true rfl) ⟨by decide, by decide, by decide⟩ (fun _ _ hq => ?_)
                  obtain ⟨rfl, rfl⟩ := hq
                  show sx_V _ _ _ _ (0, 0) _ _ [.inl (if M 10 (M (14 + w) 1).toNat < cn M pb w (Bd M (M pb i)) mn then 1 else 0)] (gm M) _
                  refine sx_if_eq (tgt := 187) d_R_hasRoom_182 (by decide) (by first | omega | (split <;> omega)) (fun c182_105 => ?_) (fun c182_105 => ?_)
                  · refine sx_iinc (l' := [some (sx_p 20), some (sx_p pa), some (.inl (w : Int)), some (.inl s), some (.inl (mn : Int)), some (.inl (Bd M s)), some (.inl (Bd M s + M (14 + w) 5)), some (.inl ((i : Int) + 1)), some (.inl (Bd M (M pb i))), some (.inl ((Bd M (M pb i)) + (M (14 + i) 5))), some (.inl 0), some (.inl 0)]) d_R_hasRoom_187 rfl (by decide) rfl rfl ?_
                    refine sx_goto (tgt := 45) d_R_hasRoom_190 (by decide) ?_
                    have e1 : ((i : Int) + 1) = ((i + 1 : Nat) : Int) := by omega
                    rw [e1]
                    refine ih (i + 1) _ _ _ _ (by omega) (by omega) (fun o a c d1 d2 => ?_)
                    rcases Nat.lt_or_ge o i with z | z
                    · exact hin o z c d1 d2
                    · obtain rfl : o = i := by omega
                      first | exact absurd rfl (show ¬ (o = o) by omega) | exact absurd (show o = w by omega) c | omega | exact ⟨by omega, fun d3 => by omega⟩ | exact ⟨by omega, fun d3 => by split at * <;> omega⟩
                  · refine sx_iconst d_R_hasRoom_185 ?_
                    refine sx_retI d_R_hasRoom_186 (Or.inr ⟨rfl, by first | exact Or.inl rfl | exact Or.inr rfl | omega⟩) ⟨by decide, by decide⟩ ?_
                    exact ⟨_, rfl, Or.inl rfl, rfl, ⟨fun k => absurd k (by decide), fun k => by have k2 := k.2 i (by omega) (by omega) (by omega) (by omega); first | exact absurd k2.1 (by omega) | (have k3 := k2.2 (by omega); exfalso; split at * <;> omega)⟩⟩
            · refine sx_iload d_R_hasRoom_153 rfl ?_
              refine sx_if_eq (tgt := 160) d_R_hasRoom_155 (by decide) ⟨by decide, by decide⟩ (fun c155_119 => ?_) (fun c155_119 => ?_)
              · refine sx_iload d_R_hasRoom_160 rfl ?_
                refine sx_if_eq (tgt := 187) d_R_hasRoom_162 (by decide) ⟨by decide, by decide⟩ (fun c162_121 => ?_) (fun c162_121 => ?_)
                · refine sx_iinc (l' := [some (sx_p 20), some (sx_p pa), some (.inl (w : Int)), some (.inl s), some (.inl (mn : Int)), some (.inl (Bd M s)), some (.inl (Bd M s + M (14 + w) 5)), some (.inl ((i : Int) + 1)), some (.inl (Bd M (M pb i))), some (.inl ((Bd M (M pb i)) + (M (14 + i) 5))), some (.inl 0), some (.inl 0)]) d_R_hasRoom_187 rfl (by decide) rfl rfl ?_
                  refine sx_goto (tgt := 45) d_R_hasRoom_190 (by decide) ?_
                  have e1 : ((i : Int) + 1) = ((i + 1 : Nat) : Int) := by omega
                  rw [e1]
                  refine ih (i + 1) _ _ _ _ (by omega) (by omega) (fun o a c d1 d2 => ?_)
                  rcases Nat.lt_or_ge o i with z | z
                  · exact hin o z c d1 d2
                  · obtain rfl : o = i := by omega
                    first | exact absurd rfl (show ¬ (o = o) by omega) | exact absurd (show o = w by omega) c | omega | exact ⟨by omega, fun d3 => by omega⟩ | exact ⟨by omega, fun d3 => by split at * <;> omega⟩
                · refine sx_iload d_R_hasRoom_165 rfl ?_
                  refine sx_iload d_R_hasRoom_167 rfl ?_
                  refine sx_icmp_le (tgt := 187) d_R_hasRoom_169 (by decide) (by first | omega | (split <;> omega)) (by first | omega | (split <;> omega)) (fun c169_133 => ?_) (fun c169_133 => ?_)
                  · refine sx_iinc (l' := [some (sx_p 20), some (sx_p pa), some (.inl (w : Int)), some (.inl s), some (.inl (mn : Int)), some (.inl (Bd M s)), some (.inl (Bd M s + M (14 + w) 5)), some (.inl ((i : Int) + 1)), some (.inl (Bd M (M pb i))), some (.inl ((Bd M (M pb i)) + (M (14 + i) 5))), some (.inl 0), some (.inl 0)]) d_R_hasRoom_187 rfl (by decide) rfl rfl ?_
                    refine sx_goto (tgt := 45) d_R_hasRoom_190 (by decide) ?_
                    have e1 : ((i : Int) + 1) = ((i + 1 : Nat) : Int) := by omega
                    rw [e1]
                    refine ih (i + 1) _ _ _ _ (by omega) (by omega) (fun o a c d1 d2 => ?_)
                    rcases Nat.lt_or_ge o i with z | z
                    · exact hin o z c d1 d2
                    · obtain rfl : o = i := by omega
                      first | exact absurd rfl (show ¬ (o = o) by omega) | exact absurd (show o = w by omega) c | omega | exact ⟨by omega, fun d3 => by omega⟩ | exact ⟨by omega, fun d3 => by split at * <;> omega⟩
                  · refine sx_aload_n d_R_hasRoom_172 rfl ?_
                    refine sx_aload_n d_R_hasRoom_173 rfl ?_
                    refine sx_iload_n d_R_hasRoom_174 rfl ?_
                    refine sx_iload d_R_hasRoom_175 rfl ?_
                    refine sx_iload d_R_hasRoom_177 rfl ?_
                    refine sx_callV (c_R_crowd M hI hR pa pb hpa hpb hab w hw hkd mn hmn hO hso (Bd M (M pb i)) (by omega)) d_R_hasRoom_179 cd_R_isCrowded lk_R_133 im_R_isCrowded se_R_isCrowded (go rfl rfl rfl) rfl rfl (by decide) (st := []) rfl rfl (Nat.le_of_ble_eq_true rfl) ⟨by decide, by decide, by decide⟩ (fun _ _ hq => ?_)
                    obtain ⟨rfl, rfl⟩ := hq
                    show sx_V _ _ _ _ (0, 0) _ _ [.inl (if M 10 (M (14 + w) 1).toNat < cn M pb w (Bd M (M pb i)) mn then 1 else 0)] (gm M) _
                    refine sx_if_eq (tgt := 187) d_R_hasRoom_182 (by decide) (by first | omega | (split <;> omega)) (fun c182_151 => ?_) (fun c182_151 => ?_)
                    · refine sx_iinc (l' := [some (sx_p 20), some (sx_p pa), some (.inl (w : Int)), some (.inl s), some (.inl (mn : Int)), some (.inl (Bd M s)), some (.inl (Bd M s + M (14 + w) 5)), some (.inl ((i : Int) + 1)), some (.inl (Bd M (M pb i))), some (.inl ((Bd M (M pb i)) + (M (14 + i) 5))), some (.inl 0), some (.inl 0)]) d_R_hasRoom_187 rfl (by decide) rfl rfl ?_
                      refine sx_goto (tgt := 45) d_R_hasRoom_190 (by decide) ?_
                      have e1 : ((i : Int) + 1) = ((i + 1 : Nat) : Int) := by omega
                      rw [e1]
                      refine ih (i + 1) _ _ _ _ (by omega) (by omega) (fun o a c d1 d2 => ?_)
                      rcases Nat.lt_or_ge o i with z | z
                      · exact hin o z c d1 d2
                      · obtain rfl : o = i := by omega
                        first | exact absurd rfl (show ¬ (o = o) by omega) | exact absurd (show o = w by omega) c | omega | exact ⟨by omega, fun d3 => by omega⟩ | exact ⟨by omega, fun d3 => by split at * <;> omega⟩
                    · refine sx_iconst d_R_hasRoom_185 ?_
                      refine sx_retI d_R_hasRoom_186 (Or.inr ⟨rfl, by first | exact Or.inl rfl | exact Or.inr rfl | omega⟩) ⟨by decide, by decide⟩ ?_
                      exact ⟨_, rfl, Or.inl rfl, rfl, ⟨fun k => absurd k (by decide), fun k => by have k2 := k.2 i (by omega) (by omega) (by omega) (by omega); first | exact absurd k2.1 (by omega) | (have k3 := k2.2 (by omega); exfalso; split at * <;> omega)⟩⟩
              · refine sx_iconst d_R_hasRoom_158 ?_
                refine sx_retI d_R_hasRoom_159 (Or.inr ⟨rfl, by first | exact Or.inl rfl | exact Or.inr rfl | omega⟩) ⟨by decide, by decide⟩ ?_
                exact ⟨_, rfl, Or.inl rfl, rfl, ⟨fun k => absurd k (by decide), fun k => by have k2 := k.2 i (by omega) (by omega) (by omega) (by omega); first | exact absurd k2.1 (by omega) | (have k3 := k2.2 (by omega); exfalso; split at * <;> omega)⟩⟩
          · refine sx_iconst d_R_hasRoom_141 ?_
            refine sx_goto (tgt := 146) d_R_hasRoom_142 (by decide) ?_
            refine sx_istore (l' := [some (sx_p 20), some (sx_p pa), some (.inl (w : Int)), some (.inl s), some (.inl (mn : Int)), some (.inl (Bd M s)), some (.inl (Bd M s + M (14 + w) 5)), some (.inl (i : Int)), some (.inl (Bd M (M pb i))), some (.inl ((Bd M (M pb i)) + (M (14 + i) 5))), some (.inl 0), some (.inl 1)]) d_R_hasRoom_146 (by decide) rfl rfl ?_
            refine sx_iload d_R_hasRoom_148 rfl ?_
            refine sx_if_eq (tgt := 160) d_R_hasRoom_150 (by decide) ⟨by decide, by decide⟩ (fun c150_171 => ?_) (fun c150_171 => ?_)
            · refine sx_iload d_R_hasRoom_160 rfl ?_
              refine sx_if_eq (tgt := 187) d_R_hasRoom_162 (by decide) ⟨by decide, by decide⟩ (fun c162_173 => ?_) (fun c162_173 => ?_)
              · refine sx_iinc (l' := [some (sx_p 20), some (sx_p pa), some (.inl (w : Int)), some (.inl s), some (.inl (mn : Int)), some (.inl (Bd M s)), some (.inl (Bd M s + M (14 + w) 5)), some (.inl ((i : Int) + 1)), some (.inl (Bd M (M pb i))), some (.inl ((Bd M (M pb i)) + (M (14 + i) 5))), some (.inl 0), some (.inl 1)]) d_R_hasRoom_187 rfl (by decide) rfl rfl ?_
                refine sx_goto (tgt := 45) d_R_hasRoom_190 (by decide) ?_
                have e1 : ((i : Int) + 1) = ((i + 1 : Nat) : Int) := by omega
                rw [e1]
                refine ih (i + 1) _ _ _ _ (by omega) (by omega) (fun o a c d1 d2 => ?_)
                rcases Nat.lt_or_ge o i with z | z
                · exact hin o z c d1 d2
                · obtain rfl : o = i := by omega
                  first | exact absurd rfl (show ¬ (o = o) by omega) | exact absurd (show o = w by omega) c | omega | exact ⟨by omega, fun d3 => by omega⟩ | exact ⟨by omega, fun d3 => by split at * <;> omega⟩
              · refine sx_iload d_R_hasRoom_165 rfl ?_
                refine sx_iload d_R_hasRoom_167 rfl ?_
                refine sx_icmp_le (tgt := 187) d_R_hasRoom_169 (by decide) (by first | omega | (split <;> omega)) (by first | omega | (split <;> omega)) (fun c169_185 => ?_) (fun c169_185 => ?_)
                · refine sx_iinc (l' := [some (sx_p 20), some (sx_p pa), some (.inl (w : Int)), some (.inl s), some (.inl (mn : Int)), some (.inl (Bd M s)), some (.inl (Bd M s + M (14 + w) 5)), some (.inl ((i : Int) + 1)), some (.inl (Bd M (M pb i))), some (.inl ((Bd M (M pb i)) + (M (14 + i) 5))), some (.inl 0), some (.inl 1)]) d_R_hasRoom_187 rfl (by decide) rfl rfl ?_
                  refine sx_goto (tgt := 45) d_R_hasRoom_190 (by decide) ?_
                  have e1 : ((i : Int) + 1) = ((i + 1 : Nat) : Int) := by omega
                  rw [e1]
                  refine ih (i + 1) _ _ _ _ (by omega) (by omega) (fun o a c d1 d2 => ?_)
                  rcases Nat.lt_or_ge o i with z | z
                  · exact hin o z c d1 d2
                  · obtain rfl : o = i := by omega
                    first | exact absurd rfl (show ¬ (o = o) by omega) | exact absurd (show o = w by omega) c | omega | exact ⟨by omega, fun d3 => by omega⟩ | exact ⟨by omega, fun d3 => by split at * <;> omega⟩
                · refine sx_aload_n d_R_hasRoom_172 rfl ?_
                  refine sx_aload_n d_R_hasRoom_173 rfl ?_
                  refine sx_iload_n d_R_hasRoom_174 rfl ?_
                  refine sx_iload d_R_hasRoom_175 rfl ?_
                  refine sx_iload d_R_hasRoom_177 rfl ?_
                  refine sx_callV (c_R_crowd M hI hR pa pb hpa hpb hab w hw hkd mn hmn hO hso (Bd M (M pb i)) (by omega)) d_R_hasRoom_179 cd_R_isCrowded lk_R_133 im_R_isCrowded se_R_isCrowded (go rfl rfl rfl) rfl rfl (by decide) (st := []) rfl rfl (Nat.le_of_ble_eq_true rfl) ⟨by decide, by decide, by decide⟩ (fun _ _ hq => ?_)
                  obtain ⟨rfl, rfl⟩ := hq
                  show sx_V _ _ _ _ (0, 0) _ _ [.inl (if M 10 (M (14 + w) 1).toNat < cn M pb w (Bd M (M pb i)) mn then 1 else 0)] (gm M) _
                  refine sx_if_eq (tgt := 187) d_R_hasRoom_182 (by decide) (by first | omega | (split <;> omega)) (fun c182_203 => ?_) (fun c182_203 => ?_)
                  · refine sx_iinc (l' := [some (sx_p 20), some (sx_p pa), some (.inl (w : Int)), some (.inl s), some (.inl (mn : Int)), some (.inl (Bd M s)), some (.inl (Bd M s + M (14 + w) 5)), some (.inl ((i : Int) + 1)), some (.inl (Bd M (M pb i))), some (.inl ((Bd M (M pb i)) + (M (14 + i) 5))), some (.inl 0), some (.inl 1)]) d_R_hasRoom_187 rfl (by decide) rfl rfl ?_
                    refine sx_goto (tgt := 45) d_R_hasRoom_190 (by decide) ?_
                    have e1 : ((i : Int) + 1) = ((i + 1 : Nat) : Int) := by omega
                    rw [e1]
                    refine ih (i + 1) _ _ _ _ (by omega) (by omega) (fun o a c d1 d2 => ?_)
                    rcases Nat.lt_or_ge o i with z | z
                    · exact hin o z c d1 d2
                    · obtain rfl : o = i := by omega
                      first | exact absurd rfl (show ¬ (o = o) by omega) | exact absurd (show o = w by omega) c | omega | exact ⟨by omega, fun d3 => by omega⟩ | exact ⟨by omega, fun d3 => by split at * <;> omega⟩
                  · refine sx_iconst d_R_hasRoom_185 ?_
                    refine sx_retI d_R_hasRoom_186 (Or.inr ⟨rfl, by first | exact Or.inl rfl | exact Or.inr rfl | omega⟩) ⟨by decide, by decide⟩ ?_
                    exact ⟨_, rfl, Or.inl rfl, rfl, ⟨fun k => absurd k (by decide), fun k => by have k2 := k.2 i (by omega) (by omega) (by omega) (by omega); first | exact absurd k2.1 (by omega) | (have k3 := k2.2 (by omega); exfalso; split at * <;> omega)⟩⟩
            · refine sx_iload d_R_hasRoom_153 rfl ?_
              refine sx_if_eq (tgt := 160) d_R_hasRoom_155 (by decide) ⟨by decide, by decide⟩ (fun c155_217 => ?_) (fun c155_217 => ?_)
              · refine sx_iload d_R_hasRoom_160 rfl ?_
                refine sx_if_eq (tgt := 187) d_R_hasRoom_162 (by decide) ⟨by decide, by decide⟩ (fun c162_219 => ?_) (fun c162_219 => ?_)
                · refine sx_iinc (l' := [some (sx_p 20), some (sx_p pa), some (.inl (w : Int)), some (.inl s), some (.inl (mn : Int)), some (.inl (Bd M s)), some (.inl (Bd M s + M (14 + w) 5)), some (.inl ((i : Int) + 1)), some (.inl (Bd M (M pb i))), some (.inl ((Bd M (M pb i)) + (M (14 + i) 5))), some (.inl 0), some (.inl 1)]) d_R_hasRoom_187 rfl (by decide) rfl rfl ?_
                  refine sx_goto (tgt := 45) d_R_hasRoom_190 (by decide) ?_
                  have e1 : ((i : Int) + 1) = ((i + 1 : Nat) : Int) := by omega
                  rw [e1]
                  refine ih (i + 1) _ _ _ _ (by omega) (by omega) (fun o a c d1 d2 => ?_)
                  rcases Nat.lt_or_ge o i with z | z
                  · exact hin o z c d1 d2
                  · obtain rfl : o = i := by omega
                    first | exact absurd rfl (show ¬ (o = o) by omega) | exact absurd (show o = w by omega) c | omega | exact ⟨by omega, fun d3 => by omega⟩ | exact ⟨by omega, fun d3 => by split at * <;> omega⟩
                · refine sx_iload d_R_hasRoom_165 rfl ?_
                  refine sx_iload d_R_hasRoom_167 rfl ?_
                  refine sx_icmp_le (tgt := 187) d_R_hasRoom_169 (by decide) (by first | omega | (split <;> omega)) (by first | omega | (split <;> omega)) (fun c169_231 => ?_) (fun c169_231 => ?_)
                  · refine sx_iinc (l' := [some (sx_p 20), some (sx_p pa), some (.inl (w : Int)), some (.inl s), some (.inl (mn : Int)), some (.inl (Bd M s)), some (.inl (Bd M s + M (14 + w) 5)), some (.inl ((i : Int) + 1)), some (.inl (Bd M (M pb i))), some (.inl ((Bd M (M pb i)) + (M (14 + i) 5))), some (.inl 0), some (.inl 1)]) d_R_hasRoom_187 rfl (by decide) rfl rfl ?_
                    refine sx_goto (tgt := 45) d_R_hasRoom_190 (by decide) ?_
                    have e1 : ((i : Int) + 1) = ((i + 1 : Nat) : Int) := by omega
                    rw [e1]
                    refine ih (i + 1) _ _ _ _ (by omega) (by omega) (fun o a c d1 d2 => ?_)
                    rcases Nat.lt_or_ge o i with z | z
                    · exact hin o z c d1 d2
                    · obtain rfl : o = i := by omega
                      first | exact absurd rfl (show ¬ (o = o) by omega) | exact absurd (show o = w by omega) c | omega | exact ⟨by omega, fun d3 => by omega⟩ | exact ⟨by omega, fun d3 => by split at * <;> omega⟩
                  · refine sx_aload_n d_R_hasRoom_172 rfl ?_
                    refine sx_aload_n d_R_hasRoom_173 rfl ?_
                    refine sx_iload_n d_R_hasRoom_174 rfl ?_
                    refine sx_iload d_R_hasRoom_175 rfl ?_
                    refine sx_iload d_R_hasRoom_177 rfl ?_
                    refine sx_callV (c_R_crowd M hI hR pa pb hpa hpb hab w hw hkd mn hmn hO hso (Bd M (M pb i)) (by omega)) d_R_hasRoom_179 cd_R_isCrowded lk_R_133 im_R_isCrowded se_R_isCrowded (go rfl rfl rfl) rfl rfl (by decide) (st := []) rfl rfl (Nat.le_of_ble_eq_true rfl) ⟨by decide, by decide, by decide⟩ (fun _ _ hq => ?_)
                    obtain ⟨rfl, rfl⟩ := hq
                    show sx_V _ _ _ _ (0, 0) _ _ [.inl (if M 10 (M (14 + w) 1).toNat < cn M pb w (Bd M (M pb i)) mn then 1 else 0)] (gm M) _
                    refine sx_if_eq (tgt := 187) d_R_hasRoom_182 (by decide) (by first | omega | (split <;> omega)) (fun c182_249 => ?_) (fun c182_249 => ?_)
                    · refine sx_iinc (l' := [some (sx_p 20), some (sx_p pa), some (.inl (w : Int)), some (.inl s), some (.inl (mn : Int)), some (.inl (Bd M s)), some (.inl (Bd M s + M (14 + w) 5)), some (.inl ((i : Int) + 1)), some (.inl (Bd M (M pb i))), some (.inl ((Bd M (M pb i)) + (M (14 + i) 5))), some (.inl 0), some (.inl 1)]) d_R_hasRoom_187 rfl (by decide) rfl rfl ?_
                      refine sx_goto (tgt := 45) d_R_hasRoom_190 (by decide) ?_
                      have e1 : ((i : Int) + 1) = ((i + 1 : Nat) : Int) := by omega
                      rw [e1]
                      refine ih (i + 1) _ _ _ _ (by omega) (by omega) (fun o a c d1 d2 => ?_)
                      rcases Nat.lt_or_ge o i with z | z
                      · exact hin o z c d1 d2
                      · obtain rfl : o = i := by omega
                        first | exact absurd rfl (show ¬ (o = o) by omega) | exact absurd (show o = w by omega) c | omega | exact ⟨by omega, fun d3 => by omega⟩ | exact ⟨by omega, fun d3 => by split at * <;> omega⟩
                    · refine sx_iconst d_R_hasRoom_185 ?_
                      refine sx_retI d_R_hasRoom_186 (Or.inr ⟨rfl, by first | exact Or.inl rfl | exact Or.inr rfl | omega⟩) ⟨by decide, by decide⟩ ?_
                      exact ⟨_, rfl, Or.inl rfl, rfl, ⟨fun k => absurd k (by decide), fun k => by have k2 := k.2 i (by omega) (by omega) (by omega) (by omega); first | exact absurd k2.1 (by omega) | (have k3 := k2.2 (by omega); exfalso; split at * <;> omega)⟩⟩
              · refine sx_iconst d_R_hasRoom_158 ?_
                refine sx_retI d_R_hasRoom_159 (Or.inr ⟨rfl, by first | exact Or.inl rfl | exact Or.inr rfl | omega⟩) ⟨by decide, by decide⟩ ?_
                exact ⟨_, rfl, Or.inl rfl, rfl, ⟨fun k => absurd k (by decide), fun k => by have k2 := k.2 i (by omega) (by omega) (by omega) (by omega); first | exact absurd k2.1 (by omega) | (have k3 := k2.2 (by omega); exfalso; split at * <;> omega)⟩⟩
        · refine sx_iload d_R_hasRoom_99 rfl ?_
          refine sx_iload d_R_hasRoom_101 rfl ?_
          refine sx_icmp_ge (tgt := 110) d_R_hasRoom_103 (by decide) (by first | omega | (split <;> omega)) (by first | omega | (split <;> omega)) (fun c103_267 => ?_) (fun c103_267 => ?_)
          · refine sx_iconst d_R_hasRoom_110 ?_
            refine sx_istore (l' := [some (sx_p 20), some (sx_p pa), some (.inl (w : Int)), some (.inl s), some (.inl (mn : Int)), some (.inl (Bd M s)), some (.inl (Bd M s + M (14 + w) 5)), some (.inl (i : Int)), some (.inl (Bd M (M pb i))), some (.inl ((Bd M (M pb i)) + (M (14 + i) 5))), some (.inl 0), l11]) d_R_hasRoom_111 (by decide) rfl rfl ?_
            refine sx_aload_n d_R_hasRoom_113 rfl ?_
            refine sx_getR (r := some (2)) d_R_hasRoom_114 fl_R_18 (go rfl rfl rfl) (by decide) (by decide) (by decide) rfl ?_
            refine sx_getR (r := some (8)) d_R_hasRoom_117 fl_R_37 (go rfl rfl rfl) (by decide) (by decide) (by decide) rfl ?_
            refine sx_iload d_R_hasRoom_120 rfl ?_
            refine sx_aald (r := some ((14 + i))) d_R_hasRoom_122 (go rfl rfl rfl) (t := 0) rfl (by omega) (by omega) (by decide) (gr_w _ (by omega)) ?_
            refine sx_getI (z := (M (14 + i) 0)) d_R_hasRoom_123 fl_R_142 (go_w _ (by omega)) (by decide) (by decide) (by decide) rfl ?_
            refine sx_aload_n d_R_hasRoom_126 rfl ?_
            refine sx_getR (r := some (2)) d_R_hasRoom_127 fl_R_18 (go rfl rfl rfl) (by decide) (by decide) (by decide) rfl ?_
            refine sx_getR (r := some (8)) d_R_hasRoom_130 fl_R_37 (go rfl rfl rfl) (by decide) (by decide) (by decide) rfl ?_
            refine sx_iload_n d_R_hasRoom_133 rfl ?_
            refine sx_aald (r := some ((14 + w))) d_R_hasRoom_134 (go rfl rfl rfl) (t := 0) rfl (by omega) (by omega) (by decide) (gr_w _ (by omega)) ?_
            refine sx_getI (z := (M (14 + w) 0)) d_R_hasRoom_135 fl_R_142 (go_w _ (by omega)) (by decide) (by decide) (by decide) rfl ?_
            refine sx_icmp_ne (tgt := 145) d_R_hasRoom_138 (by decide) (hR _ _) (hR _ _) (fun c138_282 => ?_) (fun c138_282 => ?_)
            · refine sx_iconst d_R_hasRoom_145 ?_
              refine sx_istore (l' := [some (sx_p 20), some (sx_p pa), some (.inl (w : Int)), some (.inl s), some (.inl (mn : Int)), some (.inl (Bd M s)), some (.inl (Bd M s + M (14 + w) 5)), some (.inl (i : Int)), some (.inl (Bd M (M pb i))), some (.inl ((Bd M (M pb i)) + (M (14 + i) 5))), some (.inl 0), some (.inl 0)]) d_R_hasRoom_146 (by decide) rfl rfl ?_
              refine sx_iload d_R_hasRoom_148 rfl ?_
              refine sx_if_eq (tgt := 160) d_R_hasRoom_150 (by decide) ⟨by decide, by decide⟩ (fun c150_286 => ?_) (fun c150_286 => ?_)
              · refine sx_iload d_R_hasRoom_160 rfl ?_
                refine sx_if_eq (tgt := 187) d_R_hasRoom_162 (by decide) ⟨by decide, by decide⟩ (fun c162_288 => ?_) (fun c162_288 => ?_)
                · refine sx_iinc (l' := [some (sx_p 20), some (sx_p pa), some (.inl (w : Int)), some (.inl s), some (.inl (mn : Int)), some (.inl (Bd M s)), some (.inl (Bd M s + M (14 + w) 5)), some (.inl ((i : Int) + 1)), some (.inl (Bd M (M pb i))), some (.inl ((Bd M (M pb i)) + (M (14 + i) 5))), some (.inl 0), some (.inl 0)]) d_R_hasRoom_187 rfl (by decide) rfl rfl ?_
                  refine sx_goto (tgt := 45) d_R_hasRoom_190 (by decide) ?_
                  have e1 : ((i : Int) + 1) = ((i + 1 : Nat) : Int) := by omega
                  rw [e1]
                  refine ih (i + 1) _ _ _ _ (by omega) (by omega) (fun o a c d1 d2 => ?_)
                  rcases Nat.lt_or_ge o i with z | z
                  · exact hin o z c d1 d2
                  · obtain rfl : o = i := by omega
                    first | exact absurd rfl (show ¬ (o = o) by omega) | exact absurd (show o = w by omega) c | omega | exact ⟨by omega, fun d3 => by omega⟩ | exact ⟨by omega, fun d3 => by split at * <;> omega⟩
                · refine sx_iload d_R_hasRoom_165 rfl ?_
                  refine sx_iload d_R_hasRoom_167 rfl ?_
                  refine sx_icmp_le (tgt := 187) d_R_hasRoom_169 (by decide) (by first | omega | (split <;> omega)) (by first | omega | (split <;> omega)) (fun c169_300 => ?_) (fun c169_300 => ?_)
                  · refine sx_iinc (l' := [some (sx_p 20), some (sx_p pa), some (.inl (w : Int)), some (.inl s), some (.inl (mn : Int)), some (.inl (Bd M s)), some (.inl (Bd M s + M (14 + w) 5)), some (.inl ((i : Int) + 1)), some (.inl (Bd M (M pb i))), some (.inl ((Bd M (M pb i)) + (M (14 + i) 5))), some (.inl 0), some (.inl 0)]) d_R_hasRoom_187 rfl (by decide) rfl rfl ?_
                    refine sx_goto (tgt := 45) d_R_hasRoom_190 (by decide) ?_
                    have e1 : ((i : Int) + 1) = ((i + 1 : Nat) : Int) := by omega
                    rw [e1]
                    refine ih (i + 1) _ _ _ _ (by omega) (by omega) (fun o a c d1 d2 => ?_)
                    rcases Nat.lt_or_ge o i with z | z
                    · exact hin o z c d1 d2
                    · obtain rfl : o = i := by omega
                      first | exact absurd rfl (show ¬ (o = o) by omega) | exact absurd (show o = w by omega) c | omega | exact ⟨by omega, fun d3 => by omega⟩ | exact ⟨by omega, fun d3 => by split at * <;> omega⟩
                  · refine sx_aload_n d_R_hasRoom_172 rfl ?_
                    refine sx_aload_n d_R_hasRoom_173 rfl ?_
                    refine sx_iload_n d_R_hasRoom_174 rfl ?_
                    refine sx_iload d_R_hasRoom_175 rfl ?_
                    refine sx_iload d_R_hasRoom_177 rfl ?_
                    refine sx_callV (c_R_crowd M hI hR pa pb hpa hpb hab w hw hkd mn hmn hO hso (Bd M (M pb i)) (by omega)) d_R_hasRoom_179 cd_R_isCrowded lk_R_133 im_R_isCrowded se_R_isCrowded (go rfl rfl rfl) rfl rfl (by decide) (st := []) rfl rfl (Nat.le_of_ble_eq_true rfl) ⟨by decide, by decide, by decide⟩ (fun _ _ hq => ?_)
                    obtain ⟨rfl, rfl⟩ := hq
                    show sx_V _ _ _ _ (0, 0) _ _ [.inl (if M 10 (M (14 + w) 1).toNat < cn M pb w (Bd M (M pb i)) mn then 1 else 0)] (gm M) _
                    refine sx_if_eq (tgt := 187) d_R_hasRoom_182 (by decide) (by first | omega | (split <;> omega)) (fun c182_318 => ?_) (fun c182_318 => ?_)
                    · refine sx_iinc (l' := [some (sx_p 20), some (sx_p pa), some (.inl (w : Int)), some (.inl s), some (.inl (mn : Int)), some (.inl (Bd M s)), some (.inl (Bd M s + M (14 + w) 5)), some (.inl ((i : Int) + 1)), some (.inl (Bd M (M pb i))), some (.inl ((Bd M (M pb i)) + (M (14 + i) 5))), some (.inl 0), some (.inl 0)]) d_R_hasRoom_187 rfl (by decide) rfl rfl ?_
                      refine sx_goto (tgt := 45) d_R_hasRoom_190 (by decide) ?_
                      have e1 : ((i : Int) + 1) = ((i + 1 : Nat) : Int) := by omega
                      rw [e1]
                      refine ih (i + 1) _ _ _ _ (by omega) (by omega) (fun o a c d1 d2 => ?_)
                      rcases Nat.lt_or_ge o i with z | z
                      · exact hin o z c d1 d2
                      · obtain rfl : o = i := by omega
                        first | exact absurd rfl (show ¬ (o = o) by omega) | exact absurd (show o = w by omega) c | omega | exact ⟨by omega, fun d3 => by omega⟩ | exact ⟨by omega, fun d3 => by split at * <;> omega⟩
                    · refine sx_iconst d_R_hasRoom_185 ?_
                      refine sx_retI d_R_hasRoom_186 (Or.inr ⟨rfl, by first | exact Or.inl rfl | exact Or.inr rfl | omega⟩) ⟨by decide, by decide⟩ ?_
                      exact ⟨_, rfl, Or.inl rfl, rfl, ⟨fun k => absurd k (by decide), fun k => by have k2 := k.2 i (by omega) (by omega) (by omega) (by omega); first | exact absurd k2.1 (by omega) | (have k3 := k2.2 (by omega); exfalso; split at * <;> omega)⟩⟩
              · refine sx_iload d_R_hasRoom_153 rfl ?_
                refine sx_if_eq (tgt := 160) d_R_hasRoom_155 (by decide) ⟨by decide, by decide⟩ (fun c155_332 => ?_) (fun c155_332 => ?_)
                · refine sx_iload d_R_hasRoom_160 rfl ?_
                  refine sx_if_eq (tgt := 187) d_R_hasRoom_162 (by decide) ⟨by decide, by decide⟩ (fun c162_334 => ?_) (fun c162_334 => ?_)
                  · refine sx_iinc (l' := [some (sx_p 20), some (sx_p pa), some (.inl (w : Int)), some (.inl s), some (.inl (mn : Int)), some (.inl (Bd M s)), some (.inl (Bd M s + M (14 + w) 5)), some (.inl ((i : Int) + 1)), some (.inl (Bd M (M pb i))), some (.inl ((Bd M (M pb i)) + (M (14 + i) 5))), some (.inl 0), some (.inl 0)]) d_R_hasRoom_187 rfl (by decide) rfl rfl ?_
                    refine sx_goto (tgt := 45) d_R_hasRoom_190 (by decide) ?_
                    have e1 : ((i : Int) + 1) = ((i + 1 : Nat) : Int) := by omega
                    rw [e1]
                    refine ih (i + 1) _ _ _ _ (by omega) (by omega) (fun o a c d1 d2 => ?_)
                    rcases Nat.lt_or_ge o i with z | z
                    · exact hin o z c d1 d2
                    · obtain rfl : o = i := by omega
                      first | exact absurd rfl (show ¬ (o = o) by omega) | exact absurd (show o = w by omega) c | omega | exact ⟨by omega, fun d3 => by omega⟩ | exact ⟨by omega, fun d3 => by split at * <;> omega⟩
                  · refine sx_iload d_R_hasRoom_165 rfl ?_
                    refine sx_iload d_R_hasRoom_167 rfl ?_
                    refine sx_icmp_le (tgt := 187) d_R_hasRoom_169 (by decide) (by first | omega | (split <;> omega)) (by first | omega | (split <;> omega)) (fun c169_346 => ?_) (fun c169_346 => ?_)
                    · refine sx_iinc (l' := [some (sx_p 20), some (sx_p pa), some (.inl (w : Int)), some (.inl s), some (.inl (mn : Int)), some (.inl (Bd M s)), some (.inl (Bd M s + M (14 + w) 5)), some (.inl ((i : Int) + 1)), some (.inl (Bd M (M pb i))), some (.inl ((Bd M (M pb i)) + (M (14 + i) 5))), some (.inl 0), some (.inl 0)]) d_R_hasRoom_187 rfl (by decide) rfl rfl ?_
                      refine sx_goto (tgt := 45) d_R_hasRoom_190 (by decide) ?_
                      have e1 : ((i : Int) + 1) = ((i + 1 : Nat) : Int) := by omega
                      rw [e1]
                      refine ih (i + 1) _ _ _ _ (by omega) (by omega) (fun o a c d1 d2 => ?_)
                      rcases Nat.lt_or_ge o i with z | z
                      · exact hin o z c d1 d2
                      · obtain rfl : o = i := by omega
                        first | exact absurd rfl (show ¬ (o = o) by omega) | exact absurd (show o = w by omega) c | omega | exact ⟨by omega, fun d3 => by omega⟩ | exact ⟨by omega, fun d3 => by split at * <;> omega⟩
                    · refine sx_aload_n d_R_hasRoom_172 rfl ?_
                      refine sx_aload_n d_R_hasRoom_173 rfl ?_
                      refine sx_iload_n d_R_hasRoom_174 rfl ?_
                      refine sx_iload d_R_hasRoom_175 rfl ?_
                      refine sx_iload d_R_hasRoom_177 rfl ?_
                      refine sx_callV (c_R_crowd M hI hR pa pb hpa hpb hab w hw hkd mn hmn hO hso (Bd M (M pb i)) (by omega)) d_R_hasRoom_179 cd_R_isCrowded lk_R_133 im_R_isCrowded se_R_isCrowded (go rfl rfl rfl) rfl rfl (by decide) (st := []) rfl rfl (Nat.le_of_ble_eq_true rfl) ⟨by decide, by decide, by decide⟩ (fun _ _ hq => ?_)
                      obtain ⟨rfl, rfl⟩ := hq
                      show sx_V _ _ _ _ (0, 0) _ _ [.inl (if M 10 (M (14 + w) 1).toNat < cn M pb w (Bd M (M pb i)) mn then 1 else 0)] (gm M) _
                      refine sx_if_eq (tgt := 187) d_R_hasRoom_182 (by decide) (by first | omega | (split <;> omega)) (fun c182_364 => ?_) (fun c182_364 => ?_)
                      · refine sx_iinc (l' := [some (sx_p 20), some (sx_p pa), some (.inl (w : Int)), some (.inl s), some (.inl (mn : Int)), some (.inl (Bd M s)), some (.inl (Bd M s + M (14 + w) 5)), some (.inl ((i : Int) + 1)), some (.inl (Bd M (M pb i))), some (.inl ((Bd M (M pb i)) + (M (14 + i) 5))), some (.inl 0), some (.inl 0)]) d_R_hasRoom_187 rfl (by decide) rfl rfl ?_
                        refine sx_goto (tgt := 45) d_R_hasRoom_190 (by decide) ?_
                        have e1 : ((i : Int) + 1) = ((i + 1 : Nat) : Int) := by omega
                        rw [e1]
                        refine ih (i + 1) _ _ _ _ (by omega) (by omega) (fun o a c d1 d2 => ?_)
                        rcases Nat.lt_or_ge o i with z | z
                        · exact hin o z c d1 d2
                        · obtain rfl : o = i := by omega
                          first | exact absurd rfl (show ¬ (o = o) by omega) | exact absurd (show o = w by omega) c | omega | exact ⟨by omega, fun d3 => by omega⟩ | exact ⟨by omega, fun d3 => by split at * <;> omega⟩
                      · refine sx_iconst d_R_hasRoom_185 ?_
                        refine sx_retI d_R_hasRoom_186 (Or.inr ⟨rfl, by first | exact Or.inl rfl | exact Or.inr rfl | omega⟩) ⟨by decide, by decide⟩ ?_
                        exact ⟨_, rfl, Or.inl rfl, rfl, ⟨fun k => absurd k (by decide), fun k => by have k2 := k.2 i (by omega) (by omega) (by omega) (by omega); first | exact absurd k2.1 (by omega) | (have k3 := k2.2 (by omega); exfalso; split at * <;> omega)⟩⟩
                · refine sx_iconst d_R_hasRoom_158 ?_
                  refine sx_retI d_R_hasRoom_159 (Or.inr ⟨rfl, by first | exact Or.inl rfl | exact Or.inr rfl | omega⟩) ⟨by decide, by decide⟩ ?_
                  exact ⟨_, rfl, Or.inl rfl, rfl, ⟨fun k => absurd k (by decide), fun k => by have k2 := k.2 i (by omega) (by omega) (by omega) (by omega); first | exact absurd k2.1 (by omega) | (have k3 := k2.2 (by omega); exfalso; split at * <;> omega)⟩⟩
            · refine sx_iconst d_R_hasRoom_141 ?_
              refine sx_goto (tgt := 146) d_R_hasRoom_142 (by decide) ?_
              refine sx_istore (l' := [some (sx_p 20), some (sx_p pa), some (.inl (w : Int)), some (.inl s), some (.inl (mn : Int)), some (.inl (Bd M s)), some (.inl (Bd M s + M (14 + w) 5)), some (.inl (i : Int)), some (.inl (Bd M (M pb i))), some (.inl ((Bd M (M pb i)) + (M (14 + i) 5))), some (.inl 0), some (.inl 1)]) d_R_hasRoom_146 (by decide) rfl rfl ?_
              refine sx_iload d_R_hasRoom_148 rfl ?_
              refine sx_if_eq (tgt := 160) d_R_hasRoom_150 (by decide) ⟨by decide, by decide⟩ (fun c150_384 => ?_) (fun c150_384 => ?_)
              · refine sx_iload d_R_hasRoom_160 rfl ?_
                refine sx_if_eq (tgt := 187) d_R_hasRoom_162 (by decide) ⟨by decide, by decide⟩ (fun c162_386 => ?_) (fun c162_386 => ?_)
                · refine sx_iinc (l' := [some (sx_p 20), some (sx_p pa), some (.inl (w : Int)), some (.inl s), some (.inl (mn : Int)), some (.inl (Bd M s)), some (.inl (Bd M s + M (14 + w) 5)), some (.inl ((i : Int) + 1)), some (.inl (Bd M (M pb i))), some (.inl ((Bd M (M pb i)) + (M (14 + i) 5))), some (.inl 0), some (.inl 1)]) d_R_hasRoom_187 rfl (by decide) rfl rfl ?_
                  refine sx_goto (tgt := 45) d_R_hasRoom_190 (by decide) ?_
                  have e1 : ((i : Int) + 1) = ((i + 1 : Nat) : Int) := by omega
                  rw [e1]
                  refine ih (i + 1) _ _ _ _ (by omega) (by omega) (fun o a c d1 d2 => ?_)
                  rcases Nat.lt_or_ge o i with z | z
                  · exact hin o z c d1 d2
                  · obtain rfl : o = i := by omega
                    first | exact absurd rfl (show ¬ (o = o) by omega) | exact absurd (show o = w by omega) c | omega | exact ⟨by omega, fun d3 => by omega⟩ | exact ⟨by omega, fun d3 => by split at * <;> omega⟩
                · refine sx_iload d_R_hasRoom_165 rfl ?_
                  refine sx_iload d_R_hasRoom_167 rfl ?_
                  refine sx_icmp_le (tgt := 187) d_R_hasRoom_169 (by decide) (by first | omega | (split <;> omega)) (by first | omega | (split <;> omega)) (fun c169_398 => ?_) (fun c169_398 => ?_)
                  · refine sx_iinc (l' := [some (sx_p 20), some (sx_p pa), some (.inl (w : Int)), some (.inl s), some (.inl (mn : Int)), some (.inl (Bd M s)), some (.inl (Bd M s + M (14 + w) 5)), some (.inl ((i : Int) + 1)), some (.inl (Bd M (M pb i))), some (.inl ((Bd M (M pb i)) + (M (14 + i) 5))), some (.inl 0), some (.inl 1)]) d_R_hasRoom_187 rfl (by decide) rfl rfl ?_
                    refine sx_goto (tgt := 45) d_R_hasRoom_190 (by decide) ?_
                    have e1 : ((i : Int) + 1) = ((i + 1 : Nat) : Int) := by omega
                    rw [e1]
                    refine ih (i + 1) _ _ _ _ (by omega) (by omega) (fun o a c d1 d2 => ?_)
                    rcases Nat.lt_or_ge o i with z | z
                    · exact hin o z c d1 d2
                    · obtain rfl : o = i := by omega
                      first | exact absurd rfl (show ¬ (o = o) by omega) | exact absurd (show o = w by omega) c | omega | exact ⟨by omega, fun d3 => by omega⟩ | exact ⟨by omega, fun d3 => by split at * <;> omega⟩
                  · refine sx_aload_n d_R_hasRoom_172 rfl ?_
                    refine sx_aload_n d_R_hasRoom_173 rfl ?_
                    refine sx_iload_n d_R_hasRoom_174 rfl ?_
                    refine sx_iload d_R_hasRoom_175 rfl ?_
                    refine sx_iload d_R_hasRoom_177 rfl ?_
                    refine sx_callV (c_R_crowd M hI hR pa pb hpa hpb hab w hw hkd mn hmn hO hso (Bd M (M pb i)) (by omega)) d_R_hasRoom_179 cd_R_isCrowded lk_R_133 im_R_isCrowded se_R_isCrowded (go rfl rfl rfl) rfl rfl (by decide) (st := []) rfl rfl (Nat.le_of_ble_eq_true rfl) ⟨by decide, by decide, by decide⟩ (fun _ _ hq => ?_)
                    obtain ⟨rfl, rfl⟩ := hq
                    show sx_V _ _ _ _ (0, 0) _ _ [.inl (if M 10 (M (14 + w) 1).toNat < cn M pb w (Bd M (M pb i)) mn then 1 else 0)] (gm M) _
                    refine sx_if_eq (tgt := 187) d_R_hasRoom_182 (by decide) (by first | omega | (split <;> omega)) (fun c182_416 => ?_) (fun c182_416 => ?_)
                    · refine sx_iinc (l' := [some (sx_p 20), some (sx_p pa), some (.inl (w : Int)), some (.inl s), some (.inl (mn : Int)), some (.inl (Bd M s)), some (.inl (Bd M s + M (14 + w) 5)), some (.inl ((i : Int) + 1)), some (.inl (Bd M (M pb i))), some (.inl ((Bd M (M pb i)) + (M (14 + i) 5))), some (.inl 0), some (.inl 1)]) d_R_hasRoom_187 rfl (by decide) rfl rfl ?_
                      refine sx_goto (tgt := 45) d_R_hasRoom_190 (by decide) ?_
                      have e1 : ((i : Int) + 1) = ((i + 1 : Nat) : Int) := by omega
                      rw [e1]
                      refine ih (i + 1) _ _ _ _ (by omega) (by omega) (fun o a c d1 d2 => ?_)
                      rcases Nat.lt_or_ge o i with z | z
                      · exact hin o z c d1 d2
                      · obtain rfl : o = i := by omega
                        first | exact absurd rfl (show ¬ (o = o) by omega) | exact absurd (show o = w by omega) c | omega | exact ⟨by omega, fun d3 => by omega⟩ | exact ⟨by omega, fun d3 => by split at * <;> omega⟩
                    · refine sx_iconst d_R_hasRoom_185 ?_
                      refine sx_retI d_R_hasRoom_186 (Or.inr ⟨rfl, by first | exact Or.inl rfl | exact Or.inr rfl | omega⟩) ⟨by decide, by decide⟩ ?_
                      exact ⟨_, rfl, Or.inl rfl, rfl, ⟨fun k => absurd k (by decide), fun k => by have k2 := k.2 i (by omega) (by omega) (by omega) (by omega); first | exact absurd k2.1 (by omega) | (have k3 := k2.2 (by omega); exfalso; split at * <;> omega)⟩⟩
              · refine sx_iload d_R_hasRoom_153 rfl ?_
                refine sx_if_eq (tgt := 160) d_R_hasRoom_155 (by decide) ⟨by decide, by decide⟩ (fun c155_430 => ?_) (fun c155_430 => ?_)
                · refine sx_iload d_R_hasRoom_160 rfl ?_
                  refine sx_if_eq (tgt := 187) d_R_hasRoom_162 (by decide) ⟨by decide, by decide⟩ (fun c162_432 => ?_) (fun c162_432 => ?_)
                  · refine sx_iinc (l' := [some (sx_p 20), some (sx_p pa), some (.inl (w : Int)), some (.inl s), some (.inl (mn : Int)), some (.inl (Bd M s)), some (.inl (Bd M s + M (14 + w) 5)), some (.inl ((i : Int) + 1)), some (.inl (Bd M (M pb i))), some (.inl ((Bd M (M pb i)) + (M (14 + i) 5))), some (.inl 0), some (.inl 1)]) d_R_hasRoom_187 rfl (by decide) rfl rfl ?_
                    refine sx_goto (tgt := 45) d_R_hasRoom_190 (by decide) ?_
                    have e1 : ((i : Int) + 1) = ((i + 1 : Nat) : Int) := by omega
                    rw [e1]
                    refine ih (i + 1) _ _ _ _ (by omega) (by omega) (fun o a c d1 d2 => ?_)
                    rcases Nat.lt_or_ge o i with z | z
                    · exact hin o z c d1 d2
                    · obtain rfl : o = i := by omega
                      first | exact absurd rfl (show ¬ (o = o) by omega) | exact absurd (show o = w by omega) c | omega | exact ⟨by omega, fun d3 => by omega⟩ | exact ⟨by omega, fun d3 => by split at * <;> omega⟩
                  · refine sx_iload d_R_hasRoom_165 rfl ?_
                    refine sx_iload d_R_hasRoom_167 rfl ?_
                    refine sx_icmp_le (tgt := 187) d_R_hasRoom_169 (by decide) (by first | omega | (split <;> omega)) (by first | omega | (split <;> omega)) (fun c169_444 => ?_) (fun c169_444 => ?_)
                    · refine sx_iinc (l' := [some (sx_p 20), some (sx_p pa), some (.inl (w : Int)), some (.inl s), some (.inl (mn : Int)), some (.inl (Bd M s)), some (.inl (Bd M s + M (14 + w) 5)), some (.inl ((i : Int) + 1)), some (.inl (Bd M (M pb i))), some (.inl ((Bd M (M pb i)) + (M (14 + i) 5))), some (.inl 0), some (.inl 1)]) d_R_hasRoom_187 rfl (by decide) rfl rfl ?_
                      refine sx_goto (tgt := 45) d_R_hasRoom_190 (by decide) ?_
                      have e1 : ((i : Int) + 1) = ((i + 1 : Nat) : Int) := by omega
                      rw [e1]
                      refine ih (i + 1) _ _ _ _ (by omega) (by omega) (fun o a c d1 d2 => ?_)
                      rcases Nat.lt_or_ge o i with z | z
                      · exact hin o z c d1 d2
                      · obtain rfl : o = i := by omega
                        first | exact absurd rfl (show ¬ (o = o) by omega) | exact absurd (show o = w by omega) c | omega | exact ⟨by omega, fun d3 => by omega⟩ | exact ⟨by omega, fun d3 => by split at * <;> omega⟩
                    · refine sx_aload_n d_R_hasRoom_172 rfl ?_
                      refine sx_aload_n d_R_hasRoom_173 rfl ?_
                      refine sx_iload_n d_R_hasRoom_174 rfl ?_
                      refine sx_iload d_R_hasRoom_175 rfl ?_
                      refine sx_iload d_R_hasRoom_177 rfl ?_
                      refine sx_callV (c_R_crowd M hI hR pa pb hpa hpb hab w hw hkd mn hmn hO hso (Bd M (M pb i)) (by omega)) d_R_hasRoom_179 cd_R_isCrowded lk_R_133 im_R_isCrowded se_R_isCrowded (go rfl rfl rfl) rfl rfl (by decide) (st := []) rfl rfl (Nat.le_of_ble_eq_true rfl) ⟨by decide, by decide, by decide⟩ (fun _ _ hq => ?_)
                      obtain ⟨rfl, rfl⟩ := hq
                      show sx_V _ _ _ _ (0, 0) _ _ [.inl (if M 10 (M (14 + w) 1).toNat < cn M pb w (Bd M (M pb i)) mn then 1 else 0)] (gm M) _
                      refine sx_if_eq (tgt := 187) d_R_hasRoom_182 (by decide) (by first | omega | (split <;> omega)) (fun c182_462 => ?_) (fun c182_462 => ?_)
                      · refine sx_iinc (l' := [some (sx_p 20), some (sx_p pa), some (.inl (w : Int)), some (.inl s), some (.inl (mn : Int)), some (.inl (Bd M s)), some (.inl (Bd M s + M (14 + w) 5)), some (.inl ((i : Int) + 1)), some (.inl (Bd M (M pb i))), some (.inl ((Bd M (M pb i)) + (M (14 + i) 5))), some (.inl 0), some (.inl 1)]) d_R_hasRoom_187 rfl (by decide) rfl rfl ?_
                        refine sx_goto (tgt := 45) d_R_hasRoom_190 (by decide) ?_
                        have e1 : ((i : Int) + 1) = ((i + 1 : Nat) : Int) := by omega
                        rw [e1]
                        refine ih (i + 1) _ _ _ _ (by omega) (by omega) (fun o a c d1 d2 => ?_)
                        rcases Nat.lt_or_ge o i with z | z
                        · exact hin o z c d1 d2
                        · obtain rfl : o = i := by omega
                          first | exact absurd rfl (show ¬ (o = o) by omega) | exact absurd (show o = w by omega) c | omega | exact ⟨by omega, fun d3 => by omega⟩ | exact ⟨by omega, fun d3 => by split at * <;> omega⟩
                      · refine sx_iconst d_R_hasRoom_185 ?_
                        refine sx_retI d_R_hasRoom_186 (Or.inr ⟨rfl, by first | exact Or.inl rfl | exact Or.inr rfl | omega⟩) ⟨by decide, by decide⟩ ?_
                        exact ⟨_, rfl, Or.inl rfl, rfl, ⟨fun k => absurd k (by decide), fun k => by have k2 := k.2 i (by omega) (by omega) (by omega) (by omega); first | exact absurd k2.1 (by omega) | (have k3 := k2.2 (by omega); exfalso; split at * <;> omega)⟩⟩
                · refine sx_iconst d_R_hasRoom_158 ?_
                  refine sx_retI d_R_hasRoom_159 (Or.inr ⟨rfl, by first | exact Or.inl rfl | exact Or.inr rfl | omega⟩) ⟨by decide, by decide⟩ ?_
                  exact ⟨_, rfl, Or.inl rfl, rfl, ⟨fun k => absurd k (by decide), fun k => by have k2 := k.2 i (by omega) (by omega) (by omega) (by omega); first | exact absurd k2.1 (by omega) | (have k3 := k2.2 (by omega); exfalso; split at * <;> omega)⟩⟩
          · refine sx_iconst d_R_hasRoom_106 ?_
            refine sx_goto (tgt := 111) d_R_hasRoom_107 (by decide) ?_
            refine sx_istore (l' := [some (sx_p 20), some (sx_p pa), some (.inl (w : Int)), some (.inl s), some (.inl (mn : Int)), some (.inl (Bd M s)), some (.inl (Bd M s + M (14 + w) 5)), some (.inl (i : Int)), some (.inl (Bd M (M pb i))), some (.inl ((Bd M (M pb i)) + (M (14 + i) 5))), some (.inl 1), l11]) d_R_hasRoom_111 (by decide) rfl rfl ?_
            refine sx_aload_n d_R_hasRoom_113 rfl ?_
            refine sx_getR (r := some (2)) d_R_hasRoom_114 fl_R_18 (go rfl rfl rfl) (by decide) (by decide) (by decide) rfl ?_
            refine sx_getR (r := some (8)) d_R_hasRoom_117 fl_R_37 (go rfl rfl rfl) (by decide) (by decide) (by decide) rfl ?_
            refine sx_iload d_R_hasRoom_120 rfl ?_
            refine sx_aald (r := some ((14 + i))) d_R_hasRoom_122 (go rfl rfl rfl) (t := 0) rfl (by omega) (by omega) (by decide) (gr_w _ (by omega)) ?_
            refine sx_getI (z := (M (14 + i) 0)) d_R_hasRoom_123 fl_R_142 (go_w _ (by omega)) (by decide) (by decide) (by decide) rfl ?_
            refine sx_aload_n d_R_hasRoom_126 rfl ?_
            refine sx_getR (r := some (2)) d_R_hasRoom_127 fl_R_18 (go rfl rfl rfl) (by decide) (by decide) (by decide) rfl ?_
            refine sx_getR (r := some (8)) d_R_hasRoom_130 fl_R_37 (go rfl rfl rfl) (by decide) (by decide) (by decide) rfl ?_
            refine sx_iload_n d_R_hasRoom_133 rfl ?_
            refine sx_aald (r := some ((14 + w))) d_R_hasRoom_134 (go rfl rfl rfl) (t := 0) rfl (by omega) (by omega) (by decide) (gr_w _ (by omega)) ?_
            refine sx_getI (z := (M (14 + w) 0)) d_R_hasRoom_135 fl_R_142 (go_w _ (by omega)) (by decide) (by decide) (by decide) rfl ?_
            refine sx_icmp_ne (tgt := 145) d_R_hasRoom_138 (by decide) (hR _ _) (hR _ _) (fun c138_493 => ?_) (fun c138_493 => ?_)
            · refine sx_iconst d_R_hasRoom_145 ?_
              refine sx_istore (l' := [some (sx_p 20), some (sx_p pa), some (.inl (w : Int)), some (.inl s), some (.inl (mn : Int)), some (.inl (Bd M s)), some (.inl (Bd M s + M (14 + w) 5)), some (.inl (i : Int)), some (.inl (Bd M (M pb i))), some (.inl ((Bd M (M pb i)) + (M (14 + i) 5))), some (.inl 1), some (.inl 0)]) d_R_hasRoom_146 (by decide) rfl rfl ?_
              refine sx_iload d_R_hasRoom_148 rfl ?_
              refine sx_if_eq (tgt := 160) d_R_hasRoom_150 (by decide) ⟨by decide, by decide⟩ (fun c150_497 => ?_) (fun c150_497 => ?_)
              · refine sx_iload d_R_hasRoom_160 rfl ?_
                refine sx_if_eq (tgt := 187) d_R_hasRoom_162 (by decide) ⟨by decide, by decide⟩ (fun c162_499 => ?_) (fun c162_499 => ?_)
                · refine sx_iinc (l' := [some (sx_p 20), some (sx_p pa), some (.inl (w : Int)), some (.inl s), some (.inl (mn : Int)), some (.inl (Bd M s)), some (.inl (Bd M s + M (14 + w) 5)), some (.inl ((i : Int) + 1)), some (.inl (Bd M (M pb i))), some (.inl ((Bd M (M pb i)) + (M (14 + i) 5))), some (.inl 1), some (.inl 0)]) d_R_hasRoom_187 rfl (by decide) rfl rfl ?_
                  refine sx_goto (tgt := 45) d_R_hasRoom_190 (by decide) ?_
                  have e1 : ((i : Int) + 1) = ((i + 1 : Nat) : Int) := by omega
                  rw [e1]
                  refine ih (i + 1) _ _ _ _ (by omega) (by omega) (fun o a c d1 d2 => ?_)
                  rcases Nat.lt_or_ge o i with z | z
                  · exact hin o z c d1 d2
                  · obtain rfl : o = i := by omega
                    first | exact absurd rfl (show ¬ (o = o) by omega) | exact absurd (show o = w by omega) c | omega | exact ⟨by omega, fun d3 => by omega⟩ | exact ⟨by omega, fun d3 => by split at * <;> omega⟩
                · refine sx_iload d_R_hasRoom_165 rfl ?_
                  refine sx_iload d_R_hasRoom_167 rfl ?_
                  refine sx_icmp_le (tgt := 187) d_R_hasRoom_169 (by decide) (by first | omega | (split <;> omega)) (by first | omega | (split <;> omega)) (fun c169_511 => ?_) (fun c169_511 => ?_)
                  · refine sx_iinc (l' := [some (sx_p 20), some (sx_p pa), some (.inl (w : Int)), some (.inl s), some (.inl (mn : Int)), some (.inl (Bd M s)), some (.inl (Bd M s + M (14 + w) 5)), some (.inl ((i : Int) + 1)), some (.inl (Bd M (M pb i))), some (.inl ((Bd M (M pb i)) + (M (14 + i) 5))), some (.inl 1), some (.inl 0)]) d_R_hasRoom_187 rfl (by decide) rfl rfl ?_
                    refine sx_goto (tgt := 45) d_R_hasRoom_190 (by decide) ?_
                    have e1 : ((i : Int) + 1) = ((i + 1 : Nat) : Int) := by omega
                    rw [e1]
                    refine ih (i + 1) _ _ _ _ (by omega) (by omega) (fun o a c d1 d2 => ?_)
                    rcases Nat.lt_or_ge o i with z | z
                    · exact hin o z c d1 d2
                    · obtain rfl : o = i := by omega
                      first | exact absurd rfl (show ¬ (o = o) by omega) | exact absurd (show o = w by omega) c | omega | exact ⟨by omega, fun d3 => by omega⟩ | exact ⟨by omega, fun d3 => by split at * <;> omega⟩
                  · refine sx_aload_n d_R_hasRoom_172 rfl ?_
                    refine sx_aload_n d_R_hasRoom_173 rfl ?_
                    refine sx_iload_n d_R_hasRoom_174 rfl ?_
                    refine sx_iload d_R_hasRoom_175 rfl ?_
                    refine sx_iload d_R_hasRoom_177 rfl ?_
                    refine sx_callV (c_R_crowd M hI hR pa pb hpa hpb hab w hw hkd mn hmn hO hso (Bd M (M pb i)) (by omega)) d_R_hasRoom_179 cd_R_isCrowded lk_R_133 im_R_isCrowded se_R_isCrowded (go rfl rfl rfl) rfl rfl (by decide) (st := []) rfl rfl (Nat.le_of_ble_eq_true rfl) ⟨by decide, by decide, by decide⟩ (fun _ _ hq => ?_)
                    obtain ⟨rfl, rfl⟩ := hq
                    show sx_V _ _ _ _ (0, 0) _ _ [.inl (if M 10 (M (14 + w) 1).toNat < cn M pb w (Bd M (M pb i)) mn then 1 else 0)] (gm M) _
                    refine sx_if_eq (tgt := 187) d_R_hasRoom_182 (by decide) (by first | omega | (split <;> omega)) (fun c182_529 => ?_) (fun c182_529 => ?_)
                    · refine sx_iinc (l' := [some (sx_p 20), some (sx_p pa), some (.inl (w : Int)), some (.inl s), some (.inl (mn : Int)), some (.inl (Bd M s)), some (.inl (Bd M s + M (14 + w) 5)), some (.inl ((i : Int) + 1)), some (.inl (Bd M (M pb i))), some (.inl ((Bd M (M pb i)) + (M (14 + i) 5))), some (.inl 1), some (.inl 0)]) d_R_hasRoom_187 rfl (by decide) rfl rfl ?_
                      refine sx_goto (tgt := 45) d_R_hasRoom_190 (by decide) ?_
                      have e1 : ((i : Int) + 1) = ((i + 1 : Nat) : Int) := by omega
                      rw [e1]
                      refine ih (i + 1) _ _ _ _ (by omega) (by omega) (fun o a c d1 d2 => ?_)
                      rcases Nat.lt_or_ge o i with z | z
                      · exact hin o z c d1 d2
                      · obtain rfl : o = i := by omega
                        first | exact absurd rfl (show ¬ (o = o) by omega) | exact absurd (show o = w by omega) c | omega | exact ⟨by omega, fun d3 => by omega⟩ | exact ⟨by omega, fun d3 => by split at * <;> omega⟩
                    · refine sx_iconst d_R_hasRoom_185 ?_
                      refine sx_retI d_R_hasRoom_186 (Or.inr ⟨rfl, by first | exact Or.inl rfl | exact Or.inr rfl | omega⟩) ⟨by decide, by decide⟩ ?_
                      exact ⟨_, rfl, Or.inl rfl, rfl, ⟨fun k => absurd k (by decide), fun k => by have k2 := k.2 i (by omega) (by omega) (by omega) (by omega); first | exact absurd k2.1 (by omega) | (have k3 := k2.2 (by omega); exfalso; split at * <;> omega)⟩⟩
              · refine sx_iload d_R_hasRoom_153 rfl ?_
                refine sx_if_eq (tgt := 160) d_R_hasRoom_155 (by decide) ⟨by decide, by decide⟩ (fun c155_543 => ?_) (fun c155_543 => ?_)
                · refine sx_iload d_R_hasRoom_160 rfl ?_
                  refine sx_if_eq (tgt := 187) d_R_hasRoom_162 (by decide) ⟨by decide, by decide⟩ (fun c162_545 => ?_) (fun c162_545 => ?_)
                  · refine sx_iinc (l' := [some (sx_p 20), some (sx_p pa), some (.inl (w : Int)), some (.inl s), some (.inl (mn : Int)), some (.inl (Bd M s)), some (.inl (Bd M s + M (14 + w) 5)), some (.inl ((i : Int) + 1)), some (.inl (Bd M (M pb i))), some (.inl ((Bd M (M pb i)) + (M (14 + i) 5))), some (.inl 1), some (.inl 0)]) d_R_hasRoom_187 rfl (by decide) rfl rfl ?_
                    refine sx_goto (tgt := 45) d_R_hasRoom_190 (by decide) ?_
                    have e1 : ((i : Int) + 1) = ((i + 1 : Nat) : Int) := by omega
                    rw [e1]
                    refine ih (i + 1) _ _ _ _ (by omega) (by omega) (fun o a c d1 d2 => ?_)
                    rcases Nat.lt_or_ge o i with z | z
                    · exact hin o z c d1 d2
                    · obtain rfl : o = i := by omega
                      first | exact absurd rfl (show ¬ (o = o) by omega) | exact absurd (show o = w by omega) c | omega | exact ⟨by omega, fun d3 => by omega⟩ | exact ⟨by omega, fun d3 => by split at * <;> omega⟩
                  · refine sx_iload d_R_hasRoom_165 rfl ?_
                    refine sx_iload d_R_hasRoom_167 rfl ?_
                    refine sx_icmp_le (tgt := 187) d_R_hasRoom_169 (by decide) (by first | omega | (split <;> omega)) (by first | omega | (split <;> omega)) (fun c169_557 => ?_) (fun c169_557 => ?_)
                    · refine sx_iinc (l' := [some (sx_p 20), some (sx_p pa), some (.inl (w : Int)), some (.inl s), some (.inl (mn : Int)), some (.inl (Bd M s)), some (.inl (Bd M s + M (14 + w) 5)), some (.inl ((i : Int) + 1)), some (.inl (Bd M (M pb i))), some (.inl ((Bd M (M pb i)) + (M (14 + i) 5))), some (.inl 1), some (.inl 0)]) d_R_hasRoom_187 rfl (by decide) rfl rfl ?_
                      refine sx_goto (tgt := 45) d_R_hasRoom_190 (by decide) ?_
                      have e1 : ((i : Int) + 1) = ((i + 1 : Nat) : Int) := by omega
                      rw [e1]
                      refine ih (i + 1) _ _ _ _ (by omega) (by omega) (fun o a c d1 d2 => ?_)
                      rcases Nat.lt_or_ge o i with z | z
                      · exact hin o z c d1 d2
                      · obtain rfl : o = i := by omega
                        first | exact absurd rfl (show ¬ (o = o) by omega) | exact absurd (show o = w by omega) c | omega | exact ⟨by omega, fun d3 => by omega⟩ | exact ⟨by omega, fun d3 => by split at * <;> omega⟩
                    · refine sx_aload_n d_R_hasRoom_172 rfl ?_
                      refine sx_aload_n d_R_hasRoom_173 rfl ?_
                      refine sx_iload_n d_R_hasRoom_174 rfl ?_
                      refine sx_iload d_R_hasRoom_175 rfl ?_
                      refine sx_iload d_R_hasRoom_177 rfl ?_
                      refine sx_callV (c_R_crowd M hI hR pa pb hpa hpb hab w hw hkd mn hmn hO hso (Bd M (M pb i)) (by omega)) d_R_hasRoom_179 cd_R_isCrowded lk_R_133 im_R_isCrowded se_R_isCrowded (go rfl rfl rfl) rfl rfl (by decide) (st := []) rfl rfl (Nat.le_of_ble_eq_true rfl) ⟨by decide, by decide, by decide⟩ (fun _ _ hq => ?_)
                      obtain ⟨rfl, rfl⟩ := hq
                      show sx_V _ _ _ _ (0, 0) _ _ [.inl (if M 10 (M (14 + w) 1).toNat < cn M pb w (Bd M (M pb i)) mn then 1 else 0)] (gm M) _
                      refine sx_if_eq (tgt := 187) d_R_hasRoom_182 (by decide) (by first | omega | (split <;> omega)) (fun c182_575 => ?_) (fun c182_575 => ?_)
                      · refine sx_iinc (l' := [some (sx_p 20), some (sx_p pa), some (.inl (w : Int)), some (.inl s), some (.inl (mn : Int)), some (.inl (Bd M s)), some (.inl (Bd M s + M (14 + w) 5)), some (.inl ((i : Int) + 1)), some (.inl (Bd M (M pb i))), some (.inl ((Bd M (M pb i)) + (M (14 + i) 5))), some (.inl 1), some (.inl 0)]) d_R_hasRoom_187 rfl (by decide) rfl rfl ?_
                        refine sx_goto (tgt := 45) d_R_hasRoom_190 (by decide) ?_
                        have e1 : ((i : Int) + 1) = ((i + 1 : Nat) : Int) := by omega
                        rw [e1]
                        refine ih (i + 1) _ _ _ _ (by omega) (by omega) (fun o a c d1 d2 => ?_)
                        rcases Nat.lt_or_ge o i with z | z
                        · exact hin o z c d1 d2
                        · obtain rfl : o = i := by omega
                          first | exact absurd rfl (show ¬ (o = o) by omega) | exact absurd (show o = w by omega) c | omega | exact ⟨by omega, fun d3 => by omega⟩ | exact ⟨by omega, fun d3 => by split at * <;> omega⟩
                      · refine sx_iconst d_R_hasRoom_185 ?_
                        refine sx_retI d_R_hasRoom_186 (Or.inr ⟨rfl, by first | exact Or.inl rfl | exact Or.inr rfl | omega⟩) ⟨by decide, by decide⟩ ?_
                        exact ⟨_, rfl, Or.inl rfl, rfl, ⟨fun k => absurd k (by decide), fun k => by have k2 := k.2 i (by omega) (by omega) (by omega) (by omega); first | exact absurd k2.1 (by omega) | (have k3 := k2.2 (by omega); exfalso; split at * <;> omega)⟩⟩
                · refine sx_iconst d_R_hasRoom_158 ?_
                  refine sx_retI d_R_hasRoom_159 (Or.inr ⟨rfl, by first | exact Or.inl rfl | exact Or.inr rfl | omega⟩) ⟨by decide, by decide⟩ ?_
                  exact ⟨_, rfl, Or.inl rfl, rfl, ⟨fun k => absurd k (by decide), fun k => by have k2 := k.2 i (by omega) (by omega) (by omega) (by omega); first | exact absurd k2.1 (by omega) | (have k3 := k2.2 (by omega); exfalso; split at * <;> omega)⟩⟩
            · refine sx_iconst d_R_hasRoom_141 ?_
              refine sx_goto (tgt := 146) d_R_hasRoom_142 (by decide) ?_
              refine sx_istore (l' := [some (sx_p 20), some (sx_p pa), some (.inl (w : Int)), some (.inl s), some (.inl (mn : Int)), some (.inl (Bd M s)), some (.inl (Bd M s + M (14 + w) 5)), some (.inl (i : Int)), some (.inl (Bd M (M pb i))), some (.inl ((Bd M (M pb i)) + (M (14 + i) 5))), some (.inl 1), some (.inl 1)]) d_R_hasRoom_146 (by decide) rfl rfl ?_
              refine sx_iload d_R_hasRoom_148 rfl ?_
              refine sx_if_eq (tgt := 160) d_R_hasRoom_150 (by decide) ⟨by decide, by decide⟩ (fun c150_595 => ?_) (fun c150_595 => ?_)
              · refine sx_iload d_R_hasRoom_160 rfl ?_
                refine sx_if_eq (tgt := 187) d_R_hasRoom_162 (by decide) ⟨by decide, by decide⟩ (fun c162_597 => ?_) (fun c162_597 => ?_)
                · refine sx_iinc (l' := [some (sx_p 20), some (sx_p pa), some (.inl (w : Int)), some (.inl s), some (.inl (mn : Int)), some (.inl (Bd M s)), some (.inl (Bd M s + M (14 + w) 5)), some (.inl ((i : Int) + 1)), some (.inl (Bd M (M pb i))), some (.inl ((Bd M (M pb i)) + (M (14 + i) 5))), some (.inl 1), some (.inl 1)]) d_R_hasRoom_187 rfl (by decide) rfl rfl ?_
                  refine sx_goto (tgt := 45) d_R_hasRoom_190 (by decide) ?_
                  have e1 : ((i : Int) + 1) = ((i + 1 : Nat) : Int) := by omega
                  rw [e1]
                  refine ih (i + 1) _ _ _ _ (by omega) (by omega) (fun o a c d1 d2 => ?_)
                  rcases Nat.lt_or_ge o i with z | z
                  · exact hin o z c d1 d2
                  · obtain rfl : o = i := by omega
                    first | exact absurd rfl (show ¬ (o = o) by omega) | exact absurd (show o = w by omega) c | omega | exact ⟨by omega, fun d3 => by omega⟩ | exact ⟨by omega, fun d3 => by split at * <;> omega⟩
                · refine sx_iload d_R_hasRoom_165 rfl ?_
                  refine sx_iload d_R_hasRoom_167 rfl ?_
                  refine sx_icmp_le (tgt := 187) d_R_hasRoom_169 (by decide) (by first | omega | (split <;> omega)) (by first | omega | (split <;> omega)) (fun c169_609 => ?_) (fun c169_609 => ?_)
                  · refine sx_iinc (l' := [some (sx_p 20), some (sx_p pa), some (.inl (w : Int)), some (.inl s), some (.inl (mn : Int)), some (.inl (Bd M s)), some (.inl (Bd M s + M (14 + w) 5)), some (.inl ((i : Int) + 1)), some (.inl (Bd M (M pb i))), some (.inl ((Bd M (M pb i)) + (M (14 + i) 5))), some (.inl 1), some (.inl 1)]) d_R_hasRoom_187 rfl (by decide) rfl rfl ?_
                    refine sx_goto (tgt := 45) d_R_hasRoom_190 (by decide) ?_
                    have e1 : ((i : Int) + 1) = ((i + 1 : Nat) : Int) := by omega
                    rw [e1]
                    refine ih (i + 1) _ _ _ _ (by omega) (by omega) (fun o a c d1 d2 => ?_)
                    rcases Nat.lt_or_ge o i with z | z
                    · exact hin o z c d1 d2
                    · obtain rfl : o = i := by omega
                      first | exact absurd rfl (show ¬ (o = o) by omega) | exact absurd (show o = w by omega) c | omega | exact ⟨by omega, fun d3 => by omega⟩ | exact ⟨by omega, fun d3 => by split at * <;> omega⟩
                  · refine sx_aload_n d_R_hasRoom_172 rfl ?_
                    refine sx_aload_n d_R_hasRoom_173 rfl ?_
                    refine sx_iload_n d_R_hasRoom_174 rfl ?_
                    refine sx_iload d_R_hasRoom_175 rfl ?_
                    refine sx_iload d_R_hasRoom_177 rfl ?_
                    refine sx_callV (c_R_crowd M hI hR pa pb hpa hpb hab w hw hkd mn hmn hO hso (Bd M (M pb i)) (by omega)) d_R_hasRoom_179 cd_R_isCrowded lk_R_133 im_R_isCrowded se_R_isCrowded (go rfl rfl rfl) rfl rfl (by decide) (st := []) rfl rfl (Nat.le_of_ble_eq_true rfl) ⟨by decide, by decide, by decide⟩ (fun _ _ hq => ?_)
                    obtain ⟨rfl, rfl⟩ := hq
                    show sx_V _ _ _ _ (0, 0) _ _ [.inl (if M 10 (M (14 + w) 1).toNat < cn M pb w (Bd M (M pb i)) mn then 1 else 0)] (gm M) _
                    refine sx_if_eq (tgt := 187) d_R_hasRoom_182 (by decide) (by first | omega | (split <;> omega)) (fun c182_627 => ?_) (fun c182_627 => ?_)
                    · refine sx_iinc (l' := [some (sx_p 20), some (sx_p pa), some (.inl (w : Int)), some (.inl s), some (.inl (mn : Int)), some (.inl (Bd M s)), some (.inl (Bd M s + M (14 + w) 5)), some (.inl ((i : Int) + 1)), some (.inl (Bd M (M pb i))), some (.inl ((Bd M (M pb i)) + (M (14 + i) 5))), some (.inl 1), some (.inl 1)]) d_R_hasRoom_187 rfl (by decide) rfl rfl ?_
                      refine sx_goto (tgt := 45) d_R_hasRoom_190 (by decide) ?_
                      have e1 : ((i : Int) + 1) = ((i + 1 : Nat) : Int) := by omega
                      rw [e1]
                      refine ih (i + 1) _ _ _ _ (by omega) (by omega) (fun o a c d1 d2 => ?_)
                      rcases Nat.lt_or_ge o i with z | z
                      · exact hin o z c d1 d2
                      · obtain rfl : o = i := by omega
                        first | exact absurd rfl (show ¬ (o = o) by omega) | exact absurd (show o = w by omega) c | omega | exact ⟨by omega, fun d3 => by omega⟩ | exact ⟨by omega, fun d3 => by split at * <;> omega⟩
                    · refine sx_iconst d_R_hasRoom_185 ?_
                      refine sx_retI d_R_hasRoom_186 (Or.inr ⟨rfl, by first | exact Or.inl rfl | exact Or.inr rfl | omega⟩) ⟨by decide, by decide⟩ ?_
                      exact ⟨_, rfl, Or.inl rfl, rfl, ⟨fun k => absurd k (by decide), fun k => by have k2 := k.2 i (by omega) (by omega) (by omega) (by omega); first | exact absurd k2.1 (by omega) | (have k3 := k2.2 (by omega); exfalso; split at * <;> omega)⟩⟩
              · refine sx_iload d_R_hasRoom_153 rfl ?_
                refine sx_if_eq (tgt := 160) d_R_hasRoom_155 (by decide) ⟨by decide, by decide⟩ (fun c155_641 => ?_) (fun c155_641 => ?_)
                · refine sx_iload d_R_hasRoom_160 rfl ?_
                  refine sx_if_eq (tgt := 187) d_R_hasRoom_162 (by decide) ⟨by decide, by decide⟩ (fun c162_643 => ?_) (fun c162_643 => ?_)
                  · refine sx_iinc (l' := [some (sx_p 20), some (sx_p pa), some (.inl (w : Int)), some (.inl s), some (.inl (mn : Int)), some (.inl (Bd M s)), some (.inl (Bd M s + M (14 + w) 5)), some (.inl ((i : Int) + 1)), some (.inl (Bd M (M pb i))), some (.inl ((Bd M (M pb i)) + (M (14 + i) 5))), some (.inl 1), some (.inl 1)]) d_R_hasRoom_187 rfl (by decide) rfl rfl ?_
                    refine sx_goto (tgt := 45) d_R_hasRoom_190 (by decide) ?_
                    have e1 : ((i : Int) + 1) = ((i + 1 : Nat) : Int) := by omega
                    rw [e1]
                    refine ih (i + 1) _ _ _ _ (by omega) (by omega) (fun o a c d1 d2 => ?_)
                    rcases Nat.lt_or_ge o i with z | z
                    · exact hin o z c d1 d2
                    · obtain rfl : o = i := by omega
                      first | exact absurd rfl (show ¬ (o = o) by omega) | exact absurd (show o = w by omega) c | omega | exact ⟨by omega, fun d3 => by omega⟩ | exact ⟨by omega, fun d3 => by split at * <;> omega⟩
                  · refine sx_iload d_R_hasRoom_165 rfl ?_
                    refine sx_iload d_R_hasRoom_167 rfl ?_
                    refine sx_icmp_le (tgt := 187) d_R_hasRoom_169 (by decide) (by first | omega | (split <;> omega)) (by first | omega | (split <;> omega)) (fun c169_655 => ?_) (fun c169_655 => ?_)
                    · refine sx_iinc (l' := [some (sx_p 20), some (sx_p pa), some (.inl (w : Int)), some (.inl s), some (.inl (mn : Int)), some (.inl (Bd M s)), some (.inl (Bd M s + M (14 + w) 5)), some (.inl ((i : Int) + 1)), some (.inl (Bd M (M pb i))), some (.inl ((Bd M (M pb i)) + (M (14 + i) 5))), some (.inl 1), some (.inl 1)]) d_R_hasRoom_187 rfl (by decide) rfl rfl ?_
                      refine sx_goto (tgt := 45) d_R_hasRoom_190 (by decide) ?_
                      have e1 : ((i : Int) + 1) = ((i + 1 : Nat) : Int) := by omega
                      rw [e1]
                      refine ih (i + 1) _ _ _ _ (by omega) (by omega) (fun o a c d1 d2 => ?_)
                      rcases Nat.lt_or_ge o i with z | z
                      · exact hin o z c d1 d2
                      · obtain rfl : o = i := by omega
                        first | exact absurd rfl (show ¬ (o = o) by omega) | exact absurd (show o = w by omega) c | omega | exact ⟨by omega, fun d3 => by omega⟩ | exact ⟨by omega, fun d3 => by split at * <;> omega⟩
                    · refine sx_aload_n d_R_hasRoom_172 rfl ?_
                      refine sx_aload_n d_R_hasRoom_173 rfl ?_
                      refine sx_iload_n d_R_hasRoom_174 rfl ?_
                      refine sx_iload d_R_hasRoom_175 rfl ?_
                      refine sx_iload d_R_hasRoom_177 rfl ?_
                      refine sx_callV (c_R_crowd M hI hR pa pb hpa hpb hab w hw hkd mn hmn hO hso (Bd M (M pb i)) (by omega)) d_R_hasRoom_179 cd_R_isCrowded lk_R_133 im_R_isCrowded se_R_isCrowded (go rfl rfl rfl) rfl rfl (by decide) (st := []) rfl rfl (Nat.le_of_ble_eq_true rfl) ⟨by decide, by decide, by decide⟩ (fun _ _ hq => ?_)
                      obtain ⟨rfl, rfl⟩ := hq
                      show sx_V _ _ _ _ (0, 0) _ _ [.inl (if M 10 (M (14 + w) 1).toNat < cn M pb w (Bd M (M pb i)) mn then 1 else 0)] (gm M) _
                      refine sx_if_eq (tgt := 187) d_R_hasRoom_182 (by decide) (by first | omega | (split <;> omega)) (fun c182_673 => ?_) (fun c182_673 => ?_)
                      · refine sx_iinc (l' := [some (sx_p 20), some (sx_p pa), some (.inl (w : Int)), some (.inl s), some (.inl (mn : Int)), some (.inl (Bd M s)), some (.inl (Bd M s + M (14 + w) 5)), some (.inl ((i : Int) + 1)), some (.inl (Bd M (M pb i))), some (.inl ((Bd M (M pb i)) + (M (14 + i) 5))), some (.inl 1), some (.inl 1)]) d_R_hasRoom_187 rfl (by decide) rfl rfl ?_
                        refine sx_goto (tgt := 45) d_R_hasRoom_190 (by decide) ?_
                        have e1 : ((i : Int) + 1) = ((i + 1 : Nat) : Int) := by omega
                        rw [e1]
                        refine ih (i + 1) _ _ _ _ (by omega) (by omega) (fun o a c d1 d2 => ?_)
                        rcases Nat.lt_or_ge o i with z | z
                        · exact hin o z c d1 d2
                        · obtain rfl : o = i := by omega
                          first | exact absurd rfl (show ¬ (o = o) by omega) | exact absurd (show o = w by omega) c | omega | exact ⟨by omega, fun d3 => by omega⟩ | exact ⟨by omega, fun d3 => by split at * <;> omega⟩
                      · refine sx_iconst d_R_hasRoom_185 ?_
                        refine sx_retI d_R_hasRoom_186 (Or.inr ⟨rfl, by first | exact Or.inl rfl | exact Or.inr rfl | omega⟩) ⟨by decide, by decide⟩ ?_
                        exact ⟨_, rfl, Or.inl rfl, rfl, ⟨fun k => absurd k (by decide), fun k => by have k2 := k.2 i (by omega) (by omega) (by omega) (by omega); first | exact absurd k2.1 (by omega) | (have k3 := k2.2 (by omega); exfalso; split at * <;> omega)⟩⟩
                · refine sx_iconst d_R_hasRoom_158 ?_
                  refine sx_retI d_R_hasRoom_159 (Or.inr ⟨rfl, by first | exact Or.inl rfl | exact Or.inr rfl | omega⟩) ⟨by decide, by decide⟩ ?_
                  exact ⟨_, rfl, Or.inl rfl, rfl, ⟨fun k => absurd k (by decide), fun k => by have k2 := k.2 i (by omega) (by omega) (by omega) (by omega); first | exact absurd k2.1 (by omega) | (have k3 := k2.2 (by omega); exfalso; split at * <;> omega)⟩⟩
set_option maxRecDepth 100000 in
set_option maxHeartbeats 4000000 in
theorem c_R_room {L : Nat} {xs : Nat → Int32} (M : Nat → Nat → Int) (hI : IDy M) (hR : IR M) (pa pb : Nat) (hpa : ∀ M, sx_o (gm M) pa 2 2) (hpb : ∀ M, sx_o (gm M) pb 100 6) (hab : ∀ M, (gm M).2.2.2 pa 0 = some pb) (w : Nat) (hw : w < 6) (hkd : 0 ≤ M (14 + w) 1 ∧ M (14 + w) 1 ≤ 3) (mn : Nat) (hmn : mn ≤ 6) (hO : ∀ o, o < mn → IW M o) (hso : ∀ o, o < mn → 0 ≤ M pb o ∧ M pb o ≤ 1000) (hW : IW M w) (s : Int) (hs : 0 ≤ s ∧ s ≤ 1000) : sx_R y_R_hasRoom (2, 0, 0) L xs [sx_p 20, sx_p pa, .inl (w : Int), .inl s, .inl (mn : Int)] (gm M) (fun v h2 => ∃ z, v = some (.inl z) ∧ (z = 0 ∨ z = 1) ∧ h2 = gm M ∧ (z = 1 ↔ hRm M pb w s mn)) := by
  refine sx_enter rfl (Nat.le_of_ble_eq_true rfl) rfl ?_
  show sx_V y_R_hasRoom (2, 0, 0) L xs (0, 0) 0 [some (sx_p 20), some (sx_p pa), some (.inl (w : Int)), some (.inl s), some (.inl (mn : Int)), none, none, none, none, none, none, none] [] (gm M) _
  refine sx_aload_n d_R_hasRoom_0 rfl ?_
  refine sx_getR (r := some (3)) d_R_hasRoom_1 fl_R_28 (go rfl rfl rfl) (by decide) (by decide) (by decide) rfl ?_
  refine sx_iload_n d_R_hasRoom_4 rfl ?_
  refine sx_callV (c_D_before M hI s (by first | omega | (split <;> omega))) d_R_hasRoom_5 cd_D_before lk_R_51 im_D_before se_D_before (go rfl rfl rfl) rfl rfl (by decide) (st := []) rfl rfl (Nat.le_of_ble_eq_true rfl) ⟨by decide, by decide, by decide⟩ (fun _ _ hq => ?_)
  obtain ⟨rfl, rfl⟩ := hq
  show sx_V _ _ _ _ (0, 0) _ _ [.inl (Bd M s)] (gm M) _
  have bq := Bd_r M s
  have nqw := hW.need
  refine sx_istore (l' := [some (sx_p 20), some (sx_p pa), some (.inl (w : Int)), some (.inl s), some (.inl (mn : Int)), some (.inl (Bd M s)), none, none, none, none, none, none]) d_R_hasRoom_8 (by decide) rfl rfl ?_
  refine sx_iload d_R_hasRoom_10 rfl ?_
  refine sx_aload_n d_R_hasRoom_12 rfl ?_
  refine sx_getR (r := some (2)) d_R_hasRoom_13 fl_R_18 (go rfl rfl rfl) (by decide) (by decide) (by decide) rfl ?_
  refine sx_getR (r := some (8)) d_R_hasRoom_16 fl_R_37 (go rfl rfl rfl) (by decide) (by decide) (by decide) rfl ?_
  refine sx_iload_n d_R_hasRoom_19 rfl ?_
  refine sx_aald (r := some ((14 + w))) d_R_hasRoom_20 (go rfl rfl rfl) (t := 0) rfl (by omega) (by omega) (by decide) (gr_w _ (by omega)) ?_
  refine sx_getI (z := (M (14 + w) 5)) d_R_hasRoom_21 fl_R_61 (go_w _ (by omega)) (by decide) (by decide) (by decide) rfl ?_
  refine sx_iadd d_R_hasRoom_24 ?_
  refine sx_istore (l' := [some (sx_p 20), some (sx_p pa), some (.inl (w : Int)), some (.inl s), some (.inl (mn : Int)), some (.inl (Bd M s)), some (.inl ((Bd M s) + (M (14 + w) 5))), none, none, none, none, none]) d_R_hasRoom_25 (by decide) rfl rfl ?_
  refine sx_aload_n d_R_hasRoom_27 rfl ?_
  refine sx_aload_n d_R_hasRoom_28 rfl ?_
  refine sx_iload_n d_R_hasRoom_29 rfl ?_
  refine sx_iload d_R_hasRoom_30 rfl ?_
  refine sx_iload d_R_hasRoom_32 rfl ?_
  refine sx_callV (c_R_crowd M hI hR pa pb hpa hpb hab w hw hkd mn hmn hO hso (Bd M s) (by omega)) d_R_hasRoom_34 cd_R_isCrowded lk_R_133 im_R_isCrowded se_R_isCrowded (go rfl rfl rfl) rfl rfl (by decide) (st := []) rfl rfl (Nat.le_of_ble_eq_true rfl) ⟨by decide, by decide, by decide⟩ (fun _ _ hq => ?_)
  obtain ⟨rfl, rfl⟩ := hq
  show sx_V _ _ _ _ (0, 0) _ _ [.inl (if M 10 (M (14 + w) 1).toNat < cn M pb w (Bd M s) mn then 1 else 0)] (gm M) _
  refine sx_if_eq (tgt := 42) d_R_hasRoom_37 (by decide) (by first | omega | (split <;> omega)) (fun c37_31 => ?_) (fun c37_31 => ?_)
  · refine sx_iconst d_R_hasRoom_42 ?_
    refine sx_istore (l' := [some (sx_p 20), some (sx_p pa), some (.inl (w : Int)), some (.inl s), some (.inl (mn : Int)), some (.inl (Bd M s)), some (.inl ((Bd M s) + (M (14 + w) 5))), some (.inl 0), none, none, none, none]) d_R_hasRoom_43 (by decide) rfl rfl ?_
    exact l_R_room M hI hR pa pb hpa hpb hab w hw hkd mn hmn hO hso hW s hs (by split at * <;> omega) (mn + 1) 0 _ _ _ _ (by omega) (by omega) (fun o a => absurd a (Nat.not_lt_zero _))
  · refine sx_iconst d_R_hasRoom_40 ?_
    refine sx_retI d_R_hasRoom_41 (Or.inr ⟨rfl, by first | exact Or.inl rfl | exact Or.inr rfl | omega⟩) ⟨by decide, by decide⟩ ?_
    exact ⟨_, rfl, Or.inl rfl, rfl, ⟨fun k => absurd k (by decide), fun k => by have k1 := k.1; exfalso; split at * <;> omega⟩⟩
