set_option maxRecDepth 100000 in
set_option maxHeartbeats 4000000 in
theorem c_M_tries {L : Nat} {xs : Nat → Int32} (M : Nat → Nat → Int) (nc nw nb : Nat) (hM : MR M nc nw nb) (M2 : Nat → Nat → Int) (M2s : sf M M2) (M2R : IR M2) (l : Nat) (hl : l < nw) : sx_R y_M_triesOf (0, 0, 0) L xs [sx_p 51, .inl (l : Int)] (gm M2) (fun v h2 => v = some (.inl (trs M l : Int)) ∧ h2 = gm M2) := by
  have w6 := hM.w6
  have fz := (hM.mfz l hl).2
  have bo := (hM.ws l hl).2.2.2.2
  refine sx_enter rfl (Nat.le_of_ble_eq_true rfl) rfl ?_
  show sx_V y_M_triesOf (0, 0, 0) L xs (0, 0) 0 [some (sx_p 51), some (.inl (l : Int))] [] (gm M2) _
  refine sx_aload_n d_M_triesOf_0 rfl ?_
  refine sx_getR (r := some (69)) d_M_triesOf_1 fl_M_62 (go rfl rfl rfl) (by decide) (by decide) (by decide) rfl ?_
  refine sx_iload_n d_M_triesOf_4 rfl ?_
  refine sx_zald (z := (M (14 + l) 10)) d_M_triesOf_5 (go rfl rfl rfl) (by omega) (by omega) (by decide) ((M2s 69 l (by decide) (by decide) (by omega)).trans (hM.mfz l (by omega)).1) ?_
  refine sx_if_eq (tgt := 13) d_M_triesOf_6 (by decide) (by omega) (fun c6_12 => ?_) (fun c6_12 => ?_)
  · refine sx_aload_n d_M_triesOf_13 rfl ?_
    refine sx_getR (r := some (57)) d_M_triesOf_14 fl_M_25 (go rfl rfl rfl) (by decide) (by decide) (by decide) rfl ?_
    refine sx_iload_n d_M_triesOf_17 rfl ?_
    refine sx_zald (z := (M (14 + l) 6)) d_M_triesOf_18 (go rfl rfl rfl) (by omega) (by omega) (by decide) ((M2s 57 l (by decide) (by decide) (by omega)).trans (hM.mbo l (by omega))) ?_
    refine sx_if_eq (tgt := 28) d_M_triesOf_19 (by decide) (by omega) (fun c19_17 => ?_) (fun c19_17 => ?_)
    · refine sx_bipush d_M_triesOf_28 (by decide) ?_
      refine sx_retI d_M_triesOf_30 (Or.inl rfl) ⟨Nat.zero_le _, Nat.zero_le _⟩ ?_
      refine ⟨?_, rfl⟩
      unfold trs
      (repeat' first | rw [if_pos (by omega)] | rw [if_neg (by omega)])
      all_goals rfl
    · refine sx_sipush d_M_triesOf_22 (by decide) ?_
      refine sx_goto (tgt := 30) d_M_triesOf_25 (by decide) ?_
      refine sx_retI d_M_triesOf_30 (Or.inl rfl) ⟨Nat.zero_le _, Nat.zero_le _⟩ ?_
      refine ⟨?_, rfl⟩
      unfold trs
      (repeat' first | rw [if_pos (by omega)] | rw [if_neg (by omega)])
      all_goals rfl
  · refine sx_iconst d_M_triesOf_9 ?_
    refine sx_goto (tgt := 30) d_M_triesOf_10 (by decide) ?_
    refine sx_retI d_M_triesOf_30 (Or.inl rfl) ⟨Nat.zero_le _, Nat.zero_le _⟩ ?_
    refine ⟨?_, rfl⟩
    unfold trs
    (repeat' first | rw [if_pos (by omega)] | rw [if_neg (by omega)])
    all_goals rfl
set_option maxRecDepth 100000 in
set_option maxHeartbeats 4000000 in
theorem l_M_ge {L : Nat} {xs : Nat → Int32} (M : Nat → Nat → Int) (nc nw nb : Nat) (hM : MR M nc nw nb) (M2 : Nat → Nat → Int) (M2s : sf M M2) (M2R : IR M2) (cnt : Nat) (hc : cnt ≤ nw) (S D : Nat → Int) (hV : VS M cnt S D) (hS : SLt M cnt S D M2) : ∀ (n i : Nat), cnt - i < n → i ≤ cnt → sx_V y_M_greatestEnd (0, 0, 0) L xs (0, 0) 4 [some (sx_p 51), some (.inl (cnt : Int)), some (.inl (gE M S i)), some (.inl (i : Int))] [] (gm M2) (fun v h2 => v = some (.inl (gE M S cnt)) ∧ h2 = gm M2) := by
  have w6 := hM.w6
  have ger : ∀ j, j ≤ cnt → 0 ≤ gE M S j ∧ gE M S j ≤ 1400 := fun j hj => gE_r j (fun i hi => ⟨(hM.ws i (by omega)).1, (hV i (by omega)).1.1, by have := (hV i (by omega)).1.2; omega⟩)
  intro n
  induction n with
  | zero => intro i h1 h2; omega
  | succ n ih =>
    intro i hn hi
    have gei := ger i hi
    refine sx_iload_n d_M_greatestEnd_4 rfl ?_
    refine sx_iload_n d_M_greatestEnd_5 rfl ?_
    refine sx_icmp_ge (tgt := 36) d_M_greatestEnd_6 (by decide) (by omega) (by omega) (fun c6_13 => ?_) (fun c6_13 => ?_)
    · refine sx_iload_n d_M_greatestEnd_36 rfl ?_
      refine sx_retI d_M_greatestEnd_37 (Or.inl rfl) ⟨Nat.zero_le _, Nat.zero_le _⟩ ?_
      have e0 : i = cnt := by omega
      subst e0
      exact ⟨rfl, rfl⟩
    · have eri := eT_r (hM.ws i (by omega)).1 (s := S i) (by have := (hV i (by omega)).1; omega)
      refine sx_aload_n d_M_greatestEnd_9 rfl ?_
      refine sx_getR (r := some (74)) d_M_greatestEnd_10 fl_M_77 (go rfl rfl rfl) (by decide) (by decide) (by decide) rfl ?_
      refine sx_iload_n d_M_greatestEnd_13 rfl ?_
      refine sx_iald (z := (eT M i (S i))) d_M_greatestEnd_14 (go rfl rfl rfl) (by omega) (by omega) (by decide) (hS i (by omega)).2.2.1 ?_
      refine sx_iload_n d_M_greatestEnd_15 rfl ?_
      refine sx_icmp_le (tgt := 28) d_M_greatestEnd_16 (by decide) (by omega) (by omega) (fun c16_25 => ?_) (fun c16_25 => ?_)
      · refine sx_iload_n d_M_greatestEnd_28 rfl ?_
        refine sx_istore_n (l' := [some (sx_p 51), some (.inl (cnt : Int)), some (.inl (gE M S i)), some (.inl (i : Int))]) d_M_greatestEnd_29 (by decide) rfl rfl ?_
        refine sx_iinc (l' := [some (sx_p 51), some (.inl (cnt : Int)), some (.inl (gE M S i)), some (.inl ((i : Int) + 1))]) d_M_greatestEnd_30 rfl (by decide) rfl rfl ?_
        refine sx_goto (tgt := 4) d_M_greatestEnd_33 (by decide) ?_
        have e1 : ((i : Int) + 1) = ((i + 1 : Nat) : Int) := by omega
        rw [e1]
        have e2 : (gE M S i) = gE M S (i + 1) := by (simp only [gE]; split <;> omega)
        rw [e2]
        exact ih (i + 1) (by omega) (by omega)
      · refine sx_aload_n d_M_greatestEnd_19 rfl ?_
        refine sx_getR (r := some (74)) d_M_greatestEnd_20 fl_M_77 (go rfl rfl rfl) (by decide) (by decide) (by decide) rfl ?_
        refine sx_iload_n d_M_greatestEnd_23 rfl ?_
        refine sx_iald (z := (eT M i (S i))) d_M_greatestEnd_24 (go rfl rfl rfl) (by omega) (by omega) (by decide) (hS i (by omega)).2.2.1 ?_
        refine sx_goto (tgt := 29) d_M_greatestEnd_25 (by decide) ?_
        refine sx_istore_n (l' := [some (sx_p 51), some (.inl (cnt : Int)), some (.inl (eT M i (S i))), some (.inl (i : Int))]) d_M_greatestEnd_29 (by decide) rfl rfl ?_
        refine sx_iinc (l' := [some (sx_p 51), some (.inl (cnt : Int)), some (.inl (eT M i (S i))), some (.inl ((i : Int) + 1))]) d_M_greatestEnd_30 rfl (by decide) rfl rfl ?_
        refine sx_goto (tgt := 4) d_M_greatestEnd_33 (by decide) ?_
        have e1 : ((i : Int) + 1) = ((i + 1 : Nat) : Int) := by omega
        rw [e1]
        have e2 : (eT M i (S i)) = gE M S (i + 1) := by (simp only [gE]; split <;> omega)
        rw [e2]
        exact ih (i + 1) (by omega) (by omega)
set_option maxRecDepth 100000 in
set_option maxHeartbeats 4000000 in
theorem c_M_ge {L : Nat} {xs : Nat → Int32} (M : Nat → Nat → Int) (nc nw nb : Nat) (hM : MR M nc nw nb) (M2 : Nat → Nat → Int) (M2s : sf M M2) (M2R : IR M2) (cnt : Nat) (hc : cnt ≤ nw) (S D : Nat → Int) (hV : VS M cnt S D) (hS : SLt M cnt S D M2) : sx_R y_M_greatestEnd (0, 0, 0) L xs [sx_p 51, .inl (cnt : Int)] (gm M2) (fun v h2 => v = some (.inl (gE M S cnt)) ∧ h2 = gm M2) := by
  refine sx_enter rfl (Nat.le_of_ble_eq_true rfl) rfl ?_
  show sx_V y_M_greatestEnd (0, 0, 0) L xs (0, 0) 0 [some (sx_p 51), some (.inl (cnt : Int)), none, none] [] (gm M2) _
  refine sx_iconst d_M_greatestEnd_0 ?_
  refine sx_istore_n (l' := [some (sx_p 51), some (.inl (cnt : Int)), some (.inl 0), none]) d_M_greatestEnd_1 (by decide) rfl rfl ?_
  refine sx_iconst d_M_greatestEnd_2 ?_
  refine sx_istore_n (l' := [some (sx_p 51), some (.inl (cnt : Int)), some (.inl 0), some (.inl 0)]) d_M_greatestEnd_3 (by decide) rfl rfl ?_
  exact l_M_ge M nc nw nb hM M2 M2s M2R cnt hc S D hV hS (cnt + 1) 0 (by omega) (by omega)
set_option maxRecDepth 100000 in
set_option maxHeartbeats 4000000 in
theorem l_M_mv {L : Nat} {xs : Nat → Int32} (M : Nat → Nat → Int) (nc nw nb : Nat) (hM : MR M nc nw nb) (M2 : Nat → Nat → Int) (M2s : sf M M2) (M2R : IR M2) (cnt : Nat) (hc : cnt ≤ nw) (S D : Nat → Int) (hV : VS M cnt S D) (hS : SLt M cnt S D M2) (ag : Int) (hag : ag ≠ 0) (h7 : M 1 7 ≠ 0) : ∀ (n i : Nat), cnt - i < n → i ≤ cnt → sx_V y_M_movedSoFar (0, 0, 0) L xs (0, 0) 4 [some (sx_p 51), some (.inl (cnt : Int)), some (.inl (gV M ag S D i)), some (.inl (i : Int))] [] (gm M2) (fun v h2 => v = some (.inl (gV M ag S D cnt)) ∧ h2 = gm M2) := by
  have w6 := hM.w6
  intro n
  induction n with
  | zero => intro i h1 h2; omega
  | succ n ih =>
    intro i hn hi
    have gvi := gV_r M ag S D i
    refine sx_iload_n d_M_movedSoFar_4 rfl ?_
    refine sx_iload_n d_M_movedSoFar_5 rfl ?_
    refine sx_icmp_ge (tgt := 53) d_M_movedSoFar_6 (by decide) (by omega) (by omega) (fun c6_12 => ?_) (fun c6_12 => ?_)
    · refine sx_iload_n d_M_movedSoFar_53 rfl ?_
      refine sx_retI d_M_movedSoFar_54 (Or.inl rfl) ⟨Nat.zero_le _, Nat.zero_le _⟩ ?_
      have e0 : i = cnt := by omega
      subst e0
      exact ⟨rfl, rfl⟩
    · have vi := hV i (by omega)
      have pi := hM.pl h7 i (by omega)
      refine sx_iload_n d_M_movedSoFar_9 rfl ?_
      refine sx_aload_n d_M_movedSoFar_10 rfl ?_
      refine sx_getR (r := some (72)) d_M_movedSoFar_11 fl_M_71 (go rfl rfl rfl) (by decide) (by decide) (by decide) rfl ?_
      refine sx_iload_n d_M_movedSoFar_14 rfl ?_
      refine sx_iald (z := (S i)) d_M_movedSoFar_15 (go rfl rfl rfl) (by omega) (by omega) (by decide) (hS i (by omega)).1 ?_
      refine sx_aload_n d_M_movedSoFar_16 rfl ?_
      refine sx_getR (r := some (67)) d_M_movedSoFar_17 fl_M_56 (go rfl rfl rfl) (by decide) (by decide) (by decide) rfl ?_
      refine sx_iload_n d_M_movedSoFar_20 rfl ?_
      refine sx_iald (z := (M 23 i)) d_M_movedSoFar_21 (go rfl rfl rfl) (by omega) (by omega) (by decide) ((M2s 67 i (by decide) (by decide) (by omega)).trans (hM.mst (by omega) i (by omega)).1) ?_
      refine sx_icmp_ne (tgt := 40) d_M_movedSoFar_22 (by decide) (by omega) (by omega) (fun c22_29 => ?_) (fun c22_29 => ?_)
      · refine sx_iconst d_M_movedSoFar_40 ?_
        refine sx_goto (tgt := 45) d_M_movedSoFar_41 (by decide) ?_
        refine sx_iadd d_M_movedSoFar_45 ?_
        refine sx_istore_n (l' := [some (sx_p 51), some (.inl (cnt : Int)), some (.inl ((gV M ag S D i) + 1)), some (.inl (i : Int))]) d_M_movedSoFar_46 (by decide) rfl rfl ?_
        refine sx_iinc (l' := [some (sx_p 51), some (.inl (cnt : Int)), some (.inl ((gV M ag S D i) + 1)), some (.inl ((i : Int) + 1))]) d_M_movedSoFar_47 rfl (by decide) rfl rfl ?_
        refine sx_goto (tgt := 4) d_M_movedSoFar_50 (by decide) ?_
        have e1 : ((i : Int) + 1) = ((i + 1 : Nat) : Int) := by omega
        rw [e1]
        have e2 : ((gV M ag S D i) + 1) = gV M ag S D (i + 1) := by (simp only [gV]; first | (rw [if_pos ⟨hag, fun k => by omega⟩]) | (rw [if_neg (fun k => k.2 ⟨by omega, by omega⟩)]))
        rw [e2]
        exact ih (i + 1) (by omega) (by omega)
      · refine sx_aload_n d_M_movedSoFar_25 rfl ?_
        refine sx_getR (r := some (73)) d_M_movedSoFar_26 fl_M_74 (go rfl rfl rfl) (by decide) (by decide) (by decide) rfl ?_
        refine sx_iload_n d_M_movedSoFar_29 rfl ?_
        refine sx_iald (z := (D i)) d_M_movedSoFar_30 (go rfl rfl rfl) (by omega) (by omega) (by decide) (hS i (by omega)).2.1 ?_
        refine sx_aload_n d_M_movedSoFar_31 rfl ?_
        refine sx_getR (r := some (68)) d_M_movedSoFar_32 fl_M_59 (go rfl rfl rfl) (by decide) (by decide) (by decide) rfl ?_
        refine sx_iload_n d_M_movedSoFar_35 rfl ?_
        refine sx_iald (z := (M 24 i)) d_M_movedSoFar_36 (go rfl rfl rfl) (by omega) (by omega) (by decide) ((M2s 68 i (by decide) (by decide) (by omega)).trans (hM.mst (by omega) i (by omega)).2) ?_
        refine sx_icmp_eq (tgt := 44) d_M_movedSoFar_37 (by decide) (by omega) (by omega) (fun c37_49 => ?_) (fun c37_49 => ?_)
        · refine sx_iconst d_M_movedSoFar_44 ?_
          refine sx_iadd d_M_movedSoFar_45 ?_
          refine sx_istore_n (l' := [some (sx_p 51), some (.inl (cnt : Int)), some (.inl ((gV M ag S D i) + 0)), some (.inl (i : Int))]) d_M_movedSoFar_46 (by decide) rfl rfl ?_
          refine sx_iinc (l' := [some (sx_p 51), some (.inl (cnt : Int)), some (.inl ((gV M ag S D i) + 0)), some (.inl ((i : Int) + 1))]) d_M_movedSoFar_47 rfl (by decide) rfl rfl ?_
          refine sx_goto (tgt := 4) d_M_movedSoFar_50 (by decide) ?_
          have e1 : ((i : Int) + 1) = ((i + 1 : Nat) : Int) := by omega
          rw [e1]
          have e2 : ((gV M ag S D i) + 0) = gV M ag S D (i + 1) := by (simp only [gV]; first | (rw [if_pos ⟨hag, fun k => by omega⟩]) | (rw [if_neg (fun k => k.2 ⟨by omega, by omega⟩)]))
          rw [e2]
          exact ih (i + 1) (by omega) (by omega)
        · refine sx_iconst d_M_movedSoFar_40 ?_
          refine sx_goto (tgt := 45) d_M_movedSoFar_41 (by decide) ?_
          refine sx_iadd d_M_movedSoFar_45 ?_
          refine sx_istore_n (l' := [some (sx_p 51), some (.inl (cnt : Int)), some (.inl ((gV M ag S D i) + 1)), some (.inl (i : Int))]) d_M_movedSoFar_46 (by decide) rfl rfl ?_
          refine sx_iinc (l' := [some (sx_p 51), some (.inl (cnt : Int)), some (.inl ((gV M ag S D i) + 1)), some (.inl ((i : Int) + 1))]) d_M_movedSoFar_47 rfl (by decide) rfl rfl ?_
          refine sx_goto (tgt := 4) d_M_movedSoFar_50 (by decide) ?_
          have e1 : ((i : Int) + 1) = ((i + 1 : Nat) : Int) := by omega
          rw [e1]
          have e2 : ((gV M ag S D i) + 1) = gV M ag S D (i + 1) := by (simp only [gV]; first | (rw [if_pos ⟨hag, fun k => by omega⟩]) | (rw [if_neg (fun k => k.2 ⟨by omega, by omega⟩)]))
          rw [e2]
          exact ih (i + 1) (by omega) (by omega)
set_option maxRecDepth 100000 in
set_option maxHeartbeats 4000000 in
theorem c_M_mv {L : Nat} {xs : Nat → Int32} (M : Nat → Nat → Int) (nc nw nb : Nat) (hM : MR M nc nw nb) (M2 : Nat → Nat → Int) (M2s : sf M M2) (M2R : IR M2) (cnt : Nat) (hc : cnt ≤ nw) (S D : Nat → Int) (hV : VS M cnt S D) (hS : SLt M cnt S D M2) (ag : Int) (hag : ag ≠ 0) (h7 : M 1 7 ≠ 0) : sx_R y_M_movedSoFar (0, 0, 0) L xs [sx_p 51, .inl (cnt : Int)] (gm M2) (fun v h2 => v = some (.inl (gV M ag S D cnt)) ∧ h2 = gm M2) := by
  refine sx_enter rfl (Nat.le_of_ble_eq_true rfl) rfl ?_
  show sx_V y_M_movedSoFar (0, 0, 0) L xs (0, 0) 0 [some (sx_p 51), some (.inl (cnt : Int)), none, none] [] (gm M2) _
  refine sx_iconst d_M_movedSoFar_0 ?_
  refine sx_istore_n (l' := [some (sx_p 51), some (.inl (cnt : Int)), some (.inl 0), none]) d_M_movedSoFar_1 (by decide) rfl rfl ?_
  refine sx_iconst d_M_movedSoFar_2 ?_
  refine sx_istore_n (l' := [some (sx_p 51), some (.inl (cnt : Int)), some (.inl 0), some (.inl 0)]) d_M_movedSoFar_3 (by decide) rfl rfl ?_
  exact l_M_mv M nc nw nb hM M2 M2s M2R cnt hc S D hV hS ag hag h7 (cnt + 1) 0 (by omega) (by omega)
set_option maxRecDepth 100000 in
set_option maxHeartbeats 4000000 in
theorem c_M_bt1 {L : Nat} {xs : Nat → Int32} (M : Nat → Nat → Int) (nc nw nb : Nat) (hM : MR M nc nw nb) (M2 : Nat → Nat → Int) (M2s : sf M M2) (M2R : IR M2) (l : Nat) (hl : l < nw) (S D : Nat → Int) (hV : VS M (l + 1) S D) (hS : SLt M (l + 1) S D M2) (ag : Int) (hag : ag = 0 ∨ ag = 1) (hag7 : ag ≠ 0 → M 1 7 ≠ 0) (q1 q2 : Nat → Int) (hb : eb2 M ag nw M2 (some (q1, q2))) : sx_R y_M_isBetter (1, 0, 0) L xs [sx_p 51, .inl ((l : Int) + 1), .inl ag] (gm M2) (fun v h2 => ∃ z, v = some (.inl z) ∧ (z = 0 ∨ z = 1) ∧ (z = 1 ↔ bt M ag nw l S D (some (q1, q2))) ∧ h2 = gm M2) := by
  have w6 := hM.w6
  have geq := gE_r (M := M) (S := q1) nw (fun i hi => ⟨(hM.ws i hi).1, (hb.2.2.2.2 i hi).1.1, by have e : q1 i ≤ 99 := (hb.2.2.2.2 i hi).1.2; omega⟩)
  have ges := gE_r (M := M) (S := S) (l + 1) (fun i hi => ⟨(hM.ws i (by omega)).1, (hV i hi).1.1, by have := (hV i hi).1.2; omega⟩)
  have gvq := gV_r M ag q1 q2 nw
  have gvs := gV_r M ag S D (l + 1)
  refine sx_enter rfl (Nat.le_of_ble_eq_true rfl) rfl ?_
  show sx_V y_M_isBetter (1, 0, 0) L xs (0, 0) 0 [some (sx_p 51), some (.inl ((l : Int) + 1)), some (.inl ag), none, none] [] (gm M2) _
  refine sx_aload_n d_M_isBetter_0 rfl ?_
  refine sx_getI (z := 1) d_M_isBetter_1 fl_M_144 (go rfl rfl rfl) (by decide) (by decide) (by decide) hb.1 ?_
  refine sx_if_ne (tgt := 9) d_M_isBetter_4 (by decide) ⟨by decide, by decide⟩ (fun c4_12 => ?_) (fun c4_12 => ?_)
  · refine sx_aload_n d_M_isBetter_9 rfl ?_
    refine sx_iload_n d_M_isBetter_10 rfl ?_
    refine sx_callV (c_M_ge M nc nw nb hM M2 M2s M2R (l + 1) (by omega) S D hV hS) d_M_isBetter_11 cd_M_greatestEnd lk_M_147 im_M_greatestEnd se_M_greatestEnd (go rfl rfl rfl) rfl rfl (by decide) (st := []) rfl rfl (Nat.le_of_ble_eq_true rfl) ⟨by decide, Nat.le_refl _, Nat.le_refl _⟩ (fun _ _ hq => ?_)
    obtain ⟨rfl, rfl⟩ := hq
    show sx_V _ _ _ _ (0, 0) _ _ [.inl (gE M S (l + 1))] (gm M2) _
    refine sx_aload_n d_M_isBetter_14 rfl ?_
    refine sx_getI (z := (gE M q1 nw)) d_M_isBetter_15 fl_M_150 (go rfl rfl rfl) (by decide) (by decide) (by decide) hb.2.1 ?_
    refine sx_icmp_ge (tgt := 25) d_M_isBetter_18 (by decide) (by omega) (by omega) (fun c18_20 => ?_) (fun c18_20 => ?_)
    · refine sx_iconst d_M_isBetter_25 ?_
      refine sx_istore_n (l' := [some (sx_p 51), some (.inl ((l : Int) + 1)), some (.inl ag), some (.inl 0), none]) d_M_isBetter_26 (by decide) rfl rfl ?_
      refine sx_iload_n d_M_isBetter_27 rfl ?_
      refine sx_if_eq (tgt := 39) d_M_isBetter_28 (by decide) (by omega) (fun c28_24 => ?_) (fun c28_24 => ?_)
      · refine sx_iconst d_M_isBetter_39 ?_
        refine sx_istore (l' := [some (sx_p 51), some (.inl ((l : Int) + 1)), some (.inl ag), some (.inl 0), some (.inl 0)]) d_M_isBetter_40 (by decide) rfl rfl ?_
        refine sx_iload_n d_M_isBetter_42 rfl ?_
        refine sx_if_eq (tgt := 76) d_M_isBetter_43 (by decide) (by omega) (fun c43_28 => ?_) (fun c43_28 => ?_)
        · refine sx_iload_n d_M_isBetter_76 rfl ?_
          refine sx_retI d_M_isBetter_77 (Or.inr ⟨rfl, by first | exact Or.inl rfl | exact Or.inr rfl | omega⟩) ⟨Nat.zero_le _, Nat.zero_le _⟩ ?_
          refine ⟨_, rfl, by omega, ?_, rfl⟩
          show _ ↔ gV M ag S D (l + 1) < gV M ag q1 q2 nw ∨ (gV M ag S D (l + 1) = gV M ag q1 q2 nw ∧ gE M S (l + 1) < gE M q1 nw)
          first | omega | (have z1 := gV_0 M S D (l + 1); have z2 := gV_0 M q1 q2 nw; have e0 : ag = 0 := (by omega); rw [e0]; omega)
        · refine sx_iload d_M_isBetter_46 rfl ?_
          refine sx_aload_n d_M_isBetter_48 rfl ?_
          refine sx_getI (z := (gV M ag q1 q2 nw)) d_M_isBetter_49 fl_M_156 (go rfl rfl rfl) (by decide) (by decide) (by decide) hb.2.2.1 ?_
          refine sx_icmp_lt (tgt := 68) d_M_isBetter_52 (by decide) ⟨by decide, by decide⟩ (by omega) (fun c52_37 => ?_) (fun c52_37 => ?_)
          · refine sx_iconst d_M_isBetter_68 ?_
            refine sx_goto (tgt := 77) d_M_isBetter_69 (by decide) ?_
            refine sx_retI d_M_isBetter_77 (Or.inr ⟨rfl, by first | exact Or.inl rfl | exact Or.inr rfl | omega⟩) ⟨Nat.zero_le _, Nat.zero_le _⟩ ?_
            refine ⟨_, rfl, by omega, ?_, rfl⟩
            show _ ↔ gV M ag S D (l + 1) < gV M ag q1 q2 nw ∨ (gV M ag S D (l + 1) = gV M ag q1 q2 nw ∧ gE M S (l + 1) < gE M q1 nw)
            first | omega | (have z1 := gV_0 M S D (l + 1); have z2 := gV_0 M q1 q2 nw; have e0 : ag = 0 := (by omega); rw [e0]; omega)
          · refine sx_iload d_M_isBetter_55 rfl ?_
            refine sx_aload_n d_M_isBetter_57 rfl ?_
            refine sx_getI (z := (gV M ag q1 q2 nw)) d_M_isBetter_58 fl_M_156 (go rfl rfl rfl) (by decide) (by decide) (by decide) hb.2.2.1 ?_
            refine sx_icmp_ne (tgt := 72) d_M_isBetter_61 (by decide) ⟨by decide, by decide⟩ (by omega) (fun c61_47 => ?_) (fun c61_47 => ?_)
            · refine sx_iconst d_M_isBetter_72 ?_
              refine sx_goto (tgt := 77) d_M_isBetter_73 (by decide) ?_
              refine sx_retI d_M_isBetter_77 (Or.inr ⟨rfl, by first | exact Or.inl rfl | exact Or.inr rfl | omega⟩) ⟨Nat.zero_le _, Nat.zero_le _⟩ ?_
              refine ⟨_, rfl, by omega, ?_, rfl⟩
              show _ ↔ gV M ag S D (l + 1) < gV M ag q1 q2 nw ∨ (gV M ag S D (l + 1) = gV M ag q1 q2 nw ∧ gE M S (l + 1) < gE M q1 nw)
              first | omega | (have z1 := gV_0 M S D (l + 1); have z2 := gV_0 M q1 q2 nw; have e0 : ag = 0 := (by omega); rw [e0]; omega)
            · refine sx_iload_n d_M_isBetter_64 rfl ?_
              refine sx_if_eq (tgt := 72) d_M_isBetter_65 (by decide) ⟨by decide, by decide⟩ (fun c65_55 => ?_) (fun c65_55 => ?_)
              · refine sx_iconst d_M_isBetter_72 ?_
                refine sx_goto (tgt := 77) d_M_isBetter_73 (by decide) ?_
                refine sx_retI d_M_isBetter_77 (Or.inr ⟨rfl, by first | exact Or.inl rfl | exact Or.inr rfl | omega⟩) ⟨Nat.zero_le _, Nat.zero_le _⟩ ?_
                refine ⟨_, rfl, by omega, ?_, rfl⟩
                show _ ↔ gV M ag S D (l + 1) < gV M ag q1 q2 nw ∨ (gV M ag S D (l + 1) = gV M ag q1 q2 nw ∧ gE M S (l + 1) < gE M q1 nw)
                first | omega | (have z1 := gV_0 M S D (l + 1); have z2 := gV_0 M q1 q2 nw; have e0 : ag = 0 := (by omega); rw [e0]; omega)
              · omega
      · refine sx_aload_n d_M_isBetter_31 rfl ?_
        refine sx_iload_n d_M_isBetter_32 rfl ?_
        refine sx_callV (c_M_mv M nc nw nb hM M2 M2s M2R (l + 1) (by omega) S D hV hS ag (by omega) (hag7 (by omega))) d_M_isBetter_33 cd_M_movedSoFar lk_M_153 im_M_movedSoFar se_M_movedSoFar (go rfl rfl rfl) rfl rfl (by decide) (st := []) rfl rfl (Nat.le_of_ble_eq_true rfl) ⟨by decide, Nat.le_refl _, Nat.le_refl _⟩ (fun _ _ hq => ?_)
        obtain ⟨rfl, rfl⟩ := hq
        show sx_V _ _ _ _ (0, 0) _ _ [.inl (gV M ag S D (l + 1))] (gm M2) _
        refine sx_goto (tgt := 40) d_M_isBetter_36 (by decide) ?_
        refine sx_istore (l' := [some (sx_p 51), some (.inl ((l : Int) + 1)), some (.inl ag), some (.inl 0), some (.inl (gV M ag S D (l + 1)))]) d_M_isBetter_40 (by decide) rfl rfl ?_
        refine sx_iload_n d_M_isBetter_42 rfl ?_
        refine sx_if_eq (tgt := 76) d_M_isBetter_43 (by decide) (by omega) (fun c43_71 => ?_) (fun c43_71 => ?_)
        · refine sx_iload_n d_M_isBetter_76 rfl ?_
          refine sx_retI d_M_isBetter_77 (Or.inr ⟨rfl, by first | exact Or.inl rfl | exact Or.inr rfl | omega⟩) ⟨Nat.zero_le _, Nat.zero_le _⟩ ?_
          refine ⟨_, rfl, by omega, ?_, rfl⟩
          show _ ↔ gV M ag S D (l + 1) < gV M ag q1 q2 nw ∨ (gV M ag S D (l + 1) = gV M ag q1 q2 nw ∧ gE M S (l + 1) < gE M q1 nw)
          first | omega | (have z1 := gV_0 M S D (l + 1); have z2 := gV_0 M q1 q2 nw; have e0 : ag = 0 := (by omega); rw [e0]; omega)
        · refine sx_iload d_M_isBetter_46 rfl ?_
          refine sx_aload_n d_M_isBetter_48 rfl ?_
          refine sx_getI (z := (gV M ag q1 q2 nw)) d_M_isBetter_49 fl_M_156 (go rfl rfl rfl) (by decide) (by decide) (by decide) hb.2.2.1 ?_
          refine sx_icmp_lt (tgt := 68) d_M_isBetter_52 (by decide) (by omega) (by omega) (fun c52_80 => ?_) (fun c52_80 => ?_)
          · refine sx_iconst d_M_isBetter_68 ?_
            refine sx_goto (tgt := 77) d_M_isBetter_69 (by decide) ?_
            refine sx_retI d_M_isBetter_77 (Or.inr ⟨rfl, by first | exact Or.inl rfl | exact Or.inr rfl | omega⟩) ⟨Nat.zero_le _, Nat.zero_le _⟩ ?_
            refine ⟨_, rfl, by omega, ?_, rfl⟩
            show _ ↔ gV M ag S D (l + 1) < gV M ag q1 q2 nw ∨ (gV M ag S D (l + 1) = gV M ag q1 q2 nw ∧ gE M S (l + 1) < gE M q1 nw)
            first | omega | (have z1 := gV_0 M S D (l + 1); have z2 := gV_0 M q1 q2 nw; have e0 : ag = 0 := (by omega); rw [e0]; omega)
          · refine sx_iload d_M_isBetter_55 rfl ?_
            refine sx_aload_n d_M_isBetter_57 rfl ?_
            refine sx_getI (z := (gV M ag q1 q2 nw)) d_M_isBetter_58 fl_M_156 (go rfl rfl rfl) (by decide) (by decide) (by decide) hb.2.2.1 ?_
            refine sx_icmp_ne (tgt := 72) d_M_isBetter_61 (by decide) (by omega) (by omega) (fun c61_90 => ?_) (fun c61_90 => ?_)
            · refine sx_iconst d_M_isBetter_72 ?_
              refine sx_goto (tgt := 77) d_M_isBetter_73 (by decide) ?_
              refine sx_retI d_M_isBetter_77 (Or.inr ⟨rfl, by first | exact Or.inl rfl | exact Or.inr rfl | omega⟩) ⟨Nat.zero_le _, Nat.zero_le _⟩ ?_
              refine ⟨_, rfl, by omega, ?_, rfl⟩
              show _ ↔ gV M ag S D (l + 1) < gV M ag q1 q2 nw ∨ (gV M ag S D (l + 1) = gV M ag q1 q2 nw ∧ gE M S (l + 1) < gE M q1 nw)
              first | omega | (have z1 := gV_0 M S D (l + 1); have z2 := gV_0 M q1 q2 nw; have e0 : ag = 0 := (by omega); rw [e0]; omega)
            · refine sx_iload_n d_M_isBetter_64 rfl ?_
              refine sx_if_eq (tgt := 72) d_M_isBetter_65 (by decide) ⟨by decide, by decide⟩ (fun c65_98 => ?_) (fun c65_98 => ?_)
              · refine sx_iconst d_M_isBetter_72 ?_
                refine sx_goto (tgt := 77) d_M_isBetter_73 (by decide) ?_
                refine sx_retI d_M_isBetter_77 (Or.inr ⟨rfl, by first | exact Or.inl rfl | exact Or.inr rfl | omega⟩) ⟨Nat.zero_le _, Nat.zero_le _⟩ ?_
                refine ⟨_, rfl, by omega, ?_, rfl⟩
                show _ ↔ gV M ag S D (l + 1) < gV M ag q1 q2 nw ∨ (gV M ag S D (l + 1) = gV M ag q1 q2 nw ∧ gE M S (l + 1) < gE M q1 nw)
                first | omega | (have z1 := gV_0 M S D (l + 1); have z2 := gV_0 M q1 q2 nw; have e0 : ag = 0 := (by omega); rw [e0]; omega)
              · omega
    · refine sx_iconst d_M_isBetter_21 ?_
      refine sx_goto (tgt := 26) d_M_isBetter_22 (by decide) ?_
      refine sx_istore_n (l' := [some (sx_p 51), some (.inl ((l : Int) + 1)), some (.inl ag), some (.inl 1), none]) d_M_isBetter_26 (by decide) rfl rfl ?_
      refine sx_iload_n d_M_isBetter_27 rfl ?_
      refine sx_if_eq (tgt := 39) d_M_isBetter_28 (by decide) (by omega) (fun c28_110 => ?_) (fun c28_110 => ?_)
      · refine sx_iconst d_M_isBetter_39 ?_
        refine sx_istore (l' := [some (sx_p 51), some (.inl ((l : Int) + 1)), some (.inl ag), some (.inl 1), some (.inl 0)]) d_M_isBetter_40 (by decide) rfl rfl ?_
        refine sx_iload_n d_M_isBetter_42 rfl ?_
        refine sx_if_eq (tgt := 76) d_M_isBetter_43 (by decide) (by omega) (fun c43_114 => ?_) (fun c43_114 => ?_)
        · refine sx_iload_n d_M_isBetter_76 rfl ?_
          refine sx_retI d_M_isBetter_77 (Or.inr ⟨rfl, by first | exact Or.inl rfl | exact Or.inr rfl | omega⟩) ⟨Nat.zero_le _, Nat.zero_le _⟩ ?_
          refine ⟨_, rfl, by omega, ?_, rfl⟩
          show _ ↔ gV M ag S D (l + 1) < gV M ag q1 q2 nw ∨ (gV M ag S D (l + 1) = gV M ag q1 q2 nw ∧ gE M S (l + 1) < gE M q1 nw)
          first | omega | (have z1 := gV_0 M S D (l + 1); have z2 := gV_0 M q1 q2 nw; have e0 : ag = 0 := (by omega); rw [e0]; omega)
        · refine sx_iload d_M_isBetter_46 rfl ?_
          refine sx_aload_n d_M_isBetter_48 rfl ?_
          refine sx_getI (z := (gV M ag q1 q2 nw)) d_M_isBetter_49 fl_M_156 (go rfl rfl rfl) (by decide) (by decide) (by decide) hb.2.2.1 ?_
          refine sx_icmp_lt (tgt := 68) d_M_isBetter_52 (by decide) ⟨by decide, by decide⟩ (by omega) (fun c52_123 => ?_) (fun c52_123 => ?_)
          · refine sx_iconst d_M_isBetter_68 ?_
            refine sx_goto (tgt := 77) d_M_isBetter_69 (by decide) ?_
            refine sx_retI d_M_isBetter_77 (Or.inr ⟨rfl, by first | exact Or.inl rfl | exact Or.inr rfl | omega⟩) ⟨Nat.zero_le _, Nat.zero_le _⟩ ?_
            refine ⟨_, rfl, by omega, ?_, rfl⟩
            show _ ↔ gV M ag S D (l + 1) < gV M ag q1 q2 nw ∨ (gV M ag S D (l + 1) = gV M ag q1 q2 nw ∧ gE M S (l + 1) < gE M q1 nw)
            first | omega | (have z1 := gV_0 M S D (l + 1); have z2 := gV_0 M q1 q2 nw; have e0 : ag = 0 := (by omega); rw [e0]; omega)
          · refine sx_iload d_M_isBetter_55 rfl ?_
            refine sx_aload_n d_M_isBetter_57 rfl ?_
            refine sx_getI (z := (gV M ag q1 q2 nw)) d_M_isBetter_58 fl_M_156 (go rfl rfl rfl) (by decide) (by decide) (by decide) hb.2.2.1 ?_
            refine sx_icmp_ne (tgt := 72) d_M_isBetter_61 (by decide) ⟨by decide, by decide⟩ (by omega) (fun c61_133 => ?_) (fun c61_133 => ?_)
            · refine sx_iconst d_M_isBetter_72 ?_
              refine sx_goto (tgt := 77) d_M_isBetter_73 (by decide) ?_
              refine sx_retI d_M_isBetter_77 (Or.inr ⟨rfl, by first | exact Or.inl rfl | exact Or.inr rfl | omega⟩) ⟨Nat.zero_le _, Nat.zero_le _⟩ ?_
              refine ⟨_, rfl, by omega, ?_, rfl⟩
              show _ ↔ gV M ag S D (l + 1) < gV M ag q1 q2 nw ∨ (gV M ag S D (l + 1) = gV M ag q1 q2 nw ∧ gE M S (l + 1) < gE M q1 nw)
              first | omega | (have z1 := gV_0 M S D (l + 1); have z2 := gV_0 M q1 q2 nw; have e0 : ag = 0 := (by omega); rw [e0]; omega)
            · refine sx_iload_n d_M_isBetter_64 rfl ?_
              refine sx_if_eq (tgt := 72) d_M_isBetter_65 (by decide) ⟨by decide, by decide⟩ (fun c65_141 => ?_) (fun c65_141 => ?_)
              · omega
              · refine sx_iconst d_M_isBetter_68 ?_
                refine sx_goto (tgt := 77) d_M_isBetter_69 (by decide) ?_
                refine sx_retI d_M_isBetter_77 (Or.inr ⟨rfl, by first | exact Or.inl rfl | exact Or.inr rfl | omega⟩) ⟨Nat.zero_le _, Nat.zero_le _⟩ ?_
                refine ⟨_, rfl, by omega, ?_, rfl⟩
                show _ ↔ gV M ag S D (l + 1) < gV M ag q1 q2 nw ∨ (gV M ag S D (l + 1) = gV M ag q1 q2 nw ∧ gE M S (l + 1) < gE M q1 nw)
                first | omega | (have z1 := gV_0 M S D (l + 1); have z2 := gV_0 M q1 q2 nw; have e0 : ag = 0 := (by omega); rw [e0]; omega)
      · refine sx_aload_n d_M_isBetter_31 rfl ?_
        refine sx_iload_n d_M_isBetter_32 rfl ?_
        refine sx_callV (c_M_mv M nc nw nb hM M2 M2s M2R (l + 1) (by omega) S D hV hS ag (by omega) (hag7 (by omega))) d_M_isBetter_33 cd_M_movedSoFar lk_M_153 im_M_movedSoFar se_M_movedSoFar (go rfl rfl rfl) rfl rfl (by decide) (st := []) rfl rfl (Nat.le_of_ble_eq_true rfl) ⟨by decide, Nat.le_refl _, Nat.le_refl _⟩ (fun _ _ hq => ?_)
        obtain ⟨rfl, rfl⟩ := hq
        show sx_V _ _ _ _ (0, 0) _ _ [.inl (gV M ag S D (l + 1))] (gm M2) _
        refine sx_goto (tgt := 40) d_M_isBetter_36 (by decide) ?_
        refine sx_istore (l' := [some (sx_p 51), some (.inl ((l : Int) + 1)), some (.inl ag), some (.inl 1), some (.inl (gV M ag S D (l + 1)))]) d_M_isBetter_40 (by decide) rfl rfl ?_
        refine sx_iload_n d_M_isBetter_42 rfl ?_
        refine sx_if_eq (tgt := 76) d_M_isBetter_43 (by decide) (by omega) (fun c43_157 => ?_) (fun c43_157 => ?_)
        · refine sx_iload_n d_M_isBetter_76 rfl ?_
          refine sx_retI d_M_isBetter_77 (Or.inr ⟨rfl, by first | exact Or.inl rfl | exact Or.inr rfl | omega⟩) ⟨Nat.zero_le _, Nat.zero_le _⟩ ?_
          refine ⟨_, rfl, by omega, ?_, rfl⟩
          show _ ↔ gV M ag S D (l + 1) < gV M ag q1 q2 nw ∨ (gV M ag S D (l + 1) = gV M ag q1 q2 nw ∧ gE M S (l + 1) < gE M q1 nw)
          first | omega | (have z1 := gV_0 M S D (l + 1); have z2 := gV_0 M q1 q2 nw; have e0 : ag = 0 := (by omega); rw [e0]; omega)
        · refine sx_iload d_M_isBetter_46 rfl ?_
          refine sx_aload_n d_M_isBetter_48 rfl ?_
          refine sx_getI (z := (gV M ag q1 q2 nw)) d_M_isBetter_49 fl_M_156 (go rfl rfl rfl) (by decide) (by decide) (by decide) hb.2.2.1 ?_
          refine sx_icmp_lt (tgt := 68) d_M_isBetter_52 (by decide) (by omega) (by omega) (fun c52_166 => ?_) (fun c52_166 => ?_)
          · refine sx_iconst d_M_isBetter_68 ?_
            refine sx_goto (tgt := 77) d_M_isBetter_69 (by decide) ?_
            refine sx_retI d_M_isBetter_77 (Or.inr ⟨rfl, by first | exact Or.inl rfl | exact Or.inr rfl | omega⟩) ⟨Nat.zero_le _, Nat.zero_le _⟩ ?_
            refine ⟨_, rfl, by omega, ?_, rfl⟩
            show _ ↔ gV M ag S D (l + 1) < gV M ag q1 q2 nw ∨ (gV M ag S D (l + 1) = gV M ag q1 q2 nw ∧ gE M S (l + 1) < gE M q1 nw)
            first | omega | (have z1 := gV_0 M S D (l + 1); have z2 := gV_0 M q1 q2 nw; have e0 : ag = 0 := (by omega); rw [e0]; omega)
          · refine sx_iload d_M_isBetter_55 rfl ?_
            refine sx_aload_n d_M_isBetter_57 rfl ?_
            refine sx_getI (z := (gV M ag q1 q2 nw)) d_M_isBetter_58 fl_M_156 (go rfl rfl rfl) (by decide) (by decide) (by decide) hb.2.2.1 ?_
            refine sx_icmp_ne (tgt := 72) d_M_isBetter_61 (by decide) (by omega) (by omega) (fun c61_176 => ?_) (fun c61_176 => ?_)
            · refine sx_iconst d_M_isBetter_72 ?_
              refine sx_goto (tgt := 77) d_M_isBetter_73 (by decide) ?_
              refine sx_retI d_M_isBetter_77 (Or.inr ⟨rfl, by first | exact Or.inl rfl | exact Or.inr rfl | omega⟩) ⟨Nat.zero_le _, Nat.zero_le _⟩ ?_
              refine ⟨_, rfl, by omega, ?_, rfl⟩
              show _ ↔ gV M ag S D (l + 1) < gV M ag q1 q2 nw ∨ (gV M ag S D (l + 1) = gV M ag q1 q2 nw ∧ gE M S (l + 1) < gE M q1 nw)
              first | omega | (have z1 := gV_0 M S D (l + 1); have z2 := gV_0 M q1 q2 nw; have e0 : ag = 0 := (by omega); rw [e0]; omega)
            · refine sx_iload_n d_M_isBetter_64 rfl ?_
              refine sx_if_eq (tgt := 72) d_M_isBetter_65 (by decide) ⟨by decide, by decide⟩ (fun c65_184 => ?_) (fun c65_184 => ?_)
              · omega
              · refine sx_iconst d_M_isBetter_68 ?_
                refine sx_goto (tgt := 77) d_M_isBetter_69 (by decide) ?_
                refine sx_retI d_M_isBetter_77 (Or.inr ⟨rfl, by first | exact Or.inl rfl | exact Or.inr rfl | omega⟩) ⟨Nat.zero_le _, Nat.zero_le _⟩ ?_
                refine ⟨_, rfl, by omega, ?_, rfl⟩
                show _ ↔ gV M ag S D (l + 1) < gV M ag q1 q2 nw ∨ (gV M ag S D (l + 1) = gV M ag q1 q2 nw ∧ gE M S (l + 1) < gE M q1 nw)
                first | omega | (have z1 := gV_0 M S D (l + 1); have z2 := gV_0 M q1 q2 nw; have e0 : ag = 0 := (by omega); rw [e0]; omega)
  · omega
set_option maxRecDepth 100000 in
set_option maxHeartbeats 4000000 in
theorem c_M_bt0 {L : Nat} {xs : Nat → Int32} (M : Nat → Nat → Int) (nc nw nb : Nat) (hM : MR M nc nw nb) (M2 : Nat → Nat → Int) (M2s : sf M M2) (M2R : IR M2) (l : Nat) (hl : l < nw) (S D : Nat → Int) (hV : VS M (l + 1) S D) (hS : SLt M (l + 1) S D M2) (ag : Int) (hag : ag = 0 ∨ ag = 1) (hag7 : ag ≠ 0 → M 1 7 ≠ 0) (hb : eb2 M ag nw M2 none) : sx_R y_M_isBetter (1, 0, 0) L xs [sx_p 51, .inl ((l : Int) + 1), .inl ag] (gm M2) (fun v h2 => ∃ z, v = some (.inl z) ∧ (z = 0 ∨ z = 1) ∧ (z = 1 ↔ bt M ag nw l S D none) ∧ h2 = gm M2) := by
  refine sx_enter rfl (Nat.le_of_ble_eq_true rfl) rfl ?_
  show sx_V y_M_isBetter (1, 0, 0) L xs (0, 0) 0 [some (sx_p 51), some (.inl ((l : Int) + 1)), some (.inl ag), none, none] [] (gm M2) _
  refine sx_aload_n d_M_isBetter_0 rfl ?_
  refine sx_getI (z := 0) d_M_isBetter_1 fl_M_144 (go rfl rfl rfl) (by decide) (by decide) (by decide) hb ?_
  refine sx_if_ne (tgt := 9) d_M_isBetter_4 (by decide) ⟨by decide, by decide⟩ (fun c4_7 => ?_) (fun c4_7 => ?_)
  · omega
  · refine sx_iconst d_M_isBetter_7 ?_
    refine sx_retI d_M_isBetter_8 (Or.inr ⟨rfl, by first | exact Or.inl rfl | exact Or.inr rfl | omega⟩) ⟨Nat.zero_le _, Nat.zero_le _⟩ ?_
    exact ⟨_, rfl, Or.inr rfl, ⟨fun _ => trivial, fun _ => rfl⟩, rfl⟩
theorem c_M_bt {L : Nat} {xs : Nat → Int32} (M : Nat → Nat → Int) (nc nw nb : Nat) (hM : MR M nc nw nb) (M2 : Nat → Nat → Int) (M2s : sf M M2) (M2R : IR M2) (l : Nat) (hl : l < nw) (S D : Nat → Int) (hV : VS M (l + 1) S D) (hS : SLt M (l + 1) S D M2) (ag : Int) (hag : ag = 0 ∨ ag = 1) (hag7 : ag ≠ 0 → M 1 7 ≠ 0) (b : sB) (hb : eb2 M ag nw M2 b) : sx_R y_M_isBetter (1, 0, 0) L xs [sx_p 51, .inl ((l : Int) + 1), .inl ag] (gm M2) (fun v h2 => ∃ z, v = some (.inl z) ∧ (z = 0 ∨ z = 1) ∧ (z = 1 ↔ bt M ag nw l S D b) ∧ h2 = gm M2) := by
  cases b with
  | none => exact c_M_bt0 M nc nw nb hM M2 M2s M2R l hl S D hV hS ag hag hag7 hb
  | some q => exact c_M_bt1 M nc nw nb hM M2 M2s M2R l hl S D hV hS ag hag hag7 q.1 q.2 hb
theorem laid_c {M : Nat → Nat → Int} {w sl sl2 : Nat} {s d : Int} {M2 M3 : Nat → Nat → Int} (hW : IW M w) (h : laid M w sl s d M2) (hf : lyf sl2 M2 M3) (hne : sl ≠ sl2) : laid M w sl s d M3 := by
  obtain ⟨a1, a2, a3, a4, a5, a6⟩ := hW
  refine ⟨(hf.2.1 72 sl (by decide) (by decide) hne).trans h.1, (hf.2.1 73 sl (by decide) (by decide) hne).trans h.2.1, (hf.2.1 74 sl (by decide) (by decide) hne).trans h.2.2.1, fun p h1 h2 => ?_⟩
  have h3 := h.2.2.2 p h1 h2
  have h4 : 201 * sl + p.toNat < 201 * sl2 ∨ 201 * sl2 + 201 ≤ 201 * sl + p.toNat := by
    rcases Nat.lt_or_ge sl sl2 with q | q <;> omega
  exact ⟨(hf.2.2 75 _ (by decide) (by decide) h4).trans h3.1, (hf.2.2 76 _ (by decide) (by decide) h4).trans h3.2⟩
theorem eb2_c {M : Nat → Nat → Int} {ag : Int} {nw : Nat} {M2 M3 : Nat → Nat → Int} {b : sB} (h : eb2 M ag nw M2 b) (h51 : ∀ k, 33 ≤ k → M3 51 k = M2 51 k) (h78 : ∀ k, M3 78 k = M2 78 k) (h79 : ∀ k, M3 79 k = M2 79 k) : eb2 M ag nw M3 b := by
  cases b with
  | none => exact (h51 33 (by decide)).trans h
  | some q => exact ⟨(h51 33 (by decide)).trans h.1, (h51 34 (by decide)).trans h.2.1, (h51 35 (by decide)).trans h.2.2.1, fun i hi => ⟨(h78 i).trans (h.2.2.2.1 i hi).1, (h79 i).trans (h.2.2.2.1 i hi).2⟩, h.2.2.2.2⟩
theorem VS.up {M : Nat → Nat → Int} {l : Nat} {S D : Nat → Int} (h : VS M l S D) {s d : Int} (hs : 0 ≤ s ∧ s ≤ 99) (hd : d = 0 ∨ d = 1) (hw : dr M s.toNat = false) : VS M (l + 1) (va_up S l s) (va_up D l d) := fun j hj => by
  by_cases q : j = l
  · subst q; rw [up_at, up_at]; exact ⟨hs, hd, hw⟩
  · rw [up_lt (by omega), up_lt (by omega)]; exact h j (by omega)
set_option maxRecDepth 100000 in
set_option maxHeartbeats 4000000 in
theorem l_M_go {L : Nat} {xs : Nat → Int32} (M : Nat → Nat → Int) (nc nw nb : Nat) (hM : MR M nc nw nb) (M2 : Nat → Nat → Int) (M2s : sf M M2) (M2R : IR M2) (l : Nat) (hl : l < nw) (S D : Nat → Int) (hV : VS M l S D) (hS : SLt M l S D M2) (ag : Int) (hag : ag = 0 ∨ ag = 1) (hag7 : ag ≠ 0 → M 1 7 ≠ 0) (b : sB) (hb : eb2 M ag nw M2 b) (s d : Int) (hs : 0 ≤ s ∧ s ≤ 99) (hd01 : d = 0 ∨ d = 1) (x2 : Int) :  sx_V y_M_goesOn (3, 0, 0) L xs (0, 0) 72 [some (sx_p 51), some (.inl (l : Int)), some (.inl x2), some (.inl ag), some (.inl s), some (.inl d)] [] (gm M2) (fun v h2 => ∃ z, v = some (.inl z) ∧ (z = 0 ∨ z = 1) ∧ (z = 1 ↔ GG M ag nw nb l (va_up S l s) (va_up D l d) b = true) ∧ ∃ M3, h2 = gm M3 ∧ lyf l M2 M3 ∧ sf M M3 ∧ IR M3 ∧ (z = 1 → laid M l l s d M3 ∧ dr M s.toNat = false)) := by
  have w6 := hM.w6
  have gg := GG_iff (ag := ag) hM.w6 hM.ws hM.gp hl hV (d := d) hs b
  refine sx_aload_n d_M_goesOn_72 rfl ?_
  refine sx_iload d_M_goesOn_73 rfl ?_
  refine sx_callV (c_M_isRest M nc nw nb hM M2 M2s s (by omega)) d_M_goesOn_75 cd_M_isRest lk_M_123 im_M_isRest se_M_isRest (go rfl rfl rfl) rfl rfl (by decide) (st := []) rfl rfl (Nat.le_of_ble_eq_true rfl) ⟨by decide, Nat.le_refl _, Nat.le_refl _⟩ (fun _ _ hq => ?_)
  obtain ⟨zr, rfl, zrb, zri, rfl⟩ := hq
  show sx_V _ _ _ _ (0, 0) _ _ [.inl zr] (gm M2) _
  refine sx_if_eq (tgt := 83) d_M_goesOn_78 (by decide) (by omega) (fun c78_10 => ?_) (fun c78_10 => ?_)
  · have hsw : dr M s.toNat = false := by (cases q : dr M s.toNat; rfl; exact absurd (zri.mpr ⟨by omega, q⟩) (by omega))
    refine sx_aload_n d_M_goesOn_83 rfl ?_
    refine sx_iload_n d_M_goesOn_84 rfl ?_
    refine sx_iload_n d_M_goesOn_85 rfl ?_
    refine sx_iload d_M_goesOn_86 rfl ?_
    refine sx_iload d_M_goesOn_88 rfl ?_
    refine sx_callV (c_M_lay M nc nw nb hM M2 M2s M2R l (by omega) l hl s d (by omega) hsw hd01) d_M_goesOn_90 cd_M_lay lk_M_159 im_M_lay se_M_lay (go rfl rfl rfl) rfl rfl (by decide) (st := []) rfl rfl (Nat.le_of_ble_eq_true rfl) ⟨by decide, Nat.le_refl _, Nat.le_refl _⟩ (fun _ _ hq => ?_)
    obtain ⟨rfl, M3, rfl, M3f, M3R, M3s, hL⟩ := hq
    have hS3 : SLt M (l + 1) (va_up S l s) (va_up D l d) M3 := fun j hj => by (by_cases q : j = l; (subst q; rw [up_at, up_at]; exact hL); (rw [up_lt (by omega), up_lt (by omega)]; exact laid_c (hM.ws j (by omega)).1 (hS j (by omega)) M3f q))
    have hV3 := hV.up hs hd01 hsw
    have hb3 : eb2 M ag nw M3 b := eb2_c hb (fun k hk => M3f.1 51 k (by omega)) (fun k => M3f.1 78 k (by omega)) (fun k => M3f.1 79 k (by omega))
    show sx_V _ _ _ _ (0, 0) _ _ [] (gm M3) _
    refine sx_aload_n d_M_goesOn_93 rfl ?_
    refine sx_iload_n d_M_goesOn_94 rfl ?_
    refine sx_iload_n d_M_goesOn_95 rfl ?_
    refine sx_iload_n d_M_goesOn_96 rfl ?_
    refine sx_callV (c_M_ka M nc nw nb hM M3 M3s M3R l (by omega) l hl s d (by omega) hL l (by omega) (va_up S l s) (va_up D l d) (fun j hj hne => ⟨hS3 j (by omega), by have := (hV3 j (by omega)).1; omega, (hV3 j (by omega)).2.1⟩)) d_M_goesOn_97 cd_M_keepsAll lk_M_163 im_M_keepsAll se_M_keepsAll (go rfl rfl rfl) rfl rfl (by decide) (st := []) rfl rfl (Nat.le_of_ble_eq_true rfl) ⟨by decide, Nat.le_refl _, Nat.le_refl _⟩ (fun _ _ hq => ?_)
    obtain ⟨zk, rfl, zkb, zki, rfl⟩ := hq
    show sx_V _ _ _ _ (0, 0) _ _ [.inl zk] (gm M3) _
    refine sx_if_eq (tgt := 118) d_M_goesOn_100 (by decide) (by omega) (fun c100_30 => ?_) (fun c100_30 => ?_)
    · refine sx_iconst d_M_goesOn_118 ?_
      refine sx_retI d_M_goesOn_119 (Or.inr ⟨rfl, by first | exact Or.inl rfl | exact Or.inr rfl | omega⟩) ⟨Nat.zero_le _, Nat.zero_le _⟩ ?_
      refine ⟨_, rfl, Or.inl rfl, ⟨fun k => absurd k (by decide), fun k => ?_⟩, M3, rfl, M3f, M3s, M3R, fun k => absurd k (by decide)⟩
      have k2 := gg.mp k
      exfalso
      first | (have := zki.mpr k2.2.1; omega) | (have := zti.mpr k2.2.2; omega)
    · refine sx_aload_n d_M_goesOn_103 rfl ?_
      refine sx_iload_n d_M_goesOn_104 rfl ?_
      refine sx_iconst d_M_goesOn_105 ?_
      refine sx_iadd d_M_goesOn_106 ?_
      refine sx_iload_n d_M_goesOn_107 rfl ?_
      refine sx_callV (c_M_bt M nc nw nb hM M3 M3s M3R l hl (va_up S l s) (va_up D l d) hV3 hS3 ag hag hag7 b hb3) d_M_goesOn_108 cd_M_isBetter lk_M_166 im_M_isBetter se_M_isBetter (go rfl rfl rfl) rfl rfl (by decide) (st := []) rfl rfl (Nat.le_of_ble_eq_true rfl) ⟨by decide, Nat.le_refl _, Nat.le_refl _⟩ (fun _ _ hq => ?_)
      obtain ⟨zt, rfl, ztb, zti, rfl⟩ := hq
      show sx_V _ _ _ _ (0, 0) _ _ [.inl zt] (gm M3) _
      refine sx_if_eq (tgt := 118) d_M_goesOn_111 (by decide) (by omega) (fun c111_45 => ?_) (fun c111_45 => ?_)
      · refine sx_iconst d_M_goesOn_118 ?_
        refine sx_retI d_M_goesOn_119 (Or.inr ⟨rfl, by first | exact Or.inl rfl | exact Or.inr rfl | omega⟩) ⟨Nat.zero_le _, Nat.zero_le _⟩ ?_
        refine ⟨_, rfl, Or.inl rfl, ⟨fun k => absurd k (by decide), fun k => ?_⟩, M3, rfl, M3f, M3s, M3R, fun k => absurd k (by decide)⟩
        have k2 := gg.mp k
        exfalso
        first | (have := zki.mpr k2.2.1; omega) | (have := zti.mpr k2.2.2; omega)
      · refine sx_iconst d_M_goesOn_114 ?_
        refine sx_goto (tgt := 119) d_M_goesOn_115 (by decide) ?_
        refine sx_retI d_M_goesOn_119 (Or.inr ⟨rfl, by first | exact Or.inl rfl | exact Or.inr rfl | omega⟩) ⟨Nat.zero_le _, Nat.zero_le _⟩ ?_
        exact ⟨_, rfl, Or.inr rfl, ⟨fun _ => gg.mpr ⟨hsw, zki.mp (by omega), zti.mp (by omega)⟩, fun _ => rfl⟩, M3, rfl, M3f, M3s, M3R, fun _ => ⟨hL, hsw⟩⟩
  · refine sx_iconst d_M_goesOn_81 ?_
    refine sx_retI d_M_goesOn_82 (Or.inr ⟨rfl, by first | exact Or.inl rfl | exact Or.inr rfl | omega⟩) ⟨Nat.zero_le _, Nat.zero_le _⟩ ?_
    refine ⟨_, rfl, Or.inl rfl, ⟨fun k => absurd k (by decide), fun k => ?_⟩, M2, rfl, ⟨fun _ _ _ => rfl, fun _ _ _ _ _ => rfl, fun _ _ _ _ _ => rfl⟩, M2s, M2R, fun k => absurd k (by decide)⟩
    have := (gg.mp k).1
    rw [(zri.mp (by omega)).2] at this
    exact absurd this (by decide)
theorem cnd_r {M : Nat → Nat → Int} {nc nw nb l k : Nat} (hM : MR M nc nw nb) (hl : l < nw) (hk : k < trs M l) : (0 ≤ (cnd M l k).1 ∧ (cnd M l k).1 ≤ 99) ∧ ((cnd M l k).2 = 0 ∨ (cnd M l k).2 = 1) := by
  unfold cnd
  unfold trs at hk
  have fz := (hM.mfz l hl).2
  by_cases q : M (14 + l) 10 = 0
  · rw [if_pos q] at hk ⊢
    by_cases q2 : M (14 + l) 6 = 0
    · rw [if_pos q2] at hk ⊢
      exact ⟨⟨by show (0 : Int) ≤ (k : Int); omega, by show (k : Int) ≤ 99; omega⟩, Or.inl rfl⟩
    · rw [if_neg q2] at hk ⊢
      exact ⟨⟨by show (0 : Int) ≤ ((k / 2 : Nat) : Int); omega, by show ((k / 2 : Nat) : Int) ≤ 99; omega⟩, by show ((k % 2 : Nat) : Int) = 0 ∨ ((k % 2 : Nat) : Int) = 1; omega⟩
  · rw [if_neg q]
    have h7 : M 1 7 ≠ 0 := fun z => q (hM.nofz z l hl)
    exact hM.pl h7 l hl
set_option maxRecDepth 100000 in
set_option maxHeartbeats 4000000 in
theorem c_M_go {L : Nat} {xs : Nat → Int32} (M : Nat → Nat → Int) (nc nw nb : Nat) (hM : MR M nc nw nb) (M2 : Nat → Nat → Int) (M2s : sf M M2) (M2R : IR M2) (l : Nat) (hl : l < nw) (S D : Nat → Int) (hV : VS M l S D) (hS : SLt M l S D M2) (ag : Int) (hag : ag = 0 ∨ ag = 1) (hag7 : ag ≠ 0 → M 1 7 ≠ 0) (b : sB) (hb : eb2 M ag nw M2 b) (k : Nat) (hk : k < trs M l) : sx_R y_M_goesOn (3, 0, 0) L xs [sx_p 51, .inl (l : Int), .inl (k : Int), .inl ag] (gm M2) (fun v h2 => ∃ z, v = some (.inl z) ∧ (z = 0 ∨ z = 1) ∧ (z = 1 ↔ GG M ag nw nb l (va_up S l (cnd M l k).1) (va_up D l (cnd M l k).2) b = true) ∧ ∃ M3, h2 = gm M3 ∧ lyf l M2 M3 ∧ sf M M3 ∧ IR M3 ∧ (z = 1 → laid M l l (cnd M l k).1 (cnd M l k).2 M3 ∧ dr M (cnd M l k).1.toNat = false)) := by
  have w6 := hM.w6
  have fz := (hM.mfz l hl).2
  have nf := hM.nofz
  have h01 := hM.h01
  have bo := (hM.ws l hl).2.2.2.2
  have k200 : k < 200 := by unfold trs at hk; (repeat' split at hk) <;> omega
  have nf2 : M 1 7 = 0 → M (14 + l) 10 = 0 := fun z => nf z l hl
  refine sx_enter rfl (Nat.le_of_ble_eq_true rfl) rfl ?_
  show sx_V y_M_goesOn (3, 0, 0) L xs (0, 0) 0 [some (sx_p 51), some (.inl (l : Int)), some (.inl (k : Int)), some (.inl ag), none, none] [] (gm M2) _
  refine sx_aload_n d_M_goesOn_0 rfl ?_
  refine sx_getR (r := some (69)) d_M_goesOn_1 fl_M_62 (go rfl rfl rfl) (by decide) (by decide) (by decide) rfl ?_
  refine sx_iload_n d_M_goesOn_4 rfl ?_
  refine sx_zald (z := (M (14 + l) 10)) d_M_goesOn_5 (go rfl rfl rfl) (by omega) (by omega) (by decide) ((M2s 69 l (by decide) (by decide) (by omega)).trans (hM.mfz l (by omega)).1) ?_
  refine sx_if_eq (tgt := 18) d_M_goesOn_6 (by decide) (by omega) (fun c6_16 => ?_) (fun c6_16 => ?_)
  · refine sx_aload_n d_M_goesOn_18 rfl ?_
    refine sx_getR (r := some (57)) d_M_goesOn_19 fl_M_25 (go rfl rfl rfl) (by decide) (by decide) (by decide) rfl ?_
    refine sx_iload_n d_M_goesOn_22 rfl ?_
    refine sx_zald (z := (M (14 + l) 6)) d_M_goesOn_23 (go rfl rfl rfl) (by omega) (by omega) (by decide) ((M2s 57 l (by decide) (by decide) (by omega)).trans (hM.mbo l (by omega))) ?_
    refine sx_if_eq (tgt := 33) d_M_goesOn_24 (by decide) (by omega) (fun c24_21 => ?_) (fun c24_21 => ?_)
    · refine sx_iload_n d_M_goesOn_33 rfl ?_
      refine sx_istore (l' := [some (sx_p 51), some (.inl (l : Int)), some (.inl (k : Int)), some (.inl ag), some (.inl (k : Int)), none]) d_M_goesOn_34 (by decide) rfl rfl ?_
      refine sx_aload_n d_M_goesOn_36 rfl ?_
      refine sx_getR (r := some (69)) d_M_goesOn_37 fl_M_62 (go rfl rfl rfl) (by decide) (by decide) (by decide) rfl ?_
      refine sx_iload_n d_M_goesOn_40 rfl ?_
      refine sx_zald (z := (M (14 + l) 10)) d_M_goesOn_41 (go rfl rfl rfl) (by omega) (by omega) (by decide) ((M2s 69 l (by decide) (by decide) (by omega)).trans (hM.mfz l (by omega)).1) ?_
      refine sx_if_eq (tgt := 54) d_M_goesOn_42 (by decide) (by omega) (fun c42_28 => ?_) (fun c42_28 => ?_)
      · refine sx_aload_n d_M_goesOn_54 rfl ?_
        refine sx_getR (r := some (57)) d_M_goesOn_55 fl_M_25 (go rfl rfl rfl) (by decide) (by decide) (by decide) rfl ?_
        refine sx_iload_n d_M_goesOn_58 rfl ?_
        refine sx_zald (z := (M (14 + l) 6)) d_M_goesOn_59 (go rfl rfl rfl) (by omega) (by omega) (by decide) ((M2s 57 l (by decide) (by decide) (by omega)).trans (hM.mbo l (by omega))) ?_
        refine sx_if_eq (tgt := 69) d_M_goesOn_60 (by decide) (by omega) (fun c60_33 => ?_) (fun c60_33 => ?_)
        · refine sx_iconst d_M_goesOn_69 ?_
          refine sx_istore (l' := [some (sx_p 51), some (.inl (l : Int)), some (.inl (k : Int)), some (.inl ag), some (.inl (k : Int)), some (.inl 0)]) d_M_goesOn_70 (by decide) rfl rfl ?_
          first
          | (exfalso; omega)
          | (have hc := cnd_r hM hl hk; have ec : cnd M l k = ((k : Int), 0) := (by unfold cnd; (repeat first | rw [if_pos (by omega)] | rw [if_neg (by omega)]); first | done | rfl | (refine Prod.ext ?_ ?_ <;> simp only [] <;> first | (rw [Int.tdiv_eq_ediv_of_nonneg (by omega)]; omega) | (rw [Int.tmod_eq_emod_of_nonneg (by omega)]; omega) | omega)); rw [ec] at hc ⊢; exact l_M_go M nc nw nb hM M2 M2s M2R l hl S D hV hS ag hag hag7 b hb (k : Int) 0 hc.1 hc.2 _)
        · refine sx_iload_n d_M_goesOn_63 rfl ?_
          refine sx_iconst d_M_goesOn_64 ?_
          refine sx_irem d_M_goesOn_65 (by omega) ⟨by decide, by decide⟩ (by omega) ?_
          refine sx_goto (tgt := 70) d_M_goesOn_66 (by decide) ?_
          refine sx_istore (l' := [some (sx_p 51), some (.inl (l : Int)), some (.inl (k : Int)), some (.inl ag), some (.inl (k : Int)), some (.inl (Int.tmod (k : Int) 2))]) d_M_goesOn_70 (by decide) rfl rfl ?_
          first
          | (exfalso; omega)
          | (have hc := cnd_r hM hl hk; have ec : cnd M l k = ((k : Int), (Int.tmod (k : Int) 2)) := (by unfold cnd; (repeat first | rw [if_pos (by omega)] | rw [if_neg (by omega)]); first | done | rfl | (refine Prod.ext ?_ ?_ <;> simp only [] <;> first | (rw [Int.tdiv_eq_ediv_of_nonneg (by omega)]; omega) | (rw [Int.tmod_eq_emod_of_nonneg (by omega)]; omega) | omega)); rw [ec] at hc ⊢; exact l_M_go M nc nw nb hM M2 M2s M2R l hl S D hV hS ag hag hag7 b hb (k : Int) (Int.tmod (k : Int) 2) hc.1 hc.2 _)
      · refine sx_aload_n d_M_goesOn_45 rfl ?_
        refine sx_getR (r := some (68)) d_M_goesOn_46 fl_M_59 (go rfl rfl rfl) (by decide) (by decide) (by decide) rfl ?_
        refine sx_iload_n d_M_goesOn_49 rfl ?_
        refine sx_iald (z := (M 24 l)) d_M_goesOn_50 (go rfl rfl rfl) (by omega) (by omega) (by decide) ((M2s 68 l (by decide) (by decide) (by omega)).trans (hM.mst (by omega) l (by omega)).2) ?_
        refine sx_goto (tgt := 70) d_M_goesOn_51 (by decide) ?_
        refine sx_istore (l' := [some (sx_p 51), some (.inl (l : Int)), some (.inl (k : Int)), some (.inl ag), some (.inl (k : Int)), some (.inl (M 24 l))]) d_M_goesOn_70 (by decide) rfl rfl ?_
        first
        | (exfalso; omega)
        | (have hc := cnd_r hM hl hk; have ec : cnd M l k = ((k : Int), (M 24 l)) := (by unfold cnd; (repeat first | rw [if_pos (by omega)] | rw [if_neg (by omega)]); first | done | rfl | (refine Prod.ext ?_ ?_ <;> simp only [] <;> first | (rw [Int.tdiv_eq_ediv_of_nonneg (by omega)]; omega) | (rw [Int.tmod_eq_emod_of_nonneg (by omega)]; omega) | omega)); rw [ec] at hc ⊢; exact l_M_go M nc nw nb hM M2 M2s M2R l hl S D hV hS ag hag hag7 b hb (k : Int) (M 24 l) hc.1 hc.2 _)
    · refine sx_iload_n d_M_goesOn_27 rfl ?_
      refine sx_iconst d_M_goesOn_28 ?_
      refine sx_idiv d_M_goesOn_29 (by omega) ⟨by decide, by decide⟩ (by omega) ?_
      refine sx_goto (tgt := 34) d_M_goesOn_30 (by decide) ?_
      refine sx_istore (l' := [some (sx_p 51), some (.inl (l : Int)), some (.inl (k : Int)), some (.inl ag), some (.inl (Int.tdiv (k : Int) 2)), none]) d_M_goesOn_34 (by decide) rfl rfl ?_
      refine sx_aload_n d_M_goesOn_36 rfl ?_
      refine sx_getR (r := some (69)) d_M_goesOn_37 fl_M_62 (go rfl rfl rfl) (by decide) (by decide) (by decide) rfl ?_
      refine sx_iload_n d_M_goesOn_40 rfl ?_
      refine sx_zald (z := (M (14 + l) 10)) d_M_goesOn_41 (go rfl rfl rfl) (by omega) (by omega) (by decide) ((M2s 69 l (by decide) (by decide) (by omega)).trans (hM.mfz l (by omega)).1) ?_
      refine sx_if_eq (tgt := 54) d_M_goesOn_42 (by decide) (by omega) (fun c42_65 => ?_) (fun c42_65 => ?_)
      · refine sx_aload_n d_M_goesOn_54 rfl ?_
        refine sx_getR (r := some (57)) d_M_goesOn_55 fl_M_25 (go rfl rfl rfl) (by decide) (by decide) (by decide) rfl ?_
        refine sx_iload_n d_M_goesOn_58 rfl ?_
        refine sx_zald (z := (M (14 + l) 6)) d_M_goesOn_59 (go rfl rfl rfl) (by omega) (by omega) (by decide) ((M2s 57 l (by decide) (by decide) (by omega)).trans (hM.mbo l (by omega))) ?_
        refine sx_if_eq (tgt := 69) d_M_goesOn_60 (by decide) (by omega) (fun c60_70 => ?_) (fun c60_70 => ?_)
        · refine sx_iconst d_M_goesOn_69 ?_
          refine sx_istore (l' := [some (sx_p 51), some (.inl (l : Int)), some (.inl (k : Int)), some (.inl ag), some (.inl (Int.tdiv (k : Int) 2)), some (.inl 0)]) d_M_goesOn_70 (by decide) rfl rfl ?_
          first
          | (exfalso; omega)
          | (have hc := cnd_r hM hl hk; have ec : cnd M l k = ((Int.tdiv (k : Int) 2), 0) := (by unfold cnd; (repeat first | rw [if_pos (by omega)] | rw [if_neg (by omega)]); first | done | rfl | (refine Prod.ext ?_ ?_ <;> simp only [] <;> first | (rw [Int.tdiv_eq_ediv_of_nonneg (by omega)]; omega) | (rw [Int.tmod_eq_emod_of_nonneg (by omega)]; omega) | omega)); rw [ec] at hc ⊢; exact l_M_go M nc nw nb hM M2 M2s M2R l hl S D hV hS ag hag hag7 b hb (Int.tdiv (k : Int) 2) 0 hc.1 hc.2 _)
        · refine sx_iload_n d_M_goesOn_63 rfl ?_
          refine sx_iconst d_M_goesOn_64 ?_
          refine sx_irem d_M_goesOn_65 (by omega) ⟨by decide, by decide⟩ (by omega) ?_
          refine sx_goto (tgt := 70) d_M_goesOn_66 (by decide) ?_
          refine sx_istore (l' := [some (sx_p 51), some (.inl (l : Int)), some (.inl (k : Int)), some (.inl ag), some (.inl (Int.tdiv (k : Int) 2)), some (.inl (Int.tmod (k : Int) 2))]) d_M_goesOn_70 (by decide) rfl rfl ?_
          first
          | (exfalso; omega)
          | (have hc := cnd_r hM hl hk; have ec : cnd M l k = ((Int.tdiv (k : Int) 2), (Int.tmod (k : Int) 2)) := (by unfold cnd; (repeat first | rw [if_pos (by omega)] | rw [if_neg (by omega)]); first | done | rfl | (refine Prod.ext ?_ ?_ <;> simp only [] <;> first | (rw [Int.tdiv_eq_ediv_of_nonneg (by omega)]; omega) | (rw [Int.tmod_eq_emod_of_nonneg (by omega)]; omega) | omega)); rw [ec] at hc ⊢; exact l_M_go M nc nw nb hM M2 M2s M2R l hl S D hV hS ag hag hag7 b hb (Int.tdiv (k : Int) 2) (Int.tmod (k : Int) 2) hc.1 hc.2 _)
      · refine sx_aload_n d_M_goesOn_45 rfl ?_
        refine sx_getR (r := some (68)) d_M_goesOn_46 fl_M_59 (go rfl rfl rfl) (by decide) (by decide) (by decide) rfl ?_
        refine sx_iload_n d_M_goesOn_49 rfl ?_
        refine sx_iald (z := (M 24 l)) d_M_goesOn_50 (go rfl rfl rfl) (by omega) (by omega) (by decide) ((M2s 68 l (by decide) (by decide) (by omega)).trans (hM.mst (by omega) l (by omega)).2) ?_
        refine sx_goto (tgt := 70) d_M_goesOn_51 (by decide) ?_
        refine sx_istore (l' := [some (sx_p 51), some (.inl (l : Int)), some (.inl (k : Int)), some (.inl ag), some (.inl (Int.tdiv (k : Int) 2)), some (.inl (M 24 l))]) d_M_goesOn_70 (by decide) rfl rfl ?_
        first
        | (exfalso; omega)
        | (have hc := cnd_r hM hl hk; have ec : cnd M l k = ((Int.tdiv (k : Int) 2), (M 24 l)) := (by unfold cnd; (repeat first | rw [if_pos (by omega)] | rw [if_neg (by omega)]); first | done | rfl | (refine Prod.ext ?_ ?_ <;> simp only [] <;> first | (rw [Int.tdiv_eq_ediv_of_nonneg (by omega)]; omega) | (rw [Int.tmod_eq_emod_of_nonneg (by omega)]; omega) | omega)); rw [ec] at hc ⊢; exact l_M_go M nc nw nb hM M2 M2s M2R l hl S D hV hS ag hag hag7 b hb (Int.tdiv (k : Int) 2) (M 24 l) hc.1 hc.2 _)
  · refine sx_aload_n d_M_goesOn_9 rfl ?_
    refine sx_getR (r := some (67)) d_M_goesOn_10 fl_M_56 (go rfl rfl rfl) (by decide) (by decide) (by decide) rfl ?_
    refine sx_iload_n d_M_goesOn_13 rfl ?_
    refine sx_iald (z := (M 23 l)) d_M_goesOn_14 (go rfl rfl rfl) (by omega) (by omega) (by decide) ((M2s 67 l (by decide) (by decide) (by omega)).trans (hM.mst (by omega) l (by omega)).1) ?_
    refine sx_goto (tgt := 34) d_M_goesOn_15 (by decide) ?_
    refine sx_istore (l' := [some (sx_p 51), some (.inl (l : Int)), some (.inl (k : Int)), some (.inl ag), some (.inl (M 23 l)), none]) d_M_goesOn_34 (by decide) rfl rfl ?_
    refine sx_aload_n d_M_goesOn_36 rfl ?_
    refine sx_getR (r := some (69)) d_M_goesOn_37 fl_M_62 (go rfl rfl rfl) (by decide) (by decide) (by decide) rfl ?_
    refine sx_iload_n d_M_goesOn_40 rfl ?_
    refine sx_zald (z := (M (14 + l) 10)) d_M_goesOn_41 (go rfl rfl rfl) (by omega) (by omega) (by decide) ((M2s 69 l (by decide) (by decide) (by omega)).trans (hM.mfz l (by omega)).1) ?_
    refine sx_if_eq (tgt := 54) d_M_goesOn_42 (by decide) (by omega) (fun c42_103 => ?_) (fun c42_103 => ?_)
    · refine sx_aload_n d_M_goesOn_54 rfl ?_
      refine sx_getR (r := some (57)) d_M_goesOn_55 fl_M_25 (go rfl rfl rfl) (by decide) (by decide) (by decide) rfl ?_
      refine sx_iload_n d_M_goesOn_58 rfl ?_
      refine sx_zald (z := (M (14 + l) 6)) d_M_goesOn_59 (go rfl rfl rfl) (by omega) (by omega) (by decide) ((M2s 57 l (by decide) (by decide) (by omega)).trans (hM.mbo l (by omega))) ?_
      refine sx_if_eq (tgt := 69) d_M_goesOn_60 (by decide) (by omega) (fun c60_108 => ?_) (fun c60_108 => ?_)
      · refine sx_iconst d_M_goesOn_69 ?_
        refine sx_istore (l' := [some (sx_p 51), some (.inl (l : Int)), some (.inl (k : Int)), some (.inl ag), some (.inl (M 23 l)), some (.inl 0)]) d_M_goesOn_70 (by decide) rfl rfl ?_
        first
        | (exfalso; omega)
        | (have hc := cnd_r hM hl hk; have ec : cnd M l k = ((M 23 l), 0) := (by unfold cnd; (repeat first | rw [if_pos (by omega)] | rw [if_neg (by omega)]); first | done | rfl | (refine Prod.ext ?_ ?_ <;> simp only [] <;> first | (rw [Int.tdiv_eq_ediv_of_nonneg (by omega)]; omega) | (rw [Int.tmod_eq_emod_of_nonneg (by omega)]; omega) | omega)); rw [ec] at hc ⊢; exact l_M_go M nc nw nb hM M2 M2s M2R l hl S D hV hS ag hag hag7 b hb (M 23 l) 0 hc.1 hc.2 _)
      · refine sx_iload_n d_M_goesOn_63 rfl ?_
        refine sx_iconst d_M_goesOn_64 ?_
        refine sx_irem d_M_goesOn_65 (by omega) ⟨by decide, by decide⟩ (by omega) ?_
        refine sx_goto (tgt := 70) d_M_goesOn_66 (by decide) ?_
        refine sx_istore (l' := [some (sx_p 51), some (.inl (l : Int)), some (.inl (k : Int)), some (.inl ag), some (.inl (M 23 l)), some (.inl (Int.tmod (k : Int) 2))]) d_M_goesOn_70 (by decide) rfl rfl ?_
        first
        | (exfalso; omega)
        | (have hc := cnd_r hM hl hk; have ec : cnd M l k = ((M 23 l), (Int.tmod (k : Int) 2)) := (by unfold cnd; (repeat first | rw [if_pos (by omega)] | rw [if_neg (by omega)]); first | done | rfl | (refine Prod.ext ?_ ?_ <;> simp only [] <;> first | (rw [Int.tdiv_eq_ediv_of_nonneg (by omega)]; omega) | (rw [Int.tmod_eq_emod_of_nonneg (by omega)]; omega) | omega)); rw [ec] at hc ⊢; exact l_M_go M nc nw nb hM M2 M2s M2R l hl S D hV hS ag hag hag7 b hb (M 23 l) (Int.tmod (k : Int) 2) hc.1 hc.2 _)
    · refine sx_aload_n d_M_goesOn_45 rfl ?_
      refine sx_getR (r := some (68)) d_M_goesOn_46 fl_M_59 (go rfl rfl rfl) (by decide) (by decide) (by decide) rfl ?_
      refine sx_iload_n d_M_goesOn_49 rfl ?_
      refine sx_iald (z := (M 24 l)) d_M_goesOn_50 (go rfl rfl rfl) (by omega) (by omega) (by decide) ((M2s 68 l (by decide) (by decide) (by omega)).trans (hM.mst (by omega) l (by omega)).2) ?_
      refine sx_goto (tgt := 70) d_M_goesOn_51 (by decide) ?_
      refine sx_istore (l' := [some (sx_p 51), some (.inl (l : Int)), some (.inl (k : Int)), some (.inl ag), some (.inl (M 23 l)), some (.inl (M 24 l))]) d_M_goesOn_70 (by decide) rfl rfl ?_
      first
      | (exfalso; omega)
      | (have hc := cnd_r hM hl hk; have ec : cnd M l k = ((M 23 l), (M 24 l)) := (by unfold cnd; (repeat first | rw [if_pos (by omega)] | rw [if_neg (by omega)]); first | done | rfl | (refine Prod.ext ?_ ?_ <;> simp only [] <;> first | (rw [Int.tdiv_eq_ediv_of_nonneg (by omega)]; omega) | (rw [Int.tmod_eq_emod_of_nonneg (by omega)]; omega) | omega)); rw [ec] at hc ⊢; exact l_M_go M nc nw nb hM M2 M2s M2R l hl S D hV hS ag hag hag7 b hb (M 23 l) (M 24 l) hc.1 hc.2 _)
