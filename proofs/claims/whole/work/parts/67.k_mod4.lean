set_option maxRecDepth 100000 in
set_option maxHeartbeats 4000000 in
theorem l_M_ka3 {L : Nat} {xs : Nat → Int32} (M : Nat → Nat → Int) (nc nw nb : Nat) (hM : MR M nc nw nb) (M2 : Nat → Nat → Int) (M2s : sf M M2) (M2R : IR M2) (sl : Nat) (hsl : sl < 7) (w : Nat) (hw : w < nw) (s d : Int) (hs : 0 ≤ s ∧ s ≤ 1000) (hL : laid M w sl s d M2) (cnt : Nat) (hcn : cnt ≤ nw) (S D : Nat → Int) (hLB : LB M w cnt S D M2) (day : Int) (hd1 : s ≤ day) (hd2 : day < eT M w s) (hdr : dr M day.toNat = false) (post : Option sx_v → sx_h → Prop) (hnext : ∀ x6 x7, 1 + sm (uf M S w day) cnt ≤ (M 10 (Int.toNat (M (14 + w) 1))) → sx_V y_M_keepsAll (2, 0, 0) L xs (0, 0) 68 [some (sx_p 51), some (.inl (sl : Int)), some (.inl (w : Int)), some (.inl (cnt : Int)), some (.inl (M (14 + w) 1)), some (.inl (day + 1)), x6, x7] [] (gm M2) post) (hfail : ¬ (1 + sm (uf M S w day) cnt ≤ (M 10 (Int.toNat (M (14 + w) 1)))) → post (some (.inl 0)) (gm M2)) : ∀ (n i : Nat), cnt - i < n → i ≤ cnt → sx_V y_M_keepsAll (2, 0, 0) L xs (0, 0) 99 [some (sx_p 51), some (.inl (sl : Int)), some (.inl (w : Int)), some (.inl (cnt : Int)), some (.inl (M (14 + w) 1)), some (.inl day), some (.inl (1 + sm (uf M S w day) i)), some (.inl (i : Int))] [] (gm M2) (post) := by
  have hW := (hM.ws w hw).1
  obtain ⟨a1, a2, a3, a4, a5, a6⟩ := id hW
  obtain ⟨s1, s2, s3, s4, s5, s6⟩ := (hM.ws w hw).2.1
  have w6 := hM.w6
  have b8 := hM.b8
  have er := eT_r hW (s := s) hs
  have kq := (hM.ws w hw).2.2.2.1
  have cq := hM.mcr w hw
  have c4 := hM.c4
  have moq := hM.mo (Int.toNat (M (14 + w) 1)) (by omega)
  have smq : ∀ j, j ≤ cnt → 0 ≤ sm (uf M S w day) j ∧ sm (uf M S w day) j ≤ 6 := fun j hj => by have := sm_r2 (f := (uf M S w day)) (c := 1) j (fun b _ => uf_r _ _ _ _ _); omega
  intro n
  induction n with
  | zero => intro i h1 h2; omega
  | succ n ih =>
    intro i hn hi
    have smi := smq i hi
    refine sx_iload d_M_keepsAll_99 rfl ?_
    refine sx_iload_n d_M_keepsAll_101 rfl ?_
    refine sx_icmp_ge (tgt := 160) d_M_keepsAll_102 (by decide) (by omega) (by omega) (fun c102_22 => ?_) (fun c102_22 => ?_)
    · refine sx_iload d_M_keepsAll_160 rfl ?_
      refine sx_aload_n d_M_keepsAll_162 rfl ?_
      refine sx_getR (r := some (66)) d_M_keepsAll_163 fl_M_53 (go rfl rfl rfl) (by decide) (by decide) (by decide) rfl ?_
      refine sx_iload d_M_keepsAll_166 rfl ?_
      refine sx_iald (z := (M 10 (Int.toNat (M (14 + w) 1)))) d_M_keepsAll_168 (go rfl rfl rfl) (by omega) (by omega) (by decide) ((M2s 66 (Int.toNat (M (14 + w) 1)) (by decide) (by decide) (by omega)).trans (hM.mmo (Int.toNat (M (14 + w) 1)) (by omega))) ?_
      refine sx_icmp_le (tgt := 174) d_M_keepsAll_169 (by decide) (by omega) (by omega) (fun c169_28 => ?_) (fun c169_28 => ?_)
      · refine sx_iinc (l' := [some (sx_p 51), some (.inl (sl : Int)), some (.inl (w : Int)), some (.inl (cnt : Int)), some (.inl (M (14 + w) 1)), some (.inl (day + 1)), some (.inl (1 + sm (uf M S w day) i)), some (.inl (i : Int))]) d_M_keepsAll_174 rfl (by decide) rfl rfl ?_
        refine sx_goto (tgt := 68) d_M_keepsAll_177 (by decide) ?_
        have e0 : i = cnt := by omega
        subst e0
        exact hnext _ _ (by omega)
      · refine sx_iconst d_M_keepsAll_172 ?_
        refine sx_retI d_M_keepsAll_173 (Or.inr ⟨rfl, by first | exact Or.inl rfl | exact Or.inr rfl | omega⟩) ⟨Nat.zero_le _, Nat.zero_le _⟩ ?_
        have e0 : i = cnt := by omega
        subst e0
        exact hfail (by omega)
    · have cqb := hM.mcr i (by omega)
      have kqb := (hM.ws i (by omega)).2.2.2.1
      refine sx_iload d_M_keepsAll_105 rfl ?_
      refine sx_if_le (tgt := 160) d_M_keepsAll_107 (by decide) (by omega) (fun c107_42 => ?_) (fun c107_42 => ?_)
      · refine sx_iload d_M_keepsAll_160 rfl ?_
        refine sx_aload_n d_M_keepsAll_162 rfl ?_
        refine sx_getR (r := some (66)) d_M_keepsAll_163 fl_M_53 (go rfl rfl rfl) (by decide) (by decide) (by decide) rfl ?_
        refine sx_iload d_M_keepsAll_166 rfl ?_
        refine sx_iald (z := (M 10 (Int.toNat (M (14 + w) 1)))) d_M_keepsAll_168 (go rfl rfl rfl) (by omega) (by omega) (by decide) ((M2s 66 (Int.toNat (M (14 + w) 1)) (by decide) (by decide) (by omega)).trans (hM.mmo (Int.toNat (M (14 + w) 1)) (by omega))) ?_
        refine sx_icmp_le (tgt := 174) d_M_keepsAll_169 (by decide) (by omega) (by omega) (fun c169_48 => ?_) (fun c169_48 => ?_)
        · refine sx_iinc (l' := [some (sx_p 51), some (.inl (sl : Int)), some (.inl (w : Int)), some (.inl (cnt : Int)), some (.inl (M (14 + w) 1)), some (.inl (day + 1)), some (.inl (1 + sm (uf M S w day) i)), some (.inl (i : Int))]) d_M_keepsAll_174 rfl (by decide) rfl rfl ?_
          refine sx_goto (tgt := 68) d_M_keepsAll_177 (by decide) ?_
          have e0 : i = cnt := by omega
          subst e0
          exact hnext _ _ (by omega)
        · refine sx_iconst d_M_keepsAll_172 ?_
          refine sx_retI d_M_keepsAll_173 (Or.inr ⟨rfl, by first | exact Or.inl rfl | exact Or.inr rfl | omega⟩) ⟨Nat.zero_le _, Nat.zero_le _⟩ ?_
          have e0 : i = cnt := by omega
          subst e0
          exact hfail (by omega)
      · refine sx_iload d_M_keepsAll_110 rfl ?_
        refine sx_iload d_M_keepsAll_112 rfl ?_
        refine sx_iload_n d_M_keepsAll_114 rfl ?_
        refine sx_icmp_eq (tgt := 150) d_M_keepsAll_115 (by decide) (by omega) (by omega) (fun c115_62 => ?_) (fun c115_62 => ?_)
        · refine sx_iconst d_M_keepsAll_150 ?_
          refine sx_iadd d_M_keepsAll_151 ?_
          refine sx_istore (l' := [some (sx_p 51), some (.inl (sl : Int)), some (.inl (w : Int)), some (.inl (cnt : Int)), some (.inl (M (14 + w) 1)), some (.inl day), some (.inl ((1 + sm (uf M S w day) i) + 0)), some (.inl (i : Int))]) d_M_keepsAll_152 (by decide) rfl rfl ?_
          refine sx_iinc (l' := [some (sx_p 51), some (.inl (sl : Int)), some (.inl (w : Int)), some (.inl (cnt : Int)), some (.inl (M (14 + w) 1)), some (.inl day), some (.inl ((1 + sm (uf M S w day) i) + 0)), some (.inl ((i : Int) + 1))]) d_M_keepsAll_154 rfl (by decide) rfl rfl ?_
          refine sx_goto (tgt := 99) d_M_keepsAll_157 (by decide) ?_
          have e1 : ((i : Int) + 1) = ((i + 1 : Nat) : Int) := by omega
          rw [e1]
          have e2 : ((1 + sm (uf M S w day) i) + 0) = 1 + sm (uf M S w day) (i + 1) := by (show _ = 1 + (sm (uf M S w day) i + uf M S w day i); unfold uf; (rw [if_neg (fun k => by omega)]; omega))
          rw [e2]
          exact ih (i + 1) (by omega) (by omega)
        · refine sx_aload_n d_M_keepsAll_118 rfl ?_
          refine sx_getR (r := some (52)) d_M_keepsAll_119 fl_M_7 (go rfl rfl rfl) (by decide) (by decide) (by decide) rfl ?_
          refine sx_aload_n d_M_keepsAll_122 rfl ?_
          refine sx_getR (r := some (53)) d_M_keepsAll_123 fl_M_13 (go rfl rfl rfl) (by decide) (by decide) (by decide) rfl ?_
          refine sx_iload d_M_keepsAll_126 rfl ?_
          refine sx_iald (z := (M (14 + i) 0)) d_M_keepsAll_128 (go rfl rfl rfl) (by omega) (by omega) (by decide) ((M2s 53 i (by decide) (by decide) (by omega)).trans (hM.mcr i (by omega)).1) ?_
          refine sx_iald (z := (M (14 + i) 1)) d_M_keepsAll_129 (go rfl rfl rfl) (by omega) (by omega) (by decide) ((M2s 52 _ (by decide) (by decide) (by omega)).trans ((hM.mkd _ (by have := hM.mcr i (by omega); omega)).1.trans (hM.mcr i (by omega)).2.2.2.symm)) ?_
          refine sx_iload d_M_keepsAll_130 rfl ?_
          refine sx_icmp_ne (tgt := 150) d_M_keepsAll_132 (by decide) (by omega) (by omega) (fun c132_81 => ?_) (fun c132_81 => ?_)
          · refine sx_iconst d_M_keepsAll_150 ?_
            refine sx_iadd d_M_keepsAll_151 ?_
            refine sx_istore (l' := [some (sx_p 51), some (.inl (sl : Int)), some (.inl (w : Int)), some (.inl (cnt : Int)), some (.inl (M (14 + w) 1)), some (.inl day), some (.inl ((1 + sm (uf M S w day) i) + 0)), some (.inl (i : Int))]) d_M_keepsAll_152 (by decide) rfl rfl ?_
            refine sx_iinc (l' := [some (sx_p 51), some (.inl (sl : Int)), some (.inl (w : Int)), some (.inl (cnt : Int)), some (.inl (M (14 + w) 1)), some (.inl day), some (.inl ((1 + sm (uf M S w day) i) + 0)), some (.inl ((i : Int) + 1))]) d_M_keepsAll_154 rfl (by decide) rfl rfl ?_
            refine sx_goto (tgt := 99) d_M_keepsAll_157 (by decide) ?_
            have e1 : ((i : Int) + 1) = ((i + 1 : Nat) : Int) := by omega
            rw [e1]
            have e2 : ((1 + sm (uf M S w day) i) + 0) = 1 + sm (uf M S w day) (i + 1) := by (show _ = 1 + (sm (uf M S w day) i + uf M S w day i); unfold uf; (rw [if_neg (fun k => by omega)]; omega))
            rw [e2]
            exact ih (i + 1) (by omega) (by omega)
          · refine sx_aload_n d_M_keepsAll_135 rfl ?_
            refine sx_iload d_M_keepsAll_136 rfl ?_
            refine sx_iload d_M_keepsAll_138 rfl ?_
            refine sx_callV (c_M_un M nc nw nb hM M2 M2s M2R i (by omega) i (by omega) (S i) (D i) (hLB i (by omega) (by omega)).2.1 (hLB i (by omega) (by omega)).1 day (by omega)) d_M_keepsAll_140 cd_M_isUnder lk_M_141 im_M_isUnder se_M_isUnder (go rfl rfl rfl) rfl rfl (by decide) (st := [.inl (1 + sm (uf M S w day) i)]) rfl rfl (Nat.le_of_ble_eq_true rfl) ⟨by decide, Nat.le_refl _, Nat.le_refl _⟩ (fun _ _ hq => ?_)
            obtain ⟨z86, rfl, z86b, z86i, rfl⟩ := hq
            show sx_V _ _ _ _ (0, 0) _ _ [.inl z86, .inl (1 + sm (uf M S w day) i)] (gm M2) _
            refine sx_if_eq (tgt := 150) d_M_keepsAll_143 (by decide) (by omega) (fun c143_98 => ?_) (fun c143_98 => ?_)
            · refine sx_iconst d_M_keepsAll_150 ?_
              refine sx_iadd d_M_keepsAll_151 ?_
              refine sx_istore (l' := [some (sx_p 51), some (.inl (sl : Int)), some (.inl (w : Int)), some (.inl (cnt : Int)), some (.inl (M (14 + w) 1)), some (.inl day), some (.inl ((1 + sm (uf M S w day) i) + 0)), some (.inl (i : Int))]) d_M_keepsAll_152 (by decide) rfl rfl ?_
              refine sx_iinc (l' := [some (sx_p 51), some (.inl (sl : Int)), some (.inl (w : Int)), some (.inl (cnt : Int)), some (.inl (M (14 + w) 1)), some (.inl day), some (.inl ((1 + sm (uf M S w day) i) + 0)), some (.inl ((i : Int) + 1))]) d_M_keepsAll_154 rfl (by decide) rfl rfl ?_
              refine sx_goto (tgt := 99) d_M_keepsAll_157 (by decide) ?_
              have e1 : ((i : Int) + 1) = ((i + 1 : Nat) : Int) := by omega
              rw [e1]
              have e2 : ((1 + sm (uf M S w day) i) + 0) = 1 + sm (uf M S w day) (i + 1) := by (show _ = 1 + (sm (uf M S w day) i + uf M S w day i); unfold uf; first | (rw [if_pos ⟨by omega, by omega, (z86i.mp (by omega)).1, (z86i.mp (by omega)).2.1⟩]; omega) | (rw [if_neg (fun k => by first | omega | (have := z86i.mpr ⟨k.2.2.1, k.2.2.2, hdr⟩; omega))]; omega))
              rw [e2]
              exact ih (i + 1) (by omega) (by omega)
            · refine sx_iconst d_M_keepsAll_146 ?_
              refine sx_goto (tgt := 151) d_M_keepsAll_147 (by decide) ?_
              refine sx_iadd d_M_keepsAll_151 ?_
              refine sx_istore (l' := [some (sx_p 51), some (.inl (sl : Int)), some (.inl (w : Int)), some (.inl (cnt : Int)), some (.inl (M (14 + w) 1)), some (.inl day), some (.inl ((1 + sm (uf M S w day) i) + 1)), some (.inl (i : Int))]) d_M_keepsAll_152 (by decide) rfl rfl ?_
              refine sx_iinc (l' := [some (sx_p 51), some (.inl (sl : Int)), some (.inl (w : Int)), some (.inl (cnt : Int)), some (.inl (M (14 + w) 1)), some (.inl day), some (.inl ((1 + sm (uf M S w day) i) + 1)), some (.inl ((i : Int) + 1))]) d_M_keepsAll_154 rfl (by decide) rfl rfl ?_
              refine sx_goto (tgt := 99) d_M_keepsAll_157 (by decide) ?_
              have e1 : ((i : Int) + 1) = ((i + 1 : Nat) : Int) := by omega
              rw [e1]
              have e2 : ((1 + sm (uf M S w day) i) + 1) = 1 + sm (uf M S w day) (i + 1) := by (show _ = 1 + (sm (uf M S w day) i + uf M S w day i); unfold uf; first | (rw [if_pos ⟨by omega, by omega, (z86i.mp (by omega)).1, (z86i.mp (by omega)).2.1⟩]; omega) | (rw [if_neg (fun k => by first | omega | (have := z86i.mpr ⟨k.2.2.1, k.2.2.2, hdr⟩; omega))]; omega))
              rw [e2]
              exact ih (i + 1) (by omega) (by omega)
set_option maxRecDepth 100000 in
set_option maxHeartbeats 4000000 in
theorem l_M_ka2 {L : Nat} {xs : Nat → Int32} (M : Nat → Nat → Int) (nc nw nb : Nat) (hM : MR M nc nw nb) (M2 : Nat → Nat → Int) (M2s : sf M M2) (M2R : IR M2) (sl : Nat) (hsl : sl < 7) (w : Nat) (hw : w < nw) (s d : Int) (hs : 0 ≤ s ∧ s ≤ 1000) (hL : laid M w sl s d M2) (cnt : Nat) (hcn : cnt ≤ nw) (S D : Nat → Int) (hLB : LB M w cnt S D M2) (h1 : mO M nb w s d) (h2 : ∀ b, b < cnt → b ≠ w → mW M w b s d (S b) (D b)) : ∀ (n : Nat) (day : Int) (x6 x7 : Option sx_v), (eT M w s - day).toNat < n → s ≤ day → day ≤ eT M w s → (∀ t, s ≤ t → t < day → dr M t.toNat = false → 1 + sm (uf M S w t) cnt ≤ (M 10 (Int.toNat (M (14 + w) 1)))) → sx_V y_M_keepsAll (2, 0, 0) L xs (0, 0) 68 [some (sx_p 51), some (.inl (sl : Int)), some (.inl (w : Int)), some (.inl (cnt : Int)), some (.inl (M (14 + w) 1)), some (.inl day), x6, x7] [] (gm M2) (fun v h2 => ∃ z, v = some (.inl z) ∧ (z = 0 ∨ z = 1) ∧ (z = 1 ↔ mA M nb w cnt S D s d) ∧ h2 = gm M2) := by
  have hW := (hM.ws w hw).1
  obtain ⟨a1, a2, a3, a4, a5, a6⟩ := id hW
  obtain ⟨s1, s2, s3, s4, s5, s6⟩ := (hM.ws w hw).2.1
  have w6 := hM.w6
  have b8 := hM.b8
  have er := eT_r hW (s := s) hs
  have kq := (hM.ws w hw).2.2.2.1
  have cq := hM.mcr w hw
  have c4 := hM.c4
  have moq := hM.mo (Int.toNat (M (14 + w) 1)) (by omega)
  intro n
  induction n with
  | zero => intro day x6 x7 h1 h2; omega
  | succ n ih =>
    intro day x6 x7 hn hd1 hd2 hdays
    refine sx_iload d_M_keepsAll_68 rfl ?_
    refine sx_aload_n d_M_keepsAll_70 rfl ?_
    refine sx_getR (r := some (74)) d_M_keepsAll_71 fl_M_77 (go rfl rfl rfl) (by decide) (by decide) (by decide) rfl ?_
    refine sx_iload_n d_M_keepsAll_74 rfl ?_
    refine sx_iald (z := (eT M w s)) d_M_keepsAll_75 (go rfl rfl rfl) (by omega) (by omega) (by decide) hL.2.2.1 ?_
    refine sx_icmp_ge (tgt := 180) d_M_keepsAll_76 (by decide) (by omega) (by omega) (fun c76_23 => ?_) (fun c76_23 => ?_)
    · refine sx_iconst d_M_keepsAll_180 ?_
      refine sx_retI d_M_keepsAll_181 (Or.inr ⟨rfl, by first | exact Or.inl rfl | exact Or.inr rfl | omega⟩) ⟨Nat.zero_le _, Nat.zero_le _⟩ ?_
      exact ⟨_, rfl, Or.inr rfl, ⟨fun _ => ⟨h1, h2, fun t a b c => hdays t a (by omega) c⟩, fun _ => rfl⟩, rfl⟩
    · refine sx_aload_n d_M_keepsAll_79 rfl ?_
      refine sx_iload_n d_M_keepsAll_80 rfl ?_
      refine sx_iload d_M_keepsAll_81 rfl ?_
      refine sx_callV (c_M_un M nc nw nb hM M2 M2s M2R sl hsl w hw s d hs hL day (by omega)) d_M_keepsAll_83 cd_M_isUnder lk_M_141 im_M_isUnder se_M_isUnder (go rfl rfl rfl) rfl rfl (by decide) (st := []) rfl rfl (Nat.le_of_ble_eq_true rfl) ⟨by decide, Nat.le_refl _, Nat.le_refl _⟩ (fun _ _ hq => ?_)
      obtain ⟨z87, rfl, z87b, z87i, rfl⟩ := hq
      show sx_V _ _ _ _ (0, 0) _ _ [.inl z87] (gm M2) _
      refine sx_if_eq (tgt := 93) d_M_keepsAll_86 (by decide) (by omega) (fun c86_33 => ?_) (fun c86_33 => ?_)
      · refine sx_iconst d_M_keepsAll_93 ?_
        refine sx_istore (l' := [some (sx_p 51), some (.inl (sl : Int)), some (.inl (w : Int)), some (.inl (cnt : Int)), some (.inl (M (14 + w) 1)), some (.inl day), some (.inl 0), x7]) d_M_keepsAll_94 (by decide) rfl rfl ?_
        refine sx_iconst d_M_keepsAll_96 ?_
        refine sx_istore (l' := [some (sx_p 51), some (.inl (sl : Int)), some (.inl (w : Int)), some (.inl (cnt : Int)), some (.inl (M (14 + w) 1)), some (.inl day), some (.inl 0), some (.inl 0)]) d_M_keepsAll_97 (by decide) rfl rfl ?_
        refine sx_iload d_M_keepsAll_99 rfl ?_
        refine sx_iload_n d_M_keepsAll_101 rfl ?_
        refine sx_icmp_ge (tgt := 160) d_M_keepsAll_102 (by decide) ⟨by decide, by decide⟩ (by omega) (fun c102_3 => ?_) (fun c102_3 => ?_)
        · refine sx_iload d_M_keepsAll_160 rfl ?_
          refine sx_aload_n d_M_keepsAll_162 rfl ?_
          refine sx_getR (r := some (66)) d_M_keepsAll_163 fl_M_53 (go rfl rfl rfl) (by decide) (by decide) (by decide) rfl ?_
          refine sx_iload d_M_keepsAll_166 rfl ?_
          refine sx_iald (z := (M 10 (Int.toNat (M (14 + w) 1)))) d_M_keepsAll_168 (go rfl rfl rfl) (by omega) (by omega) (by decide) ((M2s 66 (Int.toNat (M (14 + w) 1)) (by decide) (by decide) (by omega)).trans (hM.mmo (Int.toNat (M (14 + w) 1)) (by omega))) ?_
          refine sx_icmp_le (tgt := 174) d_M_keepsAll_169 (by decide) ⟨by decide, by decide⟩ (by omega) (fun c169_9 => ?_) (fun c169_9 => ?_)
          · refine sx_iinc (l' := [some (sx_p 51), some (.inl (sl : Int)), some (.inl (w : Int)), some (.inl (cnt : Int)), some (.inl (M (14 + w) 1)), some (.inl (day + 1)), some (.inl 0), some (.inl 0)]) d_M_keepsAll_174 rfl (by decide) rfl rfl ?_
            refine sx_goto (tgt := 68) d_M_keepsAll_177 (by decide) ?_
            refine ih (day + 1) _ _ (by omega) (by omega) (by omega) (fun t a b c => ?_)
            by_cases e : t = day
            · subst e; exact absurd (z87i.mpr ⟨by omega, by omega, c⟩) (by omega)
            · exact hdays t a (by omega) c
          · omega
        · refine sx_iload d_M_keepsAll_105 rfl ?_
          refine sx_if_le (tgt := 160) d_M_keepsAll_107 (by decide) ⟨by decide, by decide⟩ (fun c107_18 => ?_) (fun c107_18 => ?_)
          · refine sx_iload d_M_keepsAll_160 rfl ?_
            refine sx_aload_n d_M_keepsAll_162 rfl ?_
            refine sx_getR (r := some (66)) d_M_keepsAll_163 fl_M_53 (go rfl rfl rfl) (by decide) (by decide) (by decide) rfl ?_
            refine sx_iload d_M_keepsAll_166 rfl ?_
            refine sx_iald (z := (M 10 (Int.toNat (M (14 + w) 1)))) d_M_keepsAll_168 (go rfl rfl rfl) (by omega) (by omega) (by decide) ((M2s 66 (Int.toNat (M (14 + w) 1)) (by decide) (by decide) (by omega)).trans (hM.mmo (Int.toNat (M (14 + w) 1)) (by omega))) ?_
            refine sx_icmp_le (tgt := 174) d_M_keepsAll_169 (by decide) ⟨by decide, by decide⟩ (by omega) (fun c169_24 => ?_) (fun c169_24 => ?_)
            · refine sx_iinc (l' := [some (sx_p 51), some (.inl (sl : Int)), some (.inl (w : Int)), some (.inl (cnt : Int)), some (.inl (M (14 + w) 1)), some (.inl (day + 1)), some (.inl 0), some (.inl 0)]) d_M_keepsAll_174 rfl (by decide) rfl rfl ?_
              refine sx_goto (tgt := 68) d_M_keepsAll_177 (by decide) ?_
              refine ih (day + 1) _ _ (by omega) (by omega) (by omega) (fun t a b c => ?_)
              by_cases e : t = day
              · subst e; exact absurd (z87i.mpr ⟨by omega, by omega, c⟩) (by omega)
              · exact hdays t a (by omega) c
            · omega
          · omega
      · refine sx_iconst d_M_keepsAll_89 ?_
        refine sx_goto (tgt := 94) d_M_keepsAll_90 (by decide) ?_
        refine sx_istore (l' := [some (sx_p 51), some (.inl (sl : Int)), some (.inl (w : Int)), some (.inl (cnt : Int)), some (.inl (M (14 + w) 1)), some (.inl day), some (.inl 1), x7]) d_M_keepsAll_94 (by decide) rfl rfl ?_
        refine sx_iconst d_M_keepsAll_96 ?_
        refine sx_istore (l' := [some (sx_p 51), some (.inl (sl : Int)), some (.inl (w : Int)), some (.inl (cnt : Int)), some (.inl (M (14 + w) 1)), some (.inl day), some (.inl 1), some (.inl 0)]) d_M_keepsAll_97 (by decide) rfl rfl ?_
        have q := l_M_ka3 (L := L) (xs := xs) M nc nw nb hM M2 M2s M2R sl hsl w hw s d hs hL cnt hcn S D hLB day hd1 (by omega) (z87i.mp (by omega)).2.2 (fun v h2 => ∃ z, v = some (.inl z) ∧ (z = 0 ∨ z = 1) ∧ (z = 1 ↔ mA M nb w cnt S D s d) ∧ h2 = gm M2) (fun x6 x7 hc => ih (day + 1) x6 x7 (by omega) (by omega) (by omega) (fun t a b c => by by_cases e : t = day; (subst e; exact hc); exact hdays t a (by omega) c)) (fun hc => ⟨_, rfl, Or.inl rfl, ⟨fun k => absurd k (by decide), fun k => absurd (k.2.2 day hd1 (by omega) (z87i.mp (by omega)).2.2) hc⟩, rfl⟩) (cnt + 1) 0 (by omega) (by omega)
        exact q
theorem eT_gt {M : Nat → Nat → Int} {w : Nat} (hW : IW M w) {s : Int} (hs : 0 ≤ s ∧ s ≤ 1000) : s < eT M w s ∧ eT M w s ≤ 1400 := by
  have er := eT_r hW hs
  have nq := hW.need
  have h1 := Bd_Dd M (n := Bd M s + M (14 + w) 5 - 1) (by have := (Bd_r M s).1; omega)
  have h2 := Dd_r M (Bd M s + M (14 + w) 5 - 1)
  refine ⟨?_, er.2⟩
  unfold eT
  have h3 : dy_b (dr M) s.toNat ≤ dy_b (dr M) (Dd M (Bd M s + M (14 + w) 5 - 1)).toNat := by
    have := h1.1
    unfold Bd at *
    omega
  have h4 := (dy_le_iff h1.2).mp h3
  have := h2.1
  omega
set_option maxRecDepth 100000 in
set_option maxHeartbeats 4000000 in
theorem l_M_ka1 {L : Nat} {xs : Nat → Int32} (M : Nat → Nat → Int) (nc nw nb : Nat) (hM : MR M nc nw nb) (M2 : Nat → Nat → Int) (M2s : sf M M2) (M2R : IR M2) (sl : Nat) (hsl : sl < 7) (w : Nat) (hw : w < nw) (s d : Int) (hs : 0 ≤ s ∧ s ≤ 1000) (hL : laid M w sl s d M2) (cnt : Nat) (hcn : cnt ≤ nw) (S D : Nat → Int) (hLB : LB M w cnt S D M2) (h1 : mO M nb w s d) : ∀ (n i : Nat), cnt - i < n → i ≤ cnt → (∀ b, b < i → b ≠ w → mW M w b s d (S b) (D b)) → sx_V y_M_keepsAll (2, 0, 0) L xs (0, 0) 14 [some (sx_p 51), some (.inl (sl : Int)), some (.inl (w : Int)), some (.inl (cnt : Int)), some (.inl (i : Int)), none, none, none] [] (gm M2) (fun v h2 => ∃ z, v = some (.inl z) ∧ (z = 0 ∨ z = 1) ∧ (z = 1 ↔ mA M nb w cnt S D s d) ∧ h2 = gm M2) := by
  have hW := (hM.ws w hw).1
  obtain ⟨a1, a2, a3, a4, a5, a6⟩ := id hW
  obtain ⟨s1, s2, s3, s4, s5, s6⟩ := (hM.ws w hw).2.1
  have w6 := hM.w6
  have b8 := hM.b8
  have er := eT_r hW (s := s) hs
  have kq := (hM.ws w hw).2.2.2.1
  have cq := hM.mcr w hw
  have c4 := hM.c4
  have moq := hM.mo (Int.toNat (M (14 + w) 1)) (by omega)
  have e2r := eT_gt hW hs
  clear er
  intro n
  induction n with
  | zero => intro i h1 h2; omega
  | succ n ih =>
    intro i hn hi h2
    refine sx_iload d_M_keepsAll_14 rfl ?_
    refine sx_iload_n d_M_keepsAll_16 rfl ?_
    refine sx_icmp_ge (tgt := 47) d_M_keepsAll_17 (by decide) (by omega) (by omega) (fun c17_22 => ?_) (fun c17_22 => ?_)
    · refine sx_aload_n d_M_keepsAll_47 rfl ?_
      refine sx_getR (r := some (52)) d_M_keepsAll_48 fl_M_7 (go rfl rfl rfl) (by decide) (by decide) (by decide) rfl ?_
      refine sx_aload_n d_M_keepsAll_51 rfl ?_
      refine sx_getR (r := some (53)) d_M_keepsAll_52 fl_M_13 (go rfl rfl rfl) (by decide) (by decide) (by decide) rfl ?_
      refine sx_iload_n d_M_keepsAll_55 rfl ?_
      refine sx_iald (z := (M (14 + w) 0)) d_M_keepsAll_56 (go rfl rfl rfl) (by omega) (by omega) (by decide) ((M2s 53 w (by decide) (by decide) (by omega)).trans (hM.mcr w (by omega)).1) ?_
      refine sx_iald (z := (M (14 + w) 1)) d_M_keepsAll_57 (go rfl rfl rfl) (by omega) (by omega) (by decide) ((M2s 52 _ (by decide) (by decide) (by omega)).trans ((hM.mkd _ (by have := hM.mcr w (by omega); omega)).1.trans (hM.mcr w (by omega)).2.2.2.symm)) ?_
      refine sx_istore (l' := [some (sx_p 51), some (.inl (sl : Int)), some (.inl (w : Int)), some (.inl (cnt : Int)), some (.inl (M (14 + w) 1)), none, none, none]) d_M_keepsAll_58 (by decide) rfl rfl ?_
      refine sx_aload_n d_M_keepsAll_60 rfl ?_
      refine sx_getR (r := some (72)) d_M_keepsAll_61 fl_M_71 (go rfl rfl rfl) (by decide) (by decide) (by decide) rfl ?_
      refine sx_iload_n d_M_keepsAll_64 rfl ?_
      refine sx_iald (z := s) d_M_keepsAll_65 (go rfl rfl rfl) (by omega) (by omega) (by decide) hL.1 ?_
      refine sx_istore (l' := [some (sx_p 51), some (.inl (sl : Int)), some (.inl (w : Int)), some (.inl (cnt : Int)), some (.inl (M (14 + w) 1)), some (.inl s), none, none]) d_M_keepsAll_66 (by decide) rfl rfl ?_
      have e0 : i = cnt := by omega
      subst e0
      exact l_M_ka2 M nc nw nb hM M2 M2s M2R sl hsl w hw s d hs hL i hcn S D hLB h1 h2 ((eT M w s - s).toNat + 1) s none none (by omega) (Int.le_refl _) (by omega) (fun t a b => absurd a (by omega))
    · refine sx_iload d_M_keepsAll_20 rfl ?_
      refine sx_iload_n d_M_keepsAll_22 rfl ?_
      refine sx_icmp_eq (tgt := 41) d_M_keepsAll_23 (by decide) (by omega) (by omega) (fun c23_41 => ?_) (fun c23_41 => ?_)
      · refine sx_iinc (l' := [some (sx_p 51), some (.inl (sl : Int)), some (.inl (w : Int)), some (.inl (cnt : Int)), some (.inl ((i : Int) + 1)), none, none, none]) d_M_keepsAll_41 rfl (by decide) rfl rfl ?_
        refine sx_goto (tgt := 14) d_M_keepsAll_44 (by decide) ?_
        have e1 : ((i : Int) + 1) = ((i + 1 : Nat) : Int) := by omega
        rw [e1]
        refine ih (i + 1) (by omega) (by omega) (fun b hb hne => ?_)
        by_cases e : b = i
        · subst e; exfalso; omega
        · exact h2 b (by omega) hne
      · refine sx_aload_n d_M_keepsAll_26 rfl ?_
        refine sx_iload_n d_M_keepsAll_27 rfl ?_
        refine sx_iload_n d_M_keepsAll_28 rfl ?_
        refine sx_iload d_M_keepsAll_29 rfl ?_
        refine sx_iload d_M_keepsAll_31 rfl ?_
        refine sx_callV (c_M_gw M nc nw nb hM M2 M2s M2R sl hsl w hw s d hs hL i (by omega) i (by omega) (S i) (D i) (hLB i (by omega) (by omega)).2.1 (hLB i (by omega) (by omega)).1) d_M_keepsAll_33 cd_M_goesWith lk_M_138 im_M_goesWith se_M_goesWith (go rfl rfl rfl) rfl rfl (by decide) (st := []) rfl rfl (Nat.le_of_ble_eq_true rfl) ⟨by decide, Nat.le_refl _, Nat.le_refl _⟩ (fun _ _ hq => ?_)
        obtain ⟨z88, rfl, z88b, z88i, rfl⟩ := hq
        show sx_V _ _ _ _ (0, 0) _ _ [.inl z88] (gm M2) _
        refine sx_if_ne (tgt := 41) d_M_keepsAll_36 (by decide) (by omega) (fun c36_58 => ?_) (fun c36_58 => ?_)
        · refine sx_iinc (l' := [some (sx_p 51), some (.inl (sl : Int)), some (.inl (w : Int)), some (.inl (cnt : Int)), some (.inl ((i : Int) + 1)), none, none, none]) d_M_keepsAll_41 rfl (by decide) rfl rfl ?_
          refine sx_goto (tgt := 14) d_M_keepsAll_44 (by decide) ?_
          have e1 : ((i : Int) + 1) = ((i + 1 : Nat) : Int) := by omega
          rw [e1]
          refine ih (i + 1) (by omega) (by omega) (fun b hb hne => ?_)
          by_cases e : b = i
          · subst e; first | (exfalso; omega) | exact z88i.mp (by omega)
          · exact h2 b (by omega) hne
        · refine sx_iconst d_M_keepsAll_39 ?_
          refine sx_retI d_M_keepsAll_40 (Or.inr ⟨rfl, by first | exact Or.inl rfl | exact Or.inr rfl | omega⟩) ⟨Nat.zero_le _, Nat.zero_le _⟩ ?_
          refine ⟨_, rfl, Or.inl rfl, ⟨fun k => absurd k (by decide), fun k => ?_⟩, rfl⟩
          have := z88i.mpr (k.2.1 i (by omega) (by omega))
          omega
set_option maxRecDepth 100000 in
set_option maxHeartbeats 4000000 in
theorem c_M_ka {L : Nat} {xs : Nat → Int32} (M : Nat → Nat → Int) (nc nw nb : Nat) (hM : MR M nc nw nb) (M2 : Nat → Nat → Int) (M2s : sf M M2) (M2R : IR M2) (sl : Nat) (hsl : sl < 7) (w : Nat) (hw : w < nw) (s d : Int) (hs : 0 ≤ s ∧ s ≤ 1000) (hL : laid M w sl s d M2) (cnt : Nat) (hcn : cnt ≤ nw) (S D : Nat → Int) (hLB : LB M w cnt S D M2) : sx_R y_M_keepsAll (2, 0, 0) L xs [sx_p 51, .inl (sl : Int), .inl (w : Int), .inl (cnt : Int)] (gm M2) (fun v h2 => ∃ z, v = some (.inl z) ∧ (z = 0 ∨ z = 1) ∧ (z = 1 ↔ mA M nb w cnt S D s d) ∧ h2 = gm M2) := by
  have hW := (hM.ws w hw).1
  obtain ⟨a1, a2, a3, a4, a5, a6⟩ := id hW
  obtain ⟨s1, s2, s3, s4, s5, s6⟩ := (hM.ws w hw).2.1
  have w6 := hM.w6
  have b8 := hM.b8
  have er := eT_r hW (s := s) hs
  have kq := (hM.ws w hw).2.2.2.1
  have cq := hM.mcr w hw
  have c4 := hM.c4
  have moq := hM.mo (Int.toNat (M (14 + w) 1)) (by omega)
  refine sx_enter rfl (Nat.le_of_ble_eq_true rfl) rfl ?_
  show sx_V y_M_keepsAll (2, 0, 0) L xs (0, 0) 0 [some (sx_p 51), some (.inl (sl : Int)), some (.inl (w : Int)), some (.inl (cnt : Int)), none, none, none, none] [] (gm M2) _
  refine sx_aload_n d_M_keepsAll_0 rfl ?_
  refine sx_iload_n d_M_keepsAll_1 rfl ?_
  refine sx_iload_n d_M_keepsAll_2 rfl ?_
  refine sx_callV (c_M_own M nc nw nb hM M2 M2s M2R sl hsl w hw s d hs hL) d_M_keepsAll_3 cd_M_keepsOwn lk_M_134 im_M_keepsOwn se_M_keepsOwn (go rfl rfl rfl) rfl rfl (by decide) (st := []) rfl rfl (Nat.le_of_ble_eq_true rfl) ⟨by decide, Nat.le_refl _, Nat.le_refl _⟩ (fun _ _ hq => ?_)
  obtain ⟨z89, rfl, z89b, z89i, rfl⟩ := hq
  show sx_V _ _ _ _ (0, 0) _ _ [.inl z89] (gm M2) _
  refine sx_if_ne (tgt := 11) d_M_keepsAll_6 (by decide) (by omega) (fun c6_21 => ?_) (fun c6_21 => ?_)
  · refine sx_iconst d_M_keepsAll_11 ?_
    refine sx_istore (l' := [some (sx_p 51), some (.inl (sl : Int)), some (.inl (w : Int)), some (.inl (cnt : Int)), some (.inl 0), none, none, none]) d_M_keepsAll_12 (by decide) rfl rfl ?_
    exact l_M_ka1 M nc nw nb hM M2 M2s M2R sl hsl w hw s d hs hL cnt hcn S D hLB (z89i.mp (by omega)) (cnt + 1) 0 (by omega) (by omega) (fun b hb => absurd hb (Nat.not_lt_zero _))
  · refine sx_iconst d_M_keepsAll_9 ?_
    refine sx_retI d_M_keepsAll_10 (Or.inr ⟨rfl, by first | exact Or.inl rfl | exact Or.inr rfl | omega⟩) ⟨Nat.zero_le _, Nat.zero_le _⟩ ?_
    refine ⟨_, rfl, Or.inl rfl, ⟨fun k => absurd k (by decide), fun k => ?_⟩, rfl⟩
    have := z89i.mpr k.1
    omega
