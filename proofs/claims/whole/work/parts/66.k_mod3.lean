theorem muls {x v : Int} (h1 : -100000 ≤ x) (h2 : x ≤ 100000) (h3 : 1 ≤ v) (h4 : v ≤ 50) : -5000000 ≤ x * v ∧ x * v ≤ 5000000 := by
  have a := Int.mul_le_mul_of_nonneg_right h1 (show 0 ≤ v by omega)
  have b := Int.mul_le_mul_of_nonneg_right h2 (show 0 ≤ v by omega)
  omega
/-- a laid work keeps its own rules -/
def mO (M : Nat → Nat → Int) (nb w : Nat) (s d : Int) : Prop := M (14 + w) 9 ≤ s ∧ M (14 + w) 7 ≤ s ∧ eT M w s - 1 ≤ M (14 + w) 8 ∧ ∀ k, k < nb → M 11 k = (w : Int) → M 13 k * M (14 + w) 4 ≤ pT M w s d (M 12 k) 0
/-- the days between two works are kept -/
def mC (M : Nat → Nat → Int) (a b : Nat) (s d t e : Int) : Prop := M 9 (6 * a + b) < 0 ∨ ∀ p, fI M a b ≤ p → p ≤ lA M a b → (pT M a s d p 1 + M 9 (6 * a + b) * M (14 + a) 4) * M (14 + b) 4 ≤ pT M b t e p 0 * M (14 + a) 4
def mW (M : Nat → Nat → Int) (w b : Nat) (s d t e : Int) : Prop := (M (14 + w) 0 ≠ M (14 + b) 0 ∨ eT M w s ≤ t ∨ eT M b t ≤ s) ∧ mC M w b s d t e ∧ mC M b w t e s d
noncomputable def uf (M : Nat → Nat → Int) (S : Nat → Int) (w : Nat) (day : Int) (b : Nat) : Int := if b ≠ w ∧ M (14 + b) 1 = M (14 + w) 1 ∧ S b ≤ day ∧ day < eT M b (S b) then 1 else 0
theorem uf_r (M : Nat → Nat → Int) (S : Nat → Int) (w : Nat) (day : Int) (b : Nat) : 0 ≤ uf M S w day b ∧ uf M S w day b ≤ 1 := by unfold uf; split <;> omega
/-- a laid work keeps all rules with the first so many -/
def mA (M : Nat → Nat → Int) (nb w cnt : Nat) (S D : Nat → Int) (s d : Int) : Prop := mO M nb w s d ∧ (∀ b, b < cnt → b ≠ w → mW M w b s d (S b) (D b)) ∧ ∀ day, s ≤ day → day < eT M w s → dr M day.toNat = false → 1 + sm (uf M S w day) cnt ≤ M 10 (M (14 + w) 1).toNat
def LB (M : Nat → Nat → Int) (w cnt : Nat) (S D : Nat → Int) (M2 : Nat → Nat → Int) : Prop := ∀ b, b < cnt → b ≠ w → laid M b b (S b) (D b) M2 ∧ (0 ≤ S b ∧ S b ≤ 1000) ∧ (D b = 0 ∨ D b = 1)
set_option maxRecDepth 100000 in
set_option maxHeartbeats 4000000 in
theorem l_M_own {L : Nat} {xs : Nat → Int32} (M : Nat → Nat → Int) (nc nw nb : Nat) (hM : MR M nc nw nb) (M2 : Nat → Nat → Int) (M2s : sf M M2) (M2R : IR M2) (sl : Nat) (hsl : sl < 7) (w : Nat) (hw : w < nw) (s d : Int) (hs : 0 ≤ s ∧ s ≤ 1000) (hL : laid M w sl s d M2) (h1 : M (14 + w) 9 ≤ s) (h2 : M (14 + w) 7 ≤ s) (h3 : eT M w s - 1 ≤ M (14 + w) 8) : ∀ (n i : Nat), nb - i < n → i ≤ nb → (∀ k, k < i → M 11 k = (w : Int) → M 13 k * M (14 + w) 4 ≤ pT M w s d (M 12 k) 0) → sx_V y_M_keepsOwn (0, 0, 0) L xs (0, 0) 49 [some (sx_p 51), some (.inl (sl : Int)), some (.inl (w : Int)), some (.inl s), some (.inl (i : Int))] [] (gm M2) (fun v h2 => ∃ z, v = some (.inl z) ∧ (z = 0 ∨ z = 1) ∧ (z = 1 ↔ mO M nb w s d) ∧ h2 = gm M2) := by
  have hW := (hM.ws w hw).1
  obtain ⟨a1, a2, a3, a4, a5, a6⟩ := id hW
  obtain ⟨s1, s2, s3, s4, s5, s6⟩ := (hM.ws w hw).2.1
  have w6 := hM.w6
  have b8 := hM.b8
  have er := eT_r hW (s := s) hs
  intro n
  induction n with
  | zero => intro i h1 h2; omega
  | succ n ih =>
    intro i hn hi hb
    refine sx_iload d_M_keepsOwn_49 rfl ?_
    refine sx_aload_n d_M_keepsOwn_51 rfl ?_
    refine sx_getI (z := (nb : Int)) d_M_keepsOwn_52 fl_M_117 (go rfl rfl rfl) (by decide) (by decide) (by decide) ((M2s 51 11 (by decide) (by decide) (by omega)).trans hM.mbn) ?_
    refine sx_icmp_ge (tgt := 112) d_M_keepsOwn_55 (by decide) (by omega) (by omega) (fun c55_17 => ?_) (fun c55_17 => ?_)
    · refine sx_iconst d_M_keepsOwn_112 ?_
      refine sx_retI d_M_keepsOwn_113 (Or.inr ⟨rfl, by first | exact Or.inl rfl | exact Or.inr rfl | omega⟩) ⟨Nat.zero_le _, Nat.zero_le _⟩ ?_
      have e0 : i = nb := by omega
      subst e0
      exact ⟨_, rfl, Or.inr rfl, ⟨fun _ => ⟨h1, h2, h3, hb⟩, fun _ => rfl⟩, rfl⟩
    · refine sx_aload_n d_M_keepsOwn_58 rfl ?_
      refine sx_getR (r := some (61)) d_M_keepsOwn_59 fl_M_38 (go rfl rfl rfl) (by decide) (by decide) (by decide) rfl ?_
      refine sx_iload d_M_keepsOwn_62 rfl ?_
      refine sx_iald (z := (M 11 i)) d_M_keepsOwn_64 (go rfl rfl rfl) (by omega) (by omega) (by decide) ((M2s 61 i (by decide) (by decide) (by omega)).trans (hM.mb1 i (by omega))) ?_
      refine sx_iload_n d_M_keepsOwn_65 rfl ?_
      refine sx_icmp_ne (tgt := 106) d_M_keepsOwn_66 (by decide) (hM.ir _ _) (by omega) (fun c66_28 => ?_) (fun c66_28 => ?_)
      · refine sx_iinc (l' := [some (sx_p 51), some (.inl (sl : Int)), some (.inl (w : Int)), some (.inl s), some (.inl ((i : Int) + 1))]) d_M_keepsOwn_106 rfl (by decide) rfl rfl ?_
        refine sx_goto (tgt := 49) d_M_keepsOwn_109 (by decide) ?_
        have e1 : ((i : Int) + 1) = ((i + 1 : Nat) : Int) := by omega
        rw [e1]
        refine ih (i + 1) (by omega) (by omega) (fun k hk hkw => ?_)
        by_cases q : k = i
        · subst q; first | omega | assumption
        · exact hb k (by omega) hkw
      · have ib0 := (hM.ws w hw).2.2.1 0 i (by omega) (by omega)
        have ib1 := (hM.ws w hw).2.2.1 1 i (by omega) (by omega)
        have wz0 : wx M w (M 12 i) 0 = M 12 i - M (14 + w) 2 := rfl
        have wz1 : wx M w (M 12 i) 1 = M (14 + w) 3 - M 12 i := rfl
        have pq := pT_r hW (s := s) (d := d) (p := M 12 i) (lv := 0) hs (wx_in hW (by omega) (by omega))
        have mq := muls (x := M 13 i) (v := M (14 + w) 4) (by omega) (by omega) (by omega) (by omega)
        refine sx_aload_n d_M_keepsOwn_69 rfl ?_
        refine sx_getR (r := some (75)) d_M_keepsOwn_70 fl_M_80 (go rfl rfl rfl) (by decide) (by decide) (by decide) rfl ?_
        refine sx_sipush d_M_keepsOwn_73 (by decide) ?_
        refine sx_iload_n d_M_keepsOwn_76 rfl ?_
        refine sx_imul d_M_keepsOwn_77 ?_
        refine sx_aload_n d_M_keepsOwn_78 rfl ?_
        refine sx_getR (r := some (62)) d_M_keepsOwn_79 fl_M_41 (go rfl rfl rfl) (by decide) (by decide) (by decide) rfl ?_
        refine sx_iload d_M_keepsOwn_82 rfl ?_
        refine sx_iald (z := (M 12 i)) d_M_keepsOwn_84 (go rfl rfl rfl) (by omega) (by omega) (by decide) ((M2s 62 i (by decide) (by decide) (by omega)).trans (hM.mb2 i (by omega))) ?_
        refine sx_iadd d_M_keepsOwn_85 ?_
        refine sx_iald (z := (pT M w s d (M 12 i) 0)) d_M_keepsOwn_86 (go rfl rfl rfl) (by omega) (by omega) (by decide) (by show M2 75 (Int.toNat ((201 * (sl : Int)) + (M 12 i))) = _; rw [show (Int.toNat ((201 * (sl : Int)) + (M 12 i))) = 201 * sl + ((M 12 i)).toNat by omega]; exact (hL.2.2.2 (M 12 i) (by omega) (by omega)).1) ?_
        refine sx_aload_n d_M_keepsOwn_87 rfl ?_
        refine sx_getR (r := some (63)) d_M_keepsOwn_88 fl_M_44 (go rfl rfl rfl) (by decide) (by decide) (by decide) rfl ?_
        refine sx_iload d_M_keepsOwn_91 rfl ?_
        refine sx_iald (z := (M 13 i)) d_M_keepsOwn_93 (go rfl rfl rfl) (by omega) (by omega) (by decide) ((M2s 63 i (by decide) (by decide) (by omega)).trans (hM.mb3 i (by omega))) ?_
        refine sx_aload_n d_M_keepsOwn_94 rfl ?_
        refine sx_getR (r := some (56)) d_M_keepsOwn_95 fl_M_22 (go rfl rfl rfl) (by decide) (by decide) (by decide) rfl ?_
        refine sx_iload_n d_M_keepsOwn_98 rfl ?_
        refine sx_iald (z := (M (14 + w) 4)) d_M_keepsOwn_99 (go rfl rfl rfl) (by omega) (by omega) (by decide) ((M2s 56 w (by decide) (by decide) (by omega)).trans (hM.msp w (by omega))) ?_
        refine sx_imul d_M_keepsOwn_100 ?_
        refine sx_icmp_ge (tgt := 106) d_M_keepsOwn_101 (by decide) (by omega) (by omega) (fun c101_63 => ?_) (fun c101_63 => ?_)
        · refine sx_iinc (l' := [some (sx_p 51), some (.inl (sl : Int)), some (.inl (w : Int)), some (.inl s), some (.inl ((i : Int) + 1))]) d_M_keepsOwn_106 rfl (by decide) rfl rfl ?_
          refine sx_goto (tgt := 49) d_M_keepsOwn_109 (by decide) ?_
          have e1 : ((i : Int) + 1) = ((i + 1 : Nat) : Int) := by omega
          rw [e1]
          refine ih (i + 1) (by omega) (by omega) (fun k hk hkw => ?_)
          by_cases q : k = i
          · subst q; first | omega | assumption
          · exact hb k (by omega) hkw
        · refine sx_iconst d_M_keepsOwn_104 ?_
          refine sx_retI d_M_keepsOwn_105 (Or.inr ⟨rfl, by first | exact Or.inl rfl | exact Or.inr rfl | omega⟩) ⟨Nat.zero_le _, Nat.zero_le _⟩ ?_
          refine ⟨_, rfl, Or.inl rfl, ⟨fun k => absurd k (by decide), fun k => ?_⟩, rfl⟩
          have := k.2.2.2 i (by omega) (by omega)
          omega
set_option maxRecDepth 100000 in
set_option maxHeartbeats 4000000 in
theorem c_M_own {L : Nat} {xs : Nat → Int32} (M : Nat → Nat → Int) (nc nw nb : Nat) (hM : MR M nc nw nb) (M2 : Nat → Nat → Int) (M2s : sf M M2) (M2R : IR M2) (sl : Nat) (hsl : sl < 7) (w : Nat) (hw : w < nw) (s d : Int) (hs : 0 ≤ s ∧ s ≤ 1000) (hL : laid M w sl s d M2) : sx_R y_M_keepsOwn (0, 0, 0) L xs [sx_p 51, .inl (sl : Int), .inl (w : Int)] (gm M2) (fun v h2 => ∃ z, v = some (.inl z) ∧ (z = 0 ∨ z = 1) ∧ (z = 1 ↔ mO M nb w s d) ∧ h2 = gm M2) := by
  have hW := (hM.ws w hw).1
  obtain ⟨a1, a2, a3, a4, a5, a6⟩ := id hW
  obtain ⟨s1, s2, s3, s4, s5, s6⟩ := (hM.ws w hw).2.1
  have w6 := hM.w6
  have b8 := hM.b8
  have er := eT_r hW (s := s) hs
  refine sx_enter rfl (Nat.le_of_ble_eq_true rfl) rfl ?_
  show sx_V y_M_keepsOwn (0, 0, 0) L xs (0, 0) 0 [some (sx_p 51), some (.inl (sl : Int)), some (.inl (w : Int)), none, none] [] (gm M2) _
  refine sx_aload_n d_M_keepsOwn_0 rfl ?_
  refine sx_getR (r := some (72)) d_M_keepsOwn_1 fl_M_71 (go rfl rfl rfl) (by decide) (by decide) (by decide) rfl ?_
  refine sx_iload_n d_M_keepsOwn_4 rfl ?_
  refine sx_iald (z := s) d_M_keepsOwn_5 (go rfl rfl rfl) (by omega) (by omega) (by decide) hL.1 ?_
  refine sx_istore_n (l' := [some (sx_p 51), some (.inl (sl : Int)), some (.inl (w : Int)), some (.inl s), none]) d_M_keepsOwn_6 (by decide) rfl rfl ?_
  refine sx_iload_n d_M_keepsOwn_7 rfl ?_
  refine sx_aload_n d_M_keepsOwn_8 rfl ?_
  refine sx_getR (r := some (70)) d_M_keepsOwn_9 fl_M_65 (go rfl rfl rfl) (by decide) (by decide) (by decide) rfl ?_
  refine sx_iload_n d_M_keepsOwn_12 rfl ?_
  refine sx_iald (z := (M (14 + w) 9)) d_M_keepsOwn_13 (go rfl rfl rfl) (by omega) (by omega) (by decide) ((M2s 70 w (by decide) (by decide) (by omega)).trans (hM.mlt w (by omega))) ?_
  refine sx_icmp_lt (tgt := 44) d_M_keepsOwn_14 (by decide) (by omega) (by omega) (fun c14_21 => ?_) (fun c14_21 => ?_)
  · refine sx_iconst d_M_keepsOwn_44 ?_
    refine sx_retI d_M_keepsOwn_45 (Or.inr ⟨rfl, by first | exact Or.inl rfl | exact Or.inr rfl | omega⟩) ⟨Nat.zero_le _, Nat.zero_le _⟩ ?_
    refine ⟨_, rfl, Or.inl rfl, ⟨fun k => absurd k (by decide), fun k => ?_⟩, rfl⟩
    obtain ⟨k1, k2, k3, k4⟩ := k
    omega
  · refine sx_iload_n d_M_keepsOwn_17 rfl ?_
    refine sx_aload_n d_M_keepsOwn_18 rfl ?_
    refine sx_getR (r := some (59)) d_M_keepsOwn_19 fl_M_32 (go rfl rfl rfl) (by decide) (by decide) (by decide) rfl ?_
    refine sx_iload_n d_M_keepsOwn_22 rfl ?_
    refine sx_iald (z := (M (14 + w) 7)) d_M_keepsOwn_23 (go rfl rfl rfl) (by omega) (by omega) (by decide) ((M2s 59 w (by decide) (by decide) (by omega)).trans (hM.mfi w (by omega))) ?_
    refine sx_icmp_lt (tgt := 44) d_M_keepsOwn_24 (by decide) (by omega) (by omega) (fun c24_32 => ?_) (fun c24_32 => ?_)
    · refine sx_iconst d_M_keepsOwn_44 ?_
      refine sx_retI d_M_keepsOwn_45 (Or.inr ⟨rfl, by first | exact Or.inl rfl | exact Or.inr rfl | omega⟩) ⟨Nat.zero_le _, Nat.zero_le _⟩ ?_
      refine ⟨_, rfl, Or.inl rfl, ⟨fun k => absurd k (by decide), fun k => ?_⟩, rfl⟩
      obtain ⟨k1, k2, k3, k4⟩ := k
      omega
    · refine sx_aload_n d_M_keepsOwn_27 rfl ?_
      refine sx_getR (r := some (74)) d_M_keepsOwn_28 fl_M_77 (go rfl rfl rfl) (by decide) (by decide) (by decide) rfl ?_
      refine sx_iload_n d_M_keepsOwn_31 rfl ?_
      refine sx_iald (z := (eT M w s)) d_M_keepsOwn_32 (go rfl rfl rfl) (by omega) (by omega) (by decide) hL.2.2.1 ?_
      refine sx_iconst d_M_keepsOwn_33 ?_
      refine sx_isub d_M_keepsOwn_34 ?_
      refine sx_aload_n d_M_keepsOwn_35 rfl ?_
      refine sx_getR (r := some (60)) d_M_keepsOwn_36 fl_M_35 (go rfl rfl rfl) (by decide) (by decide) (by decide) rfl ?_
      refine sx_iload_n d_M_keepsOwn_39 rfl ?_
      refine sx_iald (z := (M (14 + w) 8)) d_M_keepsOwn_40 (go rfl rfl rfl) (by omega) (by omega) (by decide) ((M2s 60 w (by decide) (by decide) (by omega)).trans (hM.mla w (by omega))) ?_
      refine sx_icmp_le (tgt := 46) d_M_keepsOwn_41 (by decide) (by omega) (by omega) (fun c41_48 => ?_) (fun c41_48 => ?_)
      · refine sx_iconst d_M_keepsOwn_46 ?_
        refine sx_istore (l' := [some (sx_p 51), some (.inl (sl : Int)), some (.inl (w : Int)), some (.inl s), some (.inl 0)]) d_M_keepsOwn_47 (by decide) rfl rfl ?_
        exact l_M_own M nc nw nb hM M2 M2s M2R sl hsl w hw s d hs hL (by omega) (by omega) (by omega) (nb + 1) 0 (by omega) (by omega) (fun k hk => absurd hk (Nat.not_lt_zero _))
      · refine sx_iconst d_M_keepsOwn_44 ?_
        refine sx_retI d_M_keepsOwn_45 (Or.inr ⟨rfl, by first | exact Or.inl rfl | exact Or.inr rfl | omega⟩) ⟨Nat.zero_le _, Nat.zero_le _⟩ ?_
        refine ⟨_, rfl, Or.inl rfl, ⟨fun k => absurd k (by decide), fun k => ?_⟩, rfl⟩
        obtain ⟨k1, k2, k3, k4⟩ := k
        omega
set_option maxRecDepth 100000 in
set_option maxHeartbeats 4000000 in
theorem l_M_ca {L : Nat} {xs : Nat → Int32} (M : Nat → Nat → Int) (nc nw nb : Nat) (hM : MR M nc nw nb) (M2 : Nat → Nat → Int) (M2s : sf M M2) (M2R : IR M2) (sl : Nat) (hsla : sl < 7) (a : Nat) (hwa : a < nw) (s d : Int) (hsa : 0 ≤ s ∧ s ≤ 1000) (hL : laid M a sl s d M2) (sm2 : Nat) (hslb : sm2 < 7) (b : Nat) (hwb : b < nw) (t e : Int) (hsb : 0 ≤ t ∧ t ≤ 1000) (hK : laid M b sm2 t e M2) : ∀ (n : Nat) (p : Int) (x6 x9 : Option sx_v), (lA M a b + 1 - p).toNat < n → fI M a b ≤ p → (p ≤ fI M a b ∨ p ≤ lA M a b + 1) → (∀ q, fI M a b ≤ q → q < p → (pT M a s d q 1 + M 9 (6 * a + b) * M (14 + a) 4) * M (14 + b) 4 ≤ pT M b t e q 0 * M (14 + a) 4) → sx_V y_M_comesAfter (0, 0, 0) L xs (0, 0) 86 [some (sx_p 51), some (.inl (sl : Int)), some (.inl (a : Int)), some (.inl (sm2 : Int)), some (.inl (b : Int)), some (.inl (M 9 (6 * a + b))), x6, some (.inl (lA M a b)), some (.inl p), x9, none] [] (gm M2) (fun v h2 => ∃ z, v = some (.inl z) ∧ (z = 0 ∨ z = 1) ∧ (z = 1 ↔ mC M a b s d t e) ∧ h2 = gm M2) := by
  have hA := (hM.ws a hwa).1
  obtain ⟨a1, a2, a3, a4, a5, a6⟩ := id hA
  have hB := (hM.ws b hwb).1
  obtain ⟨b1, b2, b3, b4, b5, b6⟩ := id hB
  have w6 := hM.w6
  have gq := hM.gp (6 * a + b) (by omega)
  have gi : (Int.toNat ((6 * (a : Int)) + (b : Int))) = 6 * a + b := by omega
  have lar : 0 ≤ fI M a b ∧ fI M a b ≤ 200 ∧ 0 ≤ lA M a b ∧ lA M a b ≤ 200 := by unfold fI lA; refine ⟨?_, ?_, ?_, ?_⟩ <;> split <;> omega
  intro n
  induction n with
  | zero => intro p x6 x9 h1 h2; omega
  | succ n ih =>
    intro p x6 x9 hn hp1 hp2 hc
    refine sx_iload d_M_comesAfter_86 rfl ?_
    refine sx_iload d_M_comesAfter_88 rfl ?_
    refine sx_icmp_gt (tgt := 171) d_M_comesAfter_90 (by decide) (by omega) (by omega) (fun c90_18 => ?_) (fun c90_18 => ?_)
    · refine sx_iconst d_M_comesAfter_171 ?_
      refine sx_retI d_M_comesAfter_172 (Or.inr ⟨rfl, by first | exact Or.inl rfl | exact Or.inr rfl | omega⟩) ⟨Nat.zero_le _, Nat.zero_le _⟩ ?_
      refine ⟨_, rfl, Or.inr rfl, ⟨fun _ => ?_, fun _ => rfl⟩, rfl⟩
      first | exact Or.inl (by omega) | exact Or.inr (fun q h1 h2 => hc q h1 (by omega))
    · refine sx_iload d_M_comesAfter_93 rfl ?_
      refine sx_if_lt (tgt := 171) d_M_comesAfter_95 (by decide) (by omega) (fun c95_24 => ?_) (fun c95_24 => ?_)
      · refine sx_iconst d_M_comesAfter_171 ?_
        refine sx_retI d_M_comesAfter_172 (Or.inr ⟨rfl, by first | exact Or.inl rfl | exact Or.inr rfl | omega⟩) ⟨Nat.zero_le _, Nat.zero_le _⟩ ?_
        refine ⟨_, rfl, Or.inr rfl, ⟨fun _ => ?_, fun _ => rfl⟩, rfl⟩
        first | exact Or.inl (by omega) | exact Or.inr (fun q h1 h2 => hc q h1 (by omega))
      · have fl := fI_le hp1
        have ll := lA_le (M := M) (o := a) (w := b) (q := p) (by omega)
        have pa := pT_r hA (s := s) (d := d) (p := p) (lv := 1) hsa (wx_in hA (by omega) (by omega))
        have pb := pT_r hB (s := t) (d := e) (p := p) (lv := 0) hsb (wx_in hB (by omega) (by omega))
        have ua := (up_r hA (s := s) (d := d) (q := p) (lv := 1) (g := M 9 (6 * a + b)) hsa (by omega) (by omega) gq).1
        have ma := muls (v := M (14 + b) 4) ua.1 ua.2 (by omega) (by omega)
        have mb := muls (x := pT M b t e p 0) (v := M (14 + a) 4) (by omega) (by omega) (by omega) (by omega)
        refine sx_aload_n d_M_comesAfter_98 rfl ?_
        refine sx_getR (r := some (76)) d_M_comesAfter_99 fl_M_83 (go rfl rfl rfl) (by decide) (by decide) (by decide) rfl ?_
        refine sx_sipush d_M_comesAfter_102 (by decide) ?_
        refine sx_iload_n d_M_comesAfter_105 rfl ?_
        refine sx_imul d_M_comesAfter_106 ?_
        refine sx_iload d_M_comesAfter_107 rfl ?_
        refine sx_iadd d_M_comesAfter_109 ?_
        refine sx_iald (z := (pT M a s d p 1)) d_M_comesAfter_110 (go rfl rfl rfl) (by omega) (by omega) (by decide) (by show M2 76 (Int.toNat ((201 * (sl : Int)) + p)) = _; rw [show (Int.toNat ((201 * (sl : Int)) + p)) = 201 * sl + (p).toNat by omega]; exact (hL.2.2.2 p (by omega) (by omega)).2) ?_
        refine sx_i2l d_M_comesAfter_111 (by omega) ?_
        refine sx_iload d_M_comesAfter_112 rfl ?_
        refine sx_i2l d_M_comesAfter_114 (by omega) ?_
        refine sx_aload_n d_M_comesAfter_115 rfl ?_
        refine sx_getR (r := some (56)) d_M_comesAfter_116 fl_M_22 (go rfl rfl rfl) (by decide) (by decide) (by decide) rfl ?_
        refine sx_iload_n d_M_comesAfter_119 rfl ?_
        refine sx_iald (z := (M (14 + a) 4)) d_M_comesAfter_120 (go rfl rfl rfl) (by omega) (by omega) (by decide) ((M2s 56 a (by decide) (by decide) (by omega)).trans (hM.msp a (by omega))) ?_
        refine sx_i2l d_M_comesAfter_121 (by omega) ?_
        refine sx_lmul d_M_comesAfter_122 ?_
        refine sx_ladd d_M_comesAfter_123 ?_
        refine sx_lstore (l' := [some (sx_p 51), some (.inl (sl : Int)), some (.inl (a : Int)), some (.inl (sm2 : Int)), some (.inl (b : Int)), some (.inl (M 9 (6 * a + b))), x6, some (.inl (lA M a b)), some (.inl p), some (sx_l ((pT M a s d p 1) + ((M 9 (6 * a + b)) * (M (14 + a) 4)))), none]) d_M_comesAfter_124 (by decide) rfl rfl ?_
        refine sx_aload_n d_M_comesAfter_126 rfl ?_
        refine sx_getR (r := some (75)) d_M_comesAfter_127 fl_M_80 (go rfl rfl rfl) (by decide) (by decide) (by decide) rfl ?_
        refine sx_sipush d_M_comesAfter_130 (by decide) ?_
        refine sx_iload_n d_M_comesAfter_133 rfl ?_
        refine sx_imul d_M_comesAfter_134 ?_
        refine sx_iload d_M_comesAfter_135 rfl ?_
        refine sx_iadd d_M_comesAfter_137 ?_
        refine sx_iald (z := (pT M b t e p 0)) d_M_comesAfter_138 (go rfl rfl rfl) (by omega) (by omega) (by decide) (by show M2 75 (Int.toNat ((201 * (sm2 : Int)) + p)) = _; rw [show (Int.toNat ((201 * (sm2 : Int)) + p)) = 201 * sm2 + (p).toNat by omega]; exact (hK.2.2.2 p (by omega) (by omega)).1) ?_
        refine sx_i2l d_M_comesAfter_139 (by omega) ?_
        refine sx_aload_n d_M_comesAfter_140 rfl ?_
        refine sx_getR (r := some (56)) d_M_comesAfter_141 fl_M_22 (go rfl rfl rfl) (by decide) (by decide) (by decide) rfl ?_
        refine sx_iload_n d_M_comesAfter_144 rfl ?_
        refine sx_iald (z := (M (14 + a) 4)) d_M_comesAfter_145 (go rfl rfl rfl) (by omega) (by omega) (by decide) ((M2s 56 a (by decide) (by decide) (by omega)).trans (hM.msp a (by omega))) ?_
        refine sx_i2l d_M_comesAfter_146 (by omega) ?_
        refine sx_lmul d_M_comesAfter_147 ?_
        refine sx_lload d_M_comesAfter_148 rfl ?_
        refine sx_aload_n d_M_comesAfter_150 rfl ?_
        refine sx_getR (r := some (56)) d_M_comesAfter_151 fl_M_22 (go rfl rfl rfl) (by decide) (by decide) (by decide) rfl ?_
        refine sx_iload d_M_comesAfter_154 rfl ?_
        refine sx_iald (z := (M (14 + b) 4)) d_M_comesAfter_156 (go rfl rfl rfl) (by omega) (by omega) (by decide) ((M2s 56 b (by decide) (by decide) (by omega)).trans (hM.msp b (by omega))) ?_
        refine sx_i2l d_M_comesAfter_157 (by omega) ?_
        refine sx_lmul d_M_comesAfter_158 ?_
        refine sx_lcmp (w := if ((pT M b t e p 0) * (M (14 + a) 4)) < (((pT M a s d p 1) + ((M 9 (6 * a + b)) * (M (14 + a) 4))) * (M (14 + b) 4)) then -1 else if ((pT M b t e p 0) * (M (14 + a) 4)) = (((pT M a s d p 1) + ((M 9 (6 * a + b)) * (M (14 + a) 4))) * (M (14 + b) 4)) then 0 else 1) d_M_comesAfter_159 (by omega) (by omega) rfl ?_
        generalize hw77 : (if ((pT M b t e p 0) * (M (14 + a) 4)) < (((pT M a s d p 1) + ((M 9 (6 * a + b)) * (M (14 + a) 4))) * (M (14 + b) 4)) then (-1 : Int) else if ((pT M b t e p 0) * (M (14 + a) 4)) = (((pT M a s d p 1) + ((M 9 (6 * a + b)) * (M (14 + a) 4))) * (M (14 + b) 4)) then 0 else 1) = w77
        have w77r : -1 ≤ w77 ∧ w77 ≤ 1 ∧ (w77 < 0 ↔ ((pT M b t e p 0) * (M (14 + a) 4)) < (((pT M a s d p 1) + ((M 9 (6 * a + b)) * (M (14 + a) 4))) * (M (14 + b) 4))) ∧ (0 < w77 ↔ (((pT M a s d p 1) + ((M 9 (6 * a + b)) * (M (14 + a) 4))) * (M (14 + b) 4)) < ((pT M b t e p 0) * (M (14 + a) 4))) := by rw [← hw77]; exact lc_r _ _
        refine sx_if_ge (tgt := 165) d_M_comesAfter_160 (by decide) (by omega) (fun c160_80 => ?_) (fun c160_80 => ?_)
        · refine sx_iinc (l' := [some (sx_p 51), some (.inl (sl : Int)), some (.inl (a : Int)), some (.inl (sm2 : Int)), some (.inl (b : Int)), some (.inl (M 9 (6 * a + b))), x6, some (.inl (lA M a b)), some (.inl (p + 1)), some (sx_l ((pT M a s d p 1) + ((M 9 (6 * a + b)) * (M (14 + a) 4)))), none]) d_M_comesAfter_165 rfl (by decide) rfl rfl ?_
          refine sx_goto (tgt := 86) d_M_comesAfter_168 (by decide) ?_
          refine ih (p + 1) _ _ (by omega) (by omega) (by omega) (fun q h1 h2 => ?_)
          by_cases e : q = p
          · subst e; omega
          · exact hc q h1 (by omega)
        · refine sx_iconst d_M_comesAfter_163 ?_
          refine sx_retI d_M_comesAfter_164 (Or.inr ⟨rfl, by first | exact Or.inl rfl | exact Or.inr rfl | omega⟩) ⟨Nat.zero_le _, Nat.zero_le _⟩ ?_
          refine ⟨_, rfl, Or.inl rfl, ⟨fun k => absurd k (by decide), fun k => ?_⟩, rfl⟩
          rcases k with k | k
          · omega
          · have := k p hp1 (by omega); omega
set_option maxRecDepth 100000 in
set_option maxHeartbeats 4000000 in
theorem c_M_ca {L : Nat} {xs : Nat → Int32} (M : Nat → Nat → Int) (nc nw nb : Nat) (hM : MR M nc nw nb) (M2 : Nat → Nat → Int) (M2s : sf M M2) (M2R : IR M2) (sl : Nat) (hsla : sl < 7) (a : Nat) (hwa : a < nw) (s d : Int) (hsa : 0 ≤ s ∧ s ≤ 1000) (hL : laid M a sl s d M2) (sm2 : Nat) (hslb : sm2 < 7) (b : Nat) (hwb : b < nw) (t e : Int) (hsb : 0 ≤ t ∧ t ≤ 1000) (hK : laid M b sm2 t e M2) : sx_R y_M_comesAfter (0, 0, 0) L xs [sx_p 51, .inl (sl : Int), .inl (a : Int), .inl (sm2 : Int), .inl (b : Int)] (gm M2) (fun v h2 => ∃ z, v = some (.inl z) ∧ (z = 0 ∨ z = 1) ∧ (z = 1 ↔ mC M a b s d t e) ∧ h2 = gm M2) := by
  have hA := (hM.ws a hwa).1
  obtain ⟨a1, a2, a3, a4, a5, a6⟩ := id hA
  have hB := (hM.ws b hwb).1
  obtain ⟨b1, b2, b3, b4, b5, b6⟩ := id hB
  have w6 := hM.w6
  have gq := hM.gp (6 * a + b) (by omega)
  have gi : (Int.toNat ((6 * (a : Int)) + (b : Int))) = 6 * a + b := by omega
  refine sx_enter rfl (Nat.le_of_ble_eq_true rfl) rfl ?_
  show sx_V y_M_comesAfter (0, 0, 0) L xs (0, 0) 0 [some (sx_p 51), some (.inl (sl : Int)), some (.inl (a : Int)), some (.inl (sm2 : Int)), some (.inl (b : Int)), none, none, none, none, none, none] [] (gm M2) _
  refine sx_aload_n d_M_comesAfter_0 rfl ?_
  refine sx_getR (r := some (58)) d_M_comesAfter_1 fl_M_29 (go rfl rfl rfl) (by decide) (by decide) (by decide) rfl ?_
  refine sx_bipush d_M_comesAfter_4 (by decide) ?_
  refine sx_iload_n d_M_comesAfter_6 rfl ?_
  refine sx_imul d_M_comesAfter_7 ?_
  refine sx_iload d_M_comesAfter_8 rfl ?_
  refine sx_iadd d_M_comesAfter_10 ?_
  refine sx_iald (z := (M 9 (6 * a + b))) d_M_comesAfter_11 (go rfl rfl rfl) (by omega) (by omega) (by decide) (by show M2 58 (Int.toNat ((6 * (a : Int)) + (b : Int))) = _; rw [gi]; exact (M2s 58 _ (by decide) (by decide) (by omega)).trans (hM.mgp a b hwa hwb)) ?_
  refine sx_istore (l' := [some (sx_p 51), some (.inl (sl : Int)), some (.inl (a : Int)), some (.inl (sm2 : Int)), some (.inl (b : Int)), some (.inl (M 9 (6 * a + b))), none, none, none, none, none]) d_M_comesAfter_12 (by decide) rfl rfl ?_
  refine sx_aload_n d_M_comesAfter_14 rfl ?_
  refine sx_getR (r := some (54)) d_M_comesAfter_15 fl_M_16 (go rfl rfl rfl) (by decide) (by decide) (by decide) rfl ?_
  refine sx_iload_n d_M_comesAfter_18 rfl ?_
  refine sx_iald (z := (M (14 + a) 2)) d_M_comesAfter_19 (go rfl rfl rfl) (by omega) (by omega) (by decide) ((M2s 54 a (by decide) (by decide) (by omega)).trans (hM.mfr a (by omega))) ?_
  refine sx_aload_n d_M_comesAfter_20 rfl ?_
  refine sx_getR (r := some (54)) d_M_comesAfter_21 fl_M_16 (go rfl rfl rfl) (by decide) (by decide) (by decide) rfl ?_
  refine sx_iload d_M_comesAfter_24 rfl ?_
  refine sx_iald (z := (M (14 + b) 2)) d_M_comesAfter_26 (go rfl rfl rfl) (by omega) (by omega) (by decide) ((M2s 54 b (by decide) (by decide) (by omega)).trans (hM.mfr b (by omega))) ?_
  refine sx_icmp_le (tgt := 39) d_M_comesAfter_27 (by decide) (by omega) (by omega) (fun c27_29 => ?_) (fun c27_29 => ?_)
  · refine sx_aload_n d_M_comesAfter_39 rfl ?_
    refine sx_getR (r := some (54)) d_M_comesAfter_40 fl_M_16 (go rfl rfl rfl) (by decide) (by decide) (by decide) rfl ?_
    refine sx_iload d_M_comesAfter_43 rfl ?_
    refine sx_iald (z := (M (14 + b) 2)) d_M_comesAfter_45 (go rfl rfl rfl) (by omega) (by omega) (by decide) ((M2s 54 b (by decide) (by decide) (by omega)).trans (hM.mfr b (by omega))) ?_
    refine sx_istore (l' := [some (sx_p 51), some (.inl (sl : Int)), some (.inl (a : Int)), some (.inl (sm2 : Int)), some (.inl (b : Int)), some (.inl (M 9 (6 * a + b))), some (.inl (M (14 + b) 2)), none, none, none, none]) d_M_comesAfter_46 (by decide) rfl rfl ?_
    refine sx_aload_n d_M_comesAfter_48 rfl ?_
    refine sx_getR (r := some (55)) d_M_comesAfter_49 fl_M_19 (go rfl rfl rfl) (by decide) (by decide) (by decide) rfl ?_
    refine sx_iload_n d_M_comesAfter_52 rfl ?_
    refine sx_iald (z := (M (14 + a) 3)) d_M_comesAfter_53 (go rfl rfl rfl) (by omega) (by omega) (by decide) ((M2s 55 a (by decide) (by decide) (by omega)).trans (hM.mto a (by omega))) ?_
    refine sx_aload_n d_M_comesAfter_54 rfl ?_
    refine sx_getR (r := some (55)) d_M_comesAfter_55 fl_M_19 (go rfl rfl rfl) (by decide) (by decide) (by decide) rfl ?_
    refine sx_iload d_M_comesAfter_58 rfl ?_
    refine sx_iald (z := (M (14 + b) 3)) d_M_comesAfter_60 (go rfl rfl rfl) (by omega) (by omega) (by decide) ((M2s 55 b (by decide) (by decide) (by omega)).trans (hM.mto b (by omega))) ?_
    refine sx_icmp_ge (tgt := 73) d_M_comesAfter_61 (by decide) (by omega) (by omega) (fun c61_43 => ?_) (fun c61_43 => ?_)
    · refine sx_aload_n d_M_comesAfter_73 rfl ?_
      refine sx_getR (r := some (55)) d_M_comesAfter_74 fl_M_19 (go rfl rfl rfl) (by decide) (by decide) (by decide) rfl ?_
      refine sx_iload d_M_comesAfter_77 rfl ?_
      refine sx_iald (z := (M (14 + b) 3)) d_M_comesAfter_79 (go rfl rfl rfl) (by omega) (by omega) (by decide) ((M2s 55 b (by decide) (by decide) (by omega)).trans (hM.mto b (by omega))) ?_
      refine sx_istore (l' := [some (sx_p 51), some (.inl (sl : Int)), some (.inl (a : Int)), some (.inl (sm2 : Int)), some (.inl (b : Int)), some (.inl (M 9 (6 * a + b))), some (.inl (M (14 + b) 2)), some (.inl (M (14 + b) 3)), none, none, none]) d_M_comesAfter_80 (by decide) rfl rfl ?_
      refine sx_iload d_M_comesAfter_82 rfl ?_
      refine sx_istore (l' := [some (sx_p 51), some (.inl (sl : Int)), some (.inl (a : Int)), some (.inl (sm2 : Int)), some (.inl (b : Int)), some (.inl (M 9 (6 * a + b))), some (.inl (M (14 + b) 2)), some (.inl (M (14 + b) 3)), some (.inl (M (14 + b) 2)), none, none]) d_M_comesAfter_84 (by decide) rfl rfl ?_
      have ef : (M (14 + b) 2) = fI M a b := by (unfold fI; split <;> omega)
      have el : (M (14 + b) 3) = lA M a b := by (unfold lA; split <;> omega)
      have q := l_M_ca (L := L) (xs := xs) M nc nw nb hM M2 M2s M2R sl hsla a hwa s d hsa hL sm2 hslb b hwb t e hsb hK ((lA M a b + 1 - fI M a b).toNat + 1) (fI M a b) (some (.inl (fI M a b))) none (by omega) (Int.le_refl _) (Or.inl (Int.le_refl _)) (fun q h1 h2 => absurd h1 (by omega))
      rw [ef, el]
      exact q
    · refine sx_aload_n d_M_comesAfter_64 rfl ?_
      refine sx_getR (r := some (55)) d_M_comesAfter_65 fl_M_19 (go rfl rfl rfl) (by decide) (by decide) (by decide) rfl ?_
      refine sx_iload_n d_M_comesAfter_68 rfl ?_
      refine sx_iald (z := (M (14 + a) 3)) d_M_comesAfter_69 (go rfl rfl rfl) (by omega) (by omega) (by decide) ((M2s 55 a (by decide) (by decide) (by omega)).trans (hM.mto a (by omega))) ?_
      refine sx_goto (tgt := 80) d_M_comesAfter_70 (by decide) ?_
      refine sx_istore (l' := [some (sx_p 51), some (.inl (sl : Int)), some (.inl (a : Int)), some (.inl (sm2 : Int)), some (.inl (b : Int)), some (.inl (M 9 (6 * a + b))), some (.inl (M (14 + b) 2)), some (.inl (M (14 + a) 3)), none, none, none]) d_M_comesAfter_80 (by decide) rfl rfl ?_
      refine sx_iload d_M_comesAfter_82 rfl ?_
      refine sx_istore (l' := [some (sx_p 51), some (.inl (sl : Int)), some (.inl (a : Int)), some (.inl (sm2 : Int)), some (.inl (b : Int)), some (.inl (M 9 (6 * a + b))), some (.inl (M (14 + b) 2)), some (.inl (M (14 + a) 3)), some (.inl (M (14 + b) 2)), none, none]) d_M_comesAfter_84 (by decide) rfl rfl ?_
      have ef : (M (14 + b) 2) = fI M a b := by (unfold fI; split <;> omega)
      have el : (M (14 + a) 3) = lA M a b := by (unfold lA; split <;> omega)
      have q := l_M_ca (L := L) (xs := xs) M nc nw nb hM M2 M2s M2R sl hsla a hwa s d hsa hL sm2 hslb b hwb t e hsb hK ((lA M a b + 1 - fI M a b).toNat + 1) (fI M a b) (some (.inl (fI M a b))) none (by omega) (Int.le_refl _) (Or.inl (Int.le_refl _)) (fun q h1 h2 => absurd h1 (by omega))
      rw [ef, el]
      exact q
  · refine sx_aload_n d_M_comesAfter_30 rfl ?_
    refine sx_getR (r := some (54)) d_M_comesAfter_31 fl_M_16 (go rfl rfl rfl) (by decide) (by decide) (by decide) rfl ?_
    refine sx_iload_n d_M_comesAfter_34 rfl ?_
    refine sx_iald (z := (M (14 + a) 2)) d_M_comesAfter_35 (go rfl rfl rfl) (by omega) (by omega) (by decide) ((M2s 54 a (by decide) (by decide) (by omega)).trans (hM.mfr a (by omega))) ?_
    refine sx_goto (tgt := 46) d_M_comesAfter_36 (by decide) ?_
    refine sx_istore (l' := [some (sx_p 51), some (.inl (sl : Int)), some (.inl (a : Int)), some (.inl (sm2 : Int)), some (.inl (b : Int)), some (.inl (M 9 (6 * a + b))), some (.inl (M (14 + a) 2)), none, none, none, none]) d_M_comesAfter_46 (by decide) rfl rfl ?_
    refine sx_aload_n d_M_comesAfter_48 rfl ?_
    refine sx_getR (r := some (55)) d_M_comesAfter_49 fl_M_19 (go rfl rfl rfl) (by decide) (by decide) (by decide) rfl ?_
    refine sx_iload_n d_M_comesAfter_52 rfl ?_
    refine sx_iald (z := (M (14 + a) 3)) d_M_comesAfter_53 (go rfl rfl rfl) (by omega) (by omega) (by decide) ((M2s 55 a (by decide) (by decide) (by omega)).trans (hM.mto a (by omega))) ?_
    refine sx_aload_n d_M_comesAfter_54 rfl ?_
    refine sx_getR (r := some (55)) d_M_comesAfter_55 fl_M_19 (go rfl rfl rfl) (by decide) (by decide) (by decide) rfl ?_
    refine sx_iload d_M_comesAfter_58 rfl ?_
    refine sx_iald (z := (M (14 + b) 3)) d_M_comesAfter_60 (go rfl rfl rfl) (by omega) (by omega) (by decide) ((M2s 55 b (by decide) (by decide) (by omega)).trans (hM.mto b (by omega))) ?_
    refine sx_icmp_ge (tgt := 73) d_M_comesAfter_61 (by decide) (by omega) (by omega) (fun c61_83 => ?_) (fun c61_83 => ?_)
    · refine sx_aload_n d_M_comesAfter_73 rfl ?_
      refine sx_getR (r := some (55)) d_M_comesAfter_74 fl_M_19 (go rfl rfl rfl) (by decide) (by decide) (by decide) rfl ?_
      refine sx_iload d_M_comesAfter_77 rfl ?_
      refine sx_iald (z := (M (14 + b) 3)) d_M_comesAfter_79 (go rfl rfl rfl) (by omega) (by omega) (by decide) ((M2s 55 b (by decide) (by decide) (by omega)).trans (hM.mto b (by omega))) ?_
      refine sx_istore (l' := [some (sx_p 51), some (.inl (sl : Int)), some (.inl (a : Int)), some (.inl (sm2 : Int)), some (.inl (b : Int)), some (.inl (M 9 (6 * a + b))), some (.inl (M (14 + a) 2)), some (.inl (M (14 + b) 3)), none, none, none]) d_M_comesAfter_80 (by decide) rfl rfl ?_
      refine sx_iload d_M_comesAfter_82 rfl ?_
      refine sx_istore (l' := [some (sx_p 51), some (.inl (sl : Int)), some (.inl (a : Int)), some (.inl (sm2 : Int)), some (.inl (b : Int)), some (.inl (M 9 (6 * a + b))), some (.inl (M (14 + a) 2)), some (.inl (M (14 + b) 3)), some (.inl (M (14 + a) 2)), none, none]) d_M_comesAfter_84 (by decide) rfl rfl ?_
      have ef : (M (14 + a) 2) = fI M a b := by (unfold fI; split <;> omega)
      have el : (M (14 + b) 3) = lA M a b := by (unfold lA; split <;> omega)
      have q := l_M_ca (L := L) (xs := xs) M nc nw nb hM M2 M2s M2R sl hsla a hwa s d hsa hL sm2 hslb b hwb t e hsb hK ((lA M a b + 1 - fI M a b).toNat + 1) (fI M a b) (some (.inl (fI M a b))) none (by omega) (Int.le_refl _) (Or.inl (Int.le_refl _)) (fun q h1 h2 => absurd h1 (by omega))
      rw [ef, el]
      exact q
    · refine sx_aload_n d_M_comesAfter_64 rfl ?_
      refine sx_getR (r := some (55)) d_M_comesAfter_65 fl_M_19 (go rfl rfl rfl) (by decide) (by decide) (by decide) rfl ?_
      refine sx_iload_n d_M_comesAfter_68 rfl ?_
      refine sx_iald (z := (M (14 + a) 3)) d_M_comesAfter_69 (go rfl rfl rfl) (by omega) (by omega) (by decide) ((M2s 55 a (by decide) (by decide) (by omega)).trans (hM.mto a (by omega))) ?_
      refine sx_goto (tgt := 80) d_M_comesAfter_70 (by decide) ?_
      refine sx_istore (l' := [some (sx_p 51), some (.inl (sl : Int)), some (.inl (a : Int)), some (.inl (sm2 : Int)), some (.inl (b : Int)), some (.inl (M 9 (6 * a + b))), some (.inl (M (14 + a) 2)), some (.inl (M (14 + a) 3)), none, none, none]) d_M_comesAfter_80 (by decide) rfl rfl ?_
      refine sx_iload d_M_comesAfter_82 rfl ?_
      refine sx_istore (l' := [some (sx_p 51), some (.inl (sl : Int)), some (.inl (a : Int)), some (.inl (sm2 : Int)), some (.inl (b : Int)), some (.inl (M 9 (6 * a + b))), some (.inl (M (14 + a) 2)), some (.inl (M (14 + a) 3)), some (.inl (M (14 + a) 2)), none, none]) d_M_comesAfter_84 (by decide) rfl rfl ?_
      have ef : (M (14 + a) 2) = fI M a b := by (unfold fI; split <;> omega)
      have el : (M (14 + a) 3) = lA M a b := by (unfold lA; split <;> omega)
      have q := l_M_ca (L := L) (xs := xs) M nc nw nb hM M2 M2s M2R sl hsla a hwa s d hsa hL sm2 hslb b hwb t e hsb hK ((lA M a b + 1 - fI M a b).toNat + 1) (fI M a b) (some (.inl (fI M a b))) none (by omega) (Int.le_refl _) (Or.inl (Int.le_refl _)) (fun q h1 h2 => absurd h1 (by omega))
      rw [ef, el]
      exact q
set_option maxRecDepth 100000 in
set_option maxHeartbeats 4000000 in
theorem c_M_gw {L : Nat} {xs : Nat → Int32} (M : Nat → Nat → Int) (nc nw nb : Nat) (hM : MR M nc nw nb) (M2 : Nat → Nat → Int) (M2s : sf M M2) (M2R : IR M2) (sl : Nat) (hsla : sl < 7) (a : Nat) (hwa : a < nw) (s d : Int) (hsa : 0 ≤ s ∧ s ≤ 1000) (hL : laid M a sl s d M2) (sm2 : Nat) (hslb : sm2 < 7) (b : Nat) (hwb : b < nw) (t e : Int) (hsb : 0 ≤ t ∧ t ≤ 1000) (hK : laid M b sm2 t e M2) : sx_R y_M_goesWith (1, 0, 0) L xs [sx_p 51, .inl (sl : Int), .inl (a : Int), .inl (sm2 : Int), .inl (b : Int)] (gm M2) (fun v h2 => ∃ z, v = some (.inl z) ∧ (z = 0 ∨ z = 1) ∧ (z = 1 ↔ mW M a b s d t e) ∧ h2 = gm M2) := by
  have hA := (hM.ws a hwa).1
  obtain ⟨a1, a2, a3, a4, a5, a6⟩ := id hA
  have hB := (hM.ws b hwb).1
  obtain ⟨b1, b2, b3, b4, b5, b6⟩ := id hB
  have w6 := hM.w6
  have gq := hM.gp (6 * a + b) (by omega)
  have gi : (Int.toNat ((6 * (a : Int)) + (b : Int))) = 6 * a + b := by omega
  have era := eT_r hA (s := s) hsa
  have erb := eT_r hB (s := t) hsb
  have ca := hM.mcr a hwa
  have cb := hM.mcr b hwb
  have c4 := hM.c4
  refine sx_enter rfl (Nat.le_of_ble_eq_true rfl) rfl ?_
  show sx_V y_M_goesWith (1, 0, 0) L xs (0, 0) 0 [some (sx_p 51), some (.inl (sl : Int)), some (.inl (a : Int)), some (.inl (sm2 : Int)), some (.inl (b : Int)), none] [] (gm M2) _
  refine sx_aload_n d_M_goesWith_0 rfl ?_
  refine sx_getR (r := some (53)) d_M_goesWith_1 fl_M_13 (go rfl rfl rfl) (by decide) (by decide) (by decide) rfl ?_
  refine sx_iload_n d_M_goesWith_4 rfl ?_
  refine sx_iald (z := (M (14 + a) 0)) d_M_goesWith_5 (go rfl rfl rfl) (by omega) (by omega) (by decide) ((M2s 53 a (by decide) (by decide) (by omega)).trans (hM.mcr a (by omega)).1) ?_
  refine sx_aload_n d_M_goesWith_6 rfl ?_
  refine sx_getR (r := some (53)) d_M_goesWith_7 fl_M_13 (go rfl rfl rfl) (by decide) (by decide) (by decide) rfl ?_
  refine sx_iload d_M_goesWith_10 rfl ?_
  refine sx_iald (z := (M (14 + b) 0)) d_M_goesWith_12 (go rfl rfl rfl) (by omega) (by omega) (by decide) ((M2s 53 b (by decide) (by decide) (by omega)).trans (hM.mcr b (by omega)).1) ?_
  refine sx_icmp_ne (tgt := 46) d_M_goesWith_13 (by decide) (by omega) (by omega) (fun c13_25 => ?_) (fun c13_25 => ?_)
  · refine sx_iconst d_M_goesWith_46 ?_
    refine sx_goto (tgt := 51) d_M_goesWith_47 (by decide) ?_
    refine sx_istore (l' := [some (sx_p 51), some (.inl (sl : Int)), some (.inl (a : Int)), some (.inl (sm2 : Int)), some (.inl (b : Int)), some (.inl 1)]) d_M_goesWith_51 (by decide) rfl rfl ?_
    refine sx_iload d_M_goesWith_53 rfl ?_
    refine sx_if_eq (tgt := 86) d_M_goesWith_55 (by decide) ⟨by decide, by decide⟩ (fun c55_30 => ?_) (fun c55_30 => ?_)
    · omega
    · refine sx_aload_n d_M_goesWith_58 rfl ?_
      refine sx_iload_n d_M_goesWith_59 rfl ?_
      refine sx_iload_n d_M_goesWith_60 rfl ?_
      refine sx_iload_n d_M_goesWith_61 rfl ?_
      refine sx_iload d_M_goesWith_62 rfl ?_
      refine sx_callV (c_M_ca M nc nw nb hM M2 M2s M2R sl hsla a hwa s d hsa hL sm2 hslb b hwb t e hsb hK) d_M_goesWith_64 cd_M_comesAfter lk_M_130 im_M_comesAfter se_M_comesAfter (go rfl rfl rfl) rfl rfl (by decide) (st := []) rfl rfl (Nat.le_of_ble_eq_true rfl) ⟨by decide, Nat.le_refl _, Nat.le_refl _⟩ (fun _ _ hq => ?_)
      obtain ⟨z79, rfl, z79b, z79i, rfl⟩ := hq
      show sx_V _ _ _ _ (0, 0) _ _ [.inl z79] (gm M2) _
      refine sx_if_eq (tgt := 86) d_M_goesWith_67 (by decide) (by omega) (fun c67_40 => ?_) (fun c67_40 => ?_)
      · refine sx_iconst d_M_goesWith_86 ?_
        refine sx_retI d_M_goesWith_87 (Or.inr ⟨rfl, by first | exact Or.inl rfl | exact Or.inr rfl | omega⟩) ⟨Nat.zero_le _, Nat.zero_le _⟩ ?_
        refine ⟨_, rfl, Or.inl rfl, ⟨fun k => absurd k (by decide), fun k => ?_⟩, rfl⟩
        obtain ⟨k1, k2, k3⟩ := k
        exfalso
        first | omega | (have := z79i.mpr k2; omega) | (have := z79i.mpr k3; omega)
      · refine sx_aload_n d_M_goesWith_70 rfl ?_
        refine sx_iload_n d_M_goesWith_71 rfl ?_
        refine sx_iload d_M_goesWith_72 rfl ?_
        refine sx_iload_n d_M_goesWith_74 rfl ?_
        refine sx_iload_n d_M_goesWith_75 rfl ?_
        refine sx_callV (c_M_ca M nc nw nb hM M2 M2s M2R sm2 hslb b hwb t e hsb hK sl hsla a hwa s d hsa hL) d_M_goesWith_76 cd_M_comesAfter lk_M_130 im_M_comesAfter se_M_comesAfter (go rfl rfl rfl) rfl rfl (by decide) (st := []) rfl rfl (Nat.le_of_ble_eq_true rfl) ⟨by decide, Nat.le_refl _, Nat.le_refl _⟩ (fun _ _ hq => ?_)
        obtain ⟨z80, rfl, z80b, z80i, rfl⟩ := hq
        show sx_V _ _ _ _ (0, 0) _ _ [.inl z80] (gm M2) _
        refine sx_if_eq (tgt := 86) d_M_goesWith_79 (by decide) (by omega) (fun c79_55 => ?_) (fun c79_55 => ?_)
        · refine sx_iconst d_M_goesWith_86 ?_
          refine sx_retI d_M_goesWith_87 (Or.inr ⟨rfl, by first | exact Or.inl rfl | exact Or.inr rfl | omega⟩) ⟨Nat.zero_le _, Nat.zero_le _⟩ ?_
          refine ⟨_, rfl, Or.inl rfl, ⟨fun k => absurd k (by decide), fun k => ?_⟩, rfl⟩
          obtain ⟨k1, k2, k3⟩ := k
          exfalso
          first | omega | (have := z79i.mpr k2; omega) | (have := z80i.mpr k3; omega)
        · refine sx_iconst d_M_goesWith_82 ?_
          refine sx_goto (tgt := 87) d_M_goesWith_83 (by decide) ?_
          refine sx_retI d_M_goesWith_87 (Or.inr ⟨rfl, by first | exact Or.inl rfl | exact Or.inr rfl | omega⟩) ⟨Nat.zero_le _, Nat.zero_le _⟩ ?_
          refine ⟨_, rfl, Or.inr rfl, ⟨fun _ => ⟨by omega, z79i.mp (by omega), z80i.mp (by omega)⟩, fun _ => rfl⟩, rfl⟩
  · refine sx_aload_n d_M_goesWith_16 rfl ?_
    refine sx_getR (r := some (74)) d_M_goesWith_17 fl_M_77 (go rfl rfl rfl) (by decide) (by decide) (by decide) rfl ?_
    refine sx_iload_n d_M_goesWith_20 rfl ?_
    refine sx_iald (z := (eT M a s)) d_M_goesWith_21 (go rfl rfl rfl) (by omega) (by omega) (by decide) hL.2.2.1 ?_
    refine sx_aload_n d_M_goesWith_22 rfl ?_
    refine sx_getR (r := some (72)) d_M_goesWith_23 fl_M_71 (go rfl rfl rfl) (by decide) (by decide) (by decide) rfl ?_
    refine sx_iload_n d_M_goesWith_26 rfl ?_
    refine sx_iald (z := t) d_M_goesWith_27 (go rfl rfl rfl) (by omega) (by omega) (by decide) hK.1 ?_
    refine sx_icmp_le (tgt := 46) d_M_goesWith_28 (by decide) (by omega) (by omega) (fun c28_74 => ?_) (fun c28_74 => ?_)
    · refine sx_iconst d_M_goesWith_46 ?_
      refine sx_goto (tgt := 51) d_M_goesWith_47 (by decide) ?_
      refine sx_istore (l' := [some (sx_p 51), some (.inl (sl : Int)), some (.inl (a : Int)), some (.inl (sm2 : Int)), some (.inl (b : Int)), some (.inl 1)]) d_M_goesWith_51 (by decide) rfl rfl ?_
      refine sx_iload d_M_goesWith_53 rfl ?_
      refine sx_if_eq (tgt := 86) d_M_goesWith_55 (by decide) ⟨by decide, by decide⟩ (fun c55_79 => ?_) (fun c55_79 => ?_)
      · omega
      · refine sx_aload_n d_M_goesWith_58 rfl ?_
        refine sx_iload_n d_M_goesWith_59 rfl ?_
        refine sx_iload_n d_M_goesWith_60 rfl ?_
        refine sx_iload_n d_M_goesWith_61 rfl ?_
        refine sx_iload d_M_goesWith_62 rfl ?_
        refine sx_callV (c_M_ca M nc nw nb hM M2 M2s M2R sl hsla a hwa s d hsa hL sm2 hslb b hwb t e hsb hK) d_M_goesWith_64 cd_M_comesAfter lk_M_130 im_M_comesAfter se_M_comesAfter (go rfl rfl rfl) rfl rfl (by decide) (st := []) rfl rfl (Nat.le_of_ble_eq_true rfl) ⟨by decide, Nat.le_refl _, Nat.le_refl _⟩ (fun _ _ hq => ?_)
        obtain ⟨z81, rfl, z81b, z81i, rfl⟩ := hq
        show sx_V _ _ _ _ (0, 0) _ _ [.inl z81] (gm M2) _
        refine sx_if_eq (tgt := 86) d_M_goesWith_67 (by decide) (by omega) (fun c67_89 => ?_) (fun c67_89 => ?_)
        · refine sx_iconst d_M_goesWith_86 ?_
          refine sx_retI d_M_goesWith_87 (Or.inr ⟨rfl, by first | exact Or.inl rfl | exact Or.inr rfl | omega⟩) ⟨Nat.zero_le _, Nat.zero_le _⟩ ?_
          refine ⟨_, rfl, Or.inl rfl, ⟨fun k => absurd k (by decide), fun k => ?_⟩, rfl⟩
          obtain ⟨k1, k2, k3⟩ := k
          exfalso
          first | omega | (have := z81i.mpr k2; omega) | (have := z81i.mpr k3; omega)
        · refine sx_aload_n d_M_goesWith_70 rfl ?_
          refine sx_iload_n d_M_goesWith_71 rfl ?_
          refine sx_iload d_M_goesWith_72 rfl ?_
          refine sx_iload_n d_M_goesWith_74 rfl ?_
          refine sx_iload_n d_M_goesWith_75 rfl ?_
          refine sx_callV (c_M_ca M nc nw nb hM M2 M2s M2R sm2 hslb b hwb t e hsb hK sl hsla a hwa s d hsa hL) d_M_goesWith_76 cd_M_comesAfter lk_M_130 im_M_comesAfter se_M_comesAfter (go rfl rfl rfl) rfl rfl (by decide) (st := []) rfl rfl (Nat.le_of_ble_eq_true rfl) ⟨by decide, Nat.le_refl _, Nat.le_refl _⟩ (fun _ _ hq => ?_)
          obtain ⟨z82, rfl, z82b, z82i, rfl⟩ := hq
          show sx_V _ _ _ _ (0, 0) _ _ [.inl z82] (gm M2) _
          refine sx_if_eq (tgt := 86) d_M_goesWith_79 (by decide) (by omega) (fun c79_104 => ?_) (fun c79_104 => ?_)
          · refine sx_iconst d_M_goesWith_86 ?_
            refine sx_retI d_M_goesWith_87 (Or.inr ⟨rfl, by first | exact Or.inl rfl | exact Or.inr rfl | omega⟩) ⟨Nat.zero_le _, Nat.zero_le _⟩ ?_
            refine ⟨_, rfl, Or.inl rfl, ⟨fun k => absurd k (by decide), fun k => ?_⟩, rfl⟩
            obtain ⟨k1, k2, k3⟩ := k
            exfalso
            first | omega | (have := z81i.mpr k2; omega) | (have := z82i.mpr k3; omega)
          · refine sx_iconst d_M_goesWith_82 ?_
            refine sx_goto (tgt := 87) d_M_goesWith_83 (by decide) ?_
            refine sx_retI d_M_goesWith_87 (Or.inr ⟨rfl, by first | exact Or.inl rfl | exact Or.inr rfl | omega⟩) ⟨Nat.zero_le _, Nat.zero_le _⟩ ?_
            refine ⟨_, rfl, Or.inr rfl, ⟨fun _ => ⟨by omega, z81i.mp (by omega), z82i.mp (by omega)⟩, fun _ => rfl⟩, rfl⟩
    · refine sx_aload_n d_M_goesWith_31 rfl ?_
      refine sx_getR (r := some (74)) d_M_goesWith_32 fl_M_77 (go rfl rfl rfl) (by decide) (by decide) (by decide) rfl ?_
      refine sx_iload_n d_M_goesWith_35 rfl ?_
      refine sx_iald (z := (eT M b t)) d_M_goesWith_36 (go rfl rfl rfl) (by omega) (by omega) (by decide) hK.2.2.1 ?_
      refine sx_aload_n d_M_goesWith_37 rfl ?_
      refine sx_getR (r := some (72)) d_M_goesWith_38 fl_M_71 (go rfl rfl rfl) (by decide) (by decide) (by decide) rfl ?_
      refine sx_iload_n d_M_goesWith_41 rfl ?_
      refine sx_iald (z := s) d_M_goesWith_42 (go rfl rfl rfl) (by omega) (by omega) (by decide) hL.1 ?_
      refine sx_icmp_gt (tgt := 50) d_M_goesWith_43 (by decide) (by omega) (by omega) (fun c43_123 => ?_) (fun c43_123 => ?_)
      · refine sx_iconst d_M_goesWith_50 ?_
        refine sx_istore (l' := [some (sx_p 51), some (.inl (sl : Int)), some (.inl (a : Int)), some (.inl (sm2 : Int)), some (.inl (b : Int)), some (.inl 0)]) d_M_goesWith_51 (by decide) rfl rfl ?_
        refine sx_iload d_M_goesWith_53 rfl ?_
        refine sx_if_eq (tgt := 86) d_M_goesWith_55 (by decide) ⟨by decide, by decide⟩ (fun c55_127 => ?_) (fun c55_127 => ?_)
        · refine sx_iconst d_M_goesWith_86 ?_
          refine sx_retI d_M_goesWith_87 (Or.inr ⟨rfl, by first | exact Or.inl rfl | exact Or.inr rfl | omega⟩) ⟨Nat.zero_le _, Nat.zero_le _⟩ ?_
          refine ⟨_, rfl, Or.inl rfl, ⟨fun k => absurd k (by decide), fun k => ?_⟩, rfl⟩
          obtain ⟨k1, k2, k3⟩ := k
          exfalso
          first | omega | (have := z81i.mpr k2; omega) | (have := z82i.mpr k3; omega)
        · omega
      · refine sx_iconst d_M_goesWith_46 ?_
        refine sx_goto (tgt := 51) d_M_goesWith_47 (by decide) ?_
        refine sx_istore (l' := [some (sx_p 51), some (.inl (sl : Int)), some (.inl (a : Int)), some (.inl (sm2 : Int)), some (.inl (b : Int)), some (.inl 1)]) d_M_goesWith_51 (by decide) rfl rfl ?_
        refine sx_iload d_M_goesWith_53 rfl ?_
        refine sx_if_eq (tgt := 86) d_M_goesWith_55 (by decide) ⟨by decide, by decide⟩ (fun c55_139 => ?_) (fun c55_139 => ?_)
        · omega
        · refine sx_aload_n d_M_goesWith_58 rfl ?_
          refine sx_iload_n d_M_goesWith_59 rfl ?_
          refine sx_iload_n d_M_goesWith_60 rfl ?_
          refine sx_iload_n d_M_goesWith_61 rfl ?_
          refine sx_iload d_M_goesWith_62 rfl ?_
          refine sx_callV (c_M_ca M nc nw nb hM M2 M2s M2R sl hsla a hwa s d hsa hL sm2 hslb b hwb t e hsb hK) d_M_goesWith_64 cd_M_comesAfter lk_M_130 im_M_comesAfter se_M_comesAfter (go rfl rfl rfl) rfl rfl (by decide) (st := []) rfl rfl (Nat.le_of_ble_eq_true rfl) ⟨by decide, Nat.le_refl _, Nat.le_refl _⟩ (fun _ _ hq => ?_)
          obtain ⟨z83, rfl, z83b, z83i, rfl⟩ := hq
          show sx_V _ _ _ _ (0, 0) _ _ [.inl z83] (gm M2) _
          refine sx_if_eq (tgt := 86) d_M_goesWith_67 (by decide) (by omega) (fun c67_149 => ?_) (fun c67_149 => ?_)
          · refine sx_iconst d_M_goesWith_86 ?_
            refine sx_retI d_M_goesWith_87 (Or.inr ⟨rfl, by first | exact Or.inl rfl | exact Or.inr rfl | omega⟩) ⟨Nat.zero_le _, Nat.zero_le _⟩ ?_
            refine ⟨_, rfl, Or.inl rfl, ⟨fun k => absurd k (by decide), fun k => ?_⟩, rfl⟩
            obtain ⟨k1, k2, k3⟩ := k
            exfalso
            first | omega | (have := z83i.mpr k2; omega) | (have := z83i.mpr k3; omega)
          · refine sx_aload_n d_M_goesWith_70 rfl ?_
            refine sx_iload_n d_M_goesWith_71 rfl ?_
            refine sx_iload d_M_goesWith_72 rfl ?_
            refine sx_iload_n d_M_goesWith_74 rfl ?_
            refine sx_iload_n d_M_goesWith_75 rfl ?_
            refine sx_callV (c_M_ca M nc nw nb hM M2 M2s M2R sm2 hslb b hwb t e hsb hK sl hsla a hwa s d hsa hL) d_M_goesWith_76 cd_M_comesAfter lk_M_130 im_M_comesAfter se_M_comesAfter (go rfl rfl rfl) rfl rfl (by decide) (st := []) rfl rfl (Nat.le_of_ble_eq_true rfl) ⟨by decide, Nat.le_refl _, Nat.le_refl _⟩ (fun _ _ hq => ?_)
            obtain ⟨z84, rfl, z84b, z84i, rfl⟩ := hq
            show sx_V _ _ _ _ (0, 0) _ _ [.inl z84] (gm M2) _
            refine sx_if_eq (tgt := 86) d_M_goesWith_79 (by decide) (by omega) (fun c79_164 => ?_) (fun c79_164 => ?_)
            · refine sx_iconst d_M_goesWith_86 ?_
              refine sx_retI d_M_goesWith_87 (Or.inr ⟨rfl, by first | exact Or.inl rfl | exact Or.inr rfl | omega⟩) ⟨Nat.zero_le _, Nat.zero_le _⟩ ?_
              refine ⟨_, rfl, Or.inl rfl, ⟨fun k => absurd k (by decide), fun k => ?_⟩, rfl⟩
              obtain ⟨k1, k2, k3⟩ := k
              exfalso
              first | omega | (have := z83i.mpr k2; omega) | (have := z84i.mpr k3; omega)
            · refine sx_iconst d_M_goesWith_82 ?_
              refine sx_goto (tgt := 87) d_M_goesWith_83 (by decide) ?_
              refine sx_retI d_M_goesWith_87 (Or.inr ⟨rfl, by first | exact Or.inl rfl | exact Or.inr rfl | omega⟩) ⟨Nat.zero_le _, Nat.zero_le _⟩ ?_
              refine ⟨_, rfl, Or.inr rfl, ⟨fun _ => ⟨by omega, z83i.mp (by omega), z84i.mp (by omega)⟩, fun _ => rfl⟩, rfl⟩
set_option maxRecDepth 100000 in
set_option maxHeartbeats 4000000 in
theorem c_M_un {L : Nat} {xs : Nat → Int32} (M : Nat → Nat → Int) (nc nw nb : Nat) (hM : MR M nc nw nb) (M2 : Nat → Nat → Int) (M2s : sf M M2) (M2R : IR M2) (sl : Nat) (hsl : sl < 7) (w : Nat) (hw : w < nw) (s d : Int) (hs : 0 ≤ s ∧ s ≤ 1000) (hL : laid M w sl s d M2) (day : Int) (hday : sx_r day) : sx_R y_M_isUnder (1, 0, 0) L xs [sx_p 51, .inl (sl : Int), .inl day] (gm M2) (fun v h2 => ∃ z, v = some (.inl z) ∧ (z = 0 ∨ z = 1) ∧ (z = 1 ↔ s ≤ day ∧ day < eT M w s ∧ dr M day.toNat = false) ∧ h2 = gm M2) := by
  have hW := (hM.ws w hw).1
  obtain ⟨a1, a2, a3, a4, a5, a6⟩ := id hW
  obtain ⟨s1, s2, s3, s4, s5, s6⟩ := (hM.ws w hw).2.1
  have w6 := hM.w6
  have b8 := hM.b8
  have er := eT_r hW (s := s) hs
  refine sx_enter rfl (Nat.le_of_ble_eq_true rfl) rfl ?_
  show sx_V y_M_isUnder (1, 0, 0) L xs (0, 0) 0 [some (sx_p 51), some (.inl (sl : Int)), some (.inl day)] [] (gm M2) _
  refine sx_iload_n d_M_isUnder_0 rfl ?_
  refine sx_aload_n d_M_isUnder_1 rfl ?_
  refine sx_getR (r := some (72)) d_M_isUnder_2 fl_M_71 (go rfl rfl rfl) (by decide) (by decide) (by decide) rfl ?_
  refine sx_iload_n d_M_isUnder_5 rfl ?_
  refine sx_iald (z := s) d_M_isUnder_6 (go rfl rfl rfl) (by omega) (by omega) (by decide) hL.1 ?_
  refine sx_icmp_lt (tgt := 32) d_M_isUnder_7 (by decide) (by omega) (by omega) (fun c7_16 => ?_) (fun c7_16 => ?_)
  · refine sx_iconst d_M_isUnder_32 ?_
    refine sx_retI d_M_isUnder_33 (Or.inr ⟨rfl, by first | exact Or.inl rfl | exact Or.inr rfl | omega⟩) ⟨Nat.zero_le _, Nat.zero_le _⟩ ?_
    refine ⟨_, rfl, Or.inl rfl, ⟨fun k => absurd k (by decide), fun k => ?_⟩, rfl⟩
    obtain ⟨k1, k2, k3⟩ := k
    exfalso
    first | omega
  · refine sx_iload_n d_M_isUnder_10 rfl ?_
    refine sx_aload_n d_M_isUnder_11 rfl ?_
    refine sx_getR (r := some (74)) d_M_isUnder_12 fl_M_77 (go rfl rfl rfl) (by decide) (by decide) (by decide) rfl ?_
    refine sx_iload_n d_M_isUnder_15 rfl ?_
    refine sx_iald (z := (eT M w s)) d_M_isUnder_16 (go rfl rfl rfl) (by omega) (by omega) (by decide) hL.2.2.1 ?_
    refine sx_icmp_ge (tgt := 32) d_M_isUnder_17 (by decide) (by omega) (by omega) (fun c17_28 => ?_) (fun c17_28 => ?_)
    · refine sx_iconst d_M_isUnder_32 ?_
      refine sx_retI d_M_isUnder_33 (Or.inr ⟨rfl, by first | exact Or.inl rfl | exact Or.inr rfl | omega⟩) ⟨Nat.zero_le _, Nat.zero_le _⟩ ?_
      refine ⟨_, rfl, Or.inl rfl, ⟨fun k => absurd k (by decide), fun k => ?_⟩, rfl⟩
      obtain ⟨k1, k2, k3⟩ := k
      exfalso
      first | omega
    · refine sx_aload_n d_M_isUnder_20 rfl ?_
      refine sx_iload_n d_M_isUnder_21 rfl ?_
      refine sx_callV (c_M_isRest M nc nw nb hM M2 M2s day (by omega)) d_M_isUnder_22 cd_M_isRest lk_M_123 im_M_isRest se_M_isRest (go rfl rfl rfl) rfl rfl (by decide) (st := []) rfl rfl (Nat.le_of_ble_eq_true rfl) ⟨by decide, Nat.le_refl _, Nat.le_refl _⟩ (fun _ _ hq => ?_)
      obtain ⟨z85, rfl, z85b, z85i, rfl⟩ := hq
      show sx_V _ _ _ _ (0, 0) _ _ [.inl z85] (gm M2) _
      refine sx_if_ne (tgt := 32) d_M_isUnder_25 (by decide) (by omega) (fun c25_40 => ?_) (fun c25_40 => ?_)
      · refine sx_iconst d_M_isUnder_32 ?_
        refine sx_retI d_M_isUnder_33 (Or.inr ⟨rfl, by first | exact Or.inl rfl | exact Or.inr rfl | omega⟩) ⟨Nat.zero_le _, Nat.zero_le _⟩ ?_
        refine ⟨_, rfl, Or.inl rfl, ⟨fun k => absurd k (by decide), fun k => ?_⟩, rfl⟩
        obtain ⟨k1, k2, k3⟩ := k
        exfalso
        first | omega | (have := (z85i.mp (by omega)).2; rw [k3] at this; exact absurd this (by decide))
      · refine sx_iconst d_M_isUnder_28 ?_
        refine sx_goto (tgt := 33) d_M_isUnder_29 (by decide) ?_
        refine sx_retI d_M_isUnder_33 (Or.inr ⟨rfl, by first | exact Or.inl rfl | exact Or.inr rfl | omega⟩) ⟨Nat.zero_le _, Nat.zero_le _⟩ ?_
        refine ⟨_, rfl, Or.inr rfl, ⟨fun _ => ⟨by omega, by omega, ?_⟩, fun _ => rfl⟩, rfl⟩
        cases q : dr M day.toNat
        · rfl
        · exact absurd (z85i.mpr ⟨by omega, q⟩) (by omega)
