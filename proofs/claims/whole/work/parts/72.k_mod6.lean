set_option maxRecDepth 100000 in
set_option maxHeartbeats 4000000 in
theorem l_M_s144 {L : Nat} {xs : Nat → Int32} (M : Nat → Nat → Int) (nw : Nat) (h6 : nw ≤ 6) (g ag lvl k4 : Int) (M4 : Nat → Nat → Int) (M4R : IR M4) (hw : M4 51 2 = (nw : Int)) (post : Option sx_v → sx_h → Prop) (hc : ∀ (M5 : Nat → Nat → Int) (x5 : Option sx_v), (∀ a k, a ≠ 78 → a ≠ 79 → M5 a k = M4 a k) → IR M5 → (∀ j, j < nw → M5 78 j = M4 72 j ∧ M5 79 j = M4 73 j) → sx_V y_M_search (4, 0, 0) L xs (0, 0) 200 [some (sx_p 51), some (.inl g), some (.inl ag), some (.inl lvl), some (.inl k4), x5] [] (gm M5) post) : ∀ (n i : Nat) (M5 : Nat → Nat → Int), nw - i < n → i ≤ nw → (∀ a k, a ≠ 78 → a ≠ 79 → M5 a k = M4 a k) → IR M5 → (∀ j, j < i → M5 78 j = M4 72 j ∧ M5 79 j = M4 73 j) → sx_V y_M_search (4, 0, 0) L xs (0, 0) 144 [some (sx_p 51), some (.inl g), some (.inl ag), some (.inl lvl), some (.inl k4), some (.inl (i : Int))] [] (gm M5) (post) := by
  intro n
  induction n with
  | zero => intro i M5 h1 h2; omega
  | succ n ih =>
    intro i M5 hn hi hfr M5R hcp
    refine sx_iload d_M_search_144 rfl ?_
    refine sx_aload_n d_M_search_146 rfl ?_
    refine sx_getI (z := (nw : Int)) d_M_search_147 fl_M_95 (go rfl rfl rfl) (by decide) (by decide) (by decide) ((hfr 51 2 (by decide) (by decide)).trans hw) ?_
    refine sx_icmp_ge (tgt := 187) d_M_search_150 (by decide) (by omega) (by omega) (fun c150_11 => ?_) (fun c150_11 => ?_)
    · refine sx_goto (tgt := 200) d_M_search_187 (by decide) ?_
      have e0 : i = nw := by omega
      subst e0
      exact hc M5 _ hfr M5R hcp
    · refine sx_aload_n d_M_search_153 rfl ?_
      refine sx_getR (r := some (78)) d_M_search_154 fl_M_89 (go rfl rfl rfl) (by decide) (by decide) (by decide) rfl ?_
      refine sx_iload d_M_search_157 rfl ?_
      refine sx_aload_n d_M_search_159 rfl ?_
      refine sx_getR (r := some (72)) d_M_search_160 fl_M_71 (go rfl rfl rfl) (by decide) (by decide) (by decide) rfl ?_
      refine sx_iload d_M_search_163 rfl ?_
      refine sx_iald (z := (M4 72 i)) d_M_search_165 (go rfl rfl rfl) (by omega) (by omega) (by decide) (hfr 72 i (by decide) (by decide)) ?_
      refine sx_iast (h2 := gm (sx_u M5 78 i (M4 72 i))) d_M_search_166 (go rfl rfl rfl) (by omega) (by omega) (by decide) rfl ?_
      refine sx_aload_n d_M_search_167 rfl ?_
      refine sx_getR (r := some (79)) d_M_search_168 fl_M_92 (go rfl rfl rfl) (by decide) (by decide) (by decide) rfl ?_
      refine sx_iload d_M_search_171 rfl ?_
      refine sx_aload_n d_M_search_173 rfl ?_
      refine sx_getR (r := some (73)) d_M_search_174 fl_M_74 (go rfl rfl rfl) (by decide) (by decide) (by decide) rfl ?_
      refine sx_iload d_M_search_177 rfl ?_
      refine sx_iald (z := (M4 73 i)) d_M_search_179 (go rfl rfl rfl) (by omega) (by omega) (by decide) (hfr 73 i (by decide) (by decide)) ?_
      refine sx_iast (h2 := gm (sx_u (sx_u M5 78 i (M4 72 i)) 79 i (M4 73 i))) d_M_search_180 (go rfl rfl rfl) (by omega) (by omega) (by decide) rfl ?_
      refine sx_iinc (l' := [some (sx_p 51), some (.inl g), some (.inl ag), some (.inl lvl), some (.inl k4), some (.inl ((i : Int) + 1))]) d_M_search_181 rfl (by decide) rfl rfl ?_
      refine sx_goto (tgt := 144) d_M_search_184 (by decide) ?_
      have e1 : ((i : Int) + 1) = ((i + 1 : Nat) : Int) := by omega
      rw [e1]
      refine ih (i + 1) _ (by omega) (by omega) (fun a k h1 h2 => by rw [sx_u_ne h2, sx_u_ne h1]; exact hfr a k h1 h2) ((M5R.u _ _ (M4R _ _)).u _ _ (M4R _ _)) (fun j hj => ?_)
      by_cases q : j = i
      · subst q; exact ⟨by rw [sx_u_ne (by decide), sx_us], by rw [sx_us]⟩
      · rw [sx_uk q, sx_uk q, sx_uk q, sx_uk q]; exact hcp j (by omega)
set_option maxRecDepth 100000 in
set_option maxHeartbeats 4000000 in
theorem l_M_s200 {L : Nat} {xs : Nat → Int32} (M : Nat → Nat → Int) (nc nw nb : Nat) (hM : MR M nc nw nb) (ag : Int) (hag : ag = 0 ∨ ag = 1) (hag7 : ag ≠ 0 → M 1 7 ≠ 0) (g : Int) (hg : 1 ≤ g ∧ g ≤ 20000) (F : (Int × sB) × Bool) (S0 D0 : Nat → Int) (Mz : Nat → Nat → Int) (n : Nat) (hK : ∀ (l : Nat) (cs cd : Nat → Int) (nt : Nat → Nat) (x : Int) (b : sB) (M2 : Nat → Nat → Int) (x4 x5 : Option sx_v), (g - x).toNat < n → INV M ag g nw nb F S0 D0 l cs cd nt x b M2 → lwf Mz M2 → (∀ m, l = m + 1 → nt m < trs M m) → sx_V y_M_search (4, 0, 0) L xs (0, 0) 43 [some (sx_p 51), some (.inl g), some (.inl ag), some (.inl ((l : Int) - 1)), x4, x5] [] (gm M2) (fun v h2 => v = none ∧ ∃ M3, h2 = gm M3 ∧ sf M M3 ∧ IR M3 ∧ lwf Mz M3 ∧ M3 51 26 = F.1.1 ∧ M3 51 25 = (if F.2 = true then 0 else 1) ∧ eb2 M ag nw M3 F.1.2)) : ∀ (l : Nat) (cs cd : Nat → Int) (nt : Nat → Nat) (x : Int) (b : sB) (M2 : Nat → Nat → Int) (x4 x5 : Option sx_v), (g - x).toNat < n → INV M ag g nw nb F S0 D0 l cs cd nt x b M2 → lwf Mz M2 → sx_V y_M_search (4, 0, 0) L xs (0, 0) 200 [some (sx_p 51), some (.inl g), some (.inl ag), some (.inl ((l : Int) - 1)), x4, x5] [] (gm M2) (fun v h2 => v = none ∧ ∃ M3, h2 = gm M3 ∧ sf M M3 ∧ IR M3 ∧ lwf Mz M3 ∧ M3 51 26 = F.1.1 ∧ M3 51 25 = (if F.2 = true then 0 else 1) ∧ eb2 M ag nw M3 F.1.2) := by
  have w6 := hM.w6
  intro l
  induction l with
  | zero =>
    intro cs cd nt x b M2 x4 x5 hx hI hlo
    have e : (((0 : Nat) : Int) - 1) = -1 := by omega
    rw [e]
    refine sx_iload_n d_M_search_200 rfl ?_
    refine sx_if_lt (tgt := 224) d_M_search_201 (by decide) ⟨by decide, by decide⟩ (fun c201_1 => ?_) (fun c201_1 => ?_)
    · refine sx_goto (tgt := 43) d_M_search_224 (by decide) ?_
      have q := hK 0 cs cd nt x b M2 x4 x5 hx hI hlo (fun m hm => absurd hm (by omega))
      rw [e] at q
      exact q
    · omega
  | succ m ih =>
    intro cs cd nt x b M2 x4 x5 hx hI hlo
    have e : (((m + 1 : Nat) : Int) - 1) = (m : Int) := by omega
    rw [e]
    have l6 := hI.2.2.2.2.2.1
    have ntr := (hI.2.2.2.2.2.2.1 m (by omega)).2
    have tr0 := trs_r M m
    refine sx_iload_n d_M_search_200 rfl ?_
    refine sx_if_lt (tgt := 224) d_M_search_201 (by decide) (by omega) (fun c201_1 => ?_) (fun c201_1 => ?_)
    · omega
    · refine sx_aload_n d_M_search_204 rfl ?_
      refine sx_getR (r := some (77)) d_M_search_205 fl_M_86 (go rfl rfl rfl) (by decide) (by decide) (by decide) rfl ?_
      refine sx_iload_n d_M_search_208 rfl ?_
      refine sx_iald (z := (nt m : Int)) d_M_search_209 (go rfl rfl rfl) (by omega) (by omega) (by decide) (hI.2.2.2.2.2.2.1 m (by omega)).1 ?_
      refine sx_aload_n d_M_search_210 rfl ?_
      refine sx_iload_n d_M_search_211 rfl ?_
      refine sx_callV (c_M_tries M nc nw nb hM M2 hI.1 hI.2.1 m (by have := hI.2.2.2.2.2.1; omega)) d_M_search_212 cd_M_triesOf lk_M_173 im_M_triesOf se_M_triesOf (go rfl rfl rfl) rfl rfl (by decide) (st := [.inl (nt m : Int)]) rfl rfl (Nat.le_of_ble_eq_true rfl) ⟨by decide, Nat.le_refl _, Nat.le_refl _⟩ (fun _ _ hq => ?_)
      obtain ⟨rfl, rfl⟩ := hq
      show sx_V _ _ _ _ (0, 0) _ _ [.inl (trs M m : Int), .inl (nt m : Int)] (gm M2) _
      have tr := trs_r M m
      refine sx_icmp_ne (tgt := 224) d_M_search_215 (by decide) (by omega) (by omega) (fun c215_13 => ?_) (fun c215_13 => ?_)
      · refine sx_goto (tgt := 43) d_M_search_224 (by decide) ?_
        have q := hK (m + 1) cs cd nt x b M2 x4 x5 hx hI hlo (fun m2 hm => by have e2 : m2 = m := (by omega); rw [e2]; omega)
        rw [e] at q
        exact q
      · refine sx_iinc (l' := [some (sx_p 51), some (.inl g), some (.inl ag), some (.inl ((m : Int) + (-1))), x4, x5]) d_M_search_218 rfl (by decide) rfl rfl ?_
        refine sx_goto (tgt := 200) d_M_search_221 (by decide) ?_
        have e2 : ((m : Int) + (-1)) = (m : Int) - 1 := by omega
        rw [e2]
        exact ih cs cd nt x b M2 x4 x5 hx (hI.pop (by omega)) hlo
set_option maxRecDepth 100000 in
set_option maxHeartbeats 4000000 in
theorem l_M_s43 {L : Nat} {xs : Nat → Int32} (M : Nat → Nat → Int) (nc nw nb : Nat) (hM : MR M nc nw nb) (ag : Int) (hag : ag = 0 ∨ ag = 1) (hag7 : ag ≠ 0 → M 1 7 ≠ 0) (g : Int) (hg : 1 ≤ g ∧ g ≤ 20000) (F : (Int × sB) × Bool) (S0 D0 : Nat → Int) (Mz : Nat → Nat → Int) : ∀ (n : Nat) (l : Nat) (cs cd : Nat → Int) (nt : Nat → Nat) (x : Int) (b : sB) (M2 : Nat → Nat → Int) (x4 x5 : Option sx_v), (g - x).toNat < n → INV M ag g nw nb F S0 D0 l cs cd nt x b M2 → lwf Mz M2 → (∀ m, l = m + 1 → nt m < trs M m) → sx_V y_M_search (4, 0, 0) L xs (0, 0) 43 [some (sx_p 51), some (.inl g), some (.inl ag), some (.inl ((l : Int) - 1)), x4, x5] [] (gm M2) (fun v h2 => v = none ∧ ∃ M3, h2 = gm M3 ∧ sf M M3 ∧ IR M3 ∧ lwf Mz M3 ∧ M3 51 26 = F.1.1 ∧ M3 51 25 = (if F.2 = true then 0 else 1) ∧ eb2 M ag nw M3 F.1.2) := by
  have w6 := hM.w6
  intro n
  induction n with
  | zero => intro l cs cd nt x b M2 x4 x5 hx; omega
  | succ n ihn =>
    intro l cs cd nt x b M2 x4 x5 hx hI hlo hne
    have xr := hI.2.2.2.1
    cases l with
    | zero =>
      have e : (((0 : Nat) : Int) - 1) = -1 := by omega
      rw [e]
      have hF : ((x, b), false) = F := hI.2.2.2.2.2.2.2.2
      refine sx_iload_n d_M_search_43 rfl ?_
      refine sx_if_lt (tgt := 227) d_M_search_44 (by decide) ⟨by decide, by decide⟩ (fun c44_1 => ?_) (fun c44_1 => ?_)
      · refine sx_aload_n d_M_search_227 rfl ?_
        refine sx_iload_n d_M_search_228 rfl ?_
        refine sx_if_ge (tgt := 236) d_M_search_229 (by decide) ⟨by decide, by decide⟩ (fun c229_4 => ?_) (fun c229_4 => ?_)
        · omega
        · refine sx_iconst d_M_search_232 ?_
          refine sx_goto (tgt := 237) d_M_search_233 (by decide) ?_
          refine sx_putI (h2 := gm (sx_u M2 51 25 1)) d_M_search_237 fl_M_180 (go rfl rfl rfl) (by decide) (by decide) (by decide) (fun q hq => Or.inl (nf_M_25 q hq)) (Or.inr ⟨rfl, (Or.inr rfl)⟩) rfl ?_
          refine sx_retV d_M_search_240 rfl ⟨Nat.zero_le _, Nat.zero_le _⟩ ?_
          refine ⟨rfl, (sx_u M2 51 25 1), rfl, hI.1.p (by decide) _, hI.2.1.u _ _ (by omega), hlo.u (by decide) _ _, ?_, ?_, ?_⟩
          · rw [← hF]; exact hI.2.2.1
          · rw [← hF]; rfl
          · rw [← hF]; exact eb2_c hI.2.2.2.2.1 (fun k hk => by rw [sx_uk (by omega)]) (fun k => rfl) (fun k => rfl)
      · omega
    | succ m =>
      have e : (((m + 1 : Nat) : Int) - 1) = (m : Int) := by omega
      rw [e]
      have l6 := hI.2.2.2.2.2.1
      have hnt := hne m rfl
      have tr0 := trs_r M m
      have h200 := l_M_s200 (L := L) (xs := xs) M nc nw nb hM ag hag hag7 g hg F S0 D0 Mz n ihn
      have hc := cnd_r hM (show m < nw by omega) hnt
      refine sx_iload_n d_M_search_43 rfl ?_
      refine sx_if_lt (tgt := 227) d_M_search_44 (by decide) (by omega) (fun c44_1 => ?_) (fun c44_1 => ?_)
      · omega
      · refine sx_aload_n d_M_search_47 rfl ?_
        refine sx_getI (z := x) d_M_search_48 fl_M_170 (go rfl rfl rfl) (by decide) (by decide) (by decide) hI.2.2.1 ?_
        refine sx_iload_n d_M_search_51 rfl ?_
        refine sx_icmp_ge (tgt := 227) d_M_search_52 (by decide) (by omega) (by omega) (fun c52_6 => ?_) (fun c52_6 => ?_)
        · have hF : ((x, b), true) = F := by (rw [← hI.2.2.2.2.2.2.2.2]; exact (rsm_stop m (CC_at hnt) (by omega)).symm)
          refine sx_aload_n d_M_search_227 rfl ?_
          refine sx_iload_n d_M_search_228 rfl ?_
          refine sx_if_ge (tgt := 236) d_M_search_229 (by decide) (by omega) (fun c229_10 => ?_) (fun c229_10 => ?_)
          · refine sx_iconst d_M_search_236 ?_
            refine sx_putI (h2 := gm (sx_u M2 51 25 0)) d_M_search_237 fl_M_180 (go rfl rfl rfl) (by decide) (by decide) (by decide) (fun q hq => Or.inl (nf_M_25 q hq)) (Or.inr ⟨rfl, (Or.inl rfl)⟩) rfl ?_
            refine sx_retV d_M_search_240 rfl ⟨Nat.zero_le _, Nat.zero_le _⟩ ?_
            refine ⟨rfl, (sx_u M2 51 25 0), rfl, hI.1.p (by decide) _, hI.2.1.u _ _ (by omega), hlo.u (by decide) _ _, ?_, ?_, ?_⟩
            · rw [← hF]; exact hI.2.2.1
            · rw [← hF]; rfl
            · rw [← hF]; exact eb2_c hI.2.2.2.2.1 (fun k hk => by rw [sx_uk (by omega)]) (fun k => rfl) (fun k => rfl)
          · omega
        · refine sx_aload_n d_M_search_55 rfl ?_
          refine sx_getR (r := some (77)) d_M_search_56 fl_M_86 (go rfl rfl rfl) (by decide) (by decide) (by decide) rfl ?_
          refine sx_iload_n d_M_search_59 rfl ?_
          refine sx_iald (z := (nt m : Int)) d_M_search_60 (go rfl rfl rfl) (by omega) (by omega) (by decide) (hI.2.2.2.2.2.2.1 m (by omega)).1 ?_
          refine sx_istore (l' := [some (sx_p 51), some (.inl g), some (.inl ag), some (.inl (m : Int)), some (.inl (nt m : Int)), x5]) d_M_search_61 (by decide) rfl rfl ?_
          refine sx_aload_n d_M_search_63 rfl ?_
          refine sx_getR (r := some (77)) d_M_search_64 fl_M_86 (go rfl rfl rfl) (by decide) (by decide) (by decide) rfl ?_
          refine sx_iload_n d_M_search_67 rfl ?_
          refine sx_dup2 rfl rfl d_M_search_68 ?_
          refine sx_iald (z := (nt m : Int)) d_M_search_69 (go rfl rfl rfl) (by omega) (by omega) (by decide) (hI.2.2.2.2.2.2.1 m (by omega)).1 ?_
          refine sx_iconst d_M_search_70 ?_
          refine sx_iadd d_M_search_71 ?_
          refine sx_iast (h2 := gm (sx_u M2 77 m ((nt m : Int) + 1))) d_M_search_72 (go rfl rfl rfl) (by omega) (by omega) (by decide) rfl ?_
          refine sx_aload_n d_M_search_73 rfl ?_
          refine sx_dup rfl d_M_search_74 ?_
          refine sx_getI (z := x) d_M_search_75 fl_M_170 (go rfl rfl rfl) (by decide) (by decide) (by decide) hI.2.2.1 ?_
          refine sx_iconst d_M_search_78 ?_
          refine sx_iadd d_M_search_79 ?_
          refine sx_putI (h2 := gm (sx_u (sx_u M2 77 m ((nt m : Int) + 1)) 51 26 (x + 1))) d_M_search_80 fl_M_170 (go rfl rfl rfl) (by decide) (by decide) (by decide) (fun q hq => Or.inl (nf_M_26 q hq)) (Or.inl rfl) rfl ?_
          refine sx_aload_n d_M_search_83 rfl ?_
          refine sx_iload_n d_M_search_84 rfl ?_
          refine sx_iload d_M_search_85 rfl ?_
          refine sx_iload_n d_M_search_87 rfl ?_
          refine sx_callV (c_M_go M nc nw nb hM (mtr M2 m ((nt m : Int) + 1) (x + 1)) ((hI.1.u (by decide) _ _).p (by decide) _) ((hI.2.1.u _ _ (by omega)).u _ _ (by omega)) m (by omega) (sb S0 cs m) (sb D0 cd m) hI.V (fun j hj => hI.S j hj) ag hag hag7 b (eb2_c hI.2.2.2.2.1 (fun k hk => by unfold mtr; rw [sx_uk (by omega), sx_u_ne (by decide)]) (fun k => rfl) (fun k => rfl)) (nt m) hnt) d_M_search_88 cd_M_goesOn lk_M_176 im_M_goesOn se_M_goesOn (go rfl rfl rfl) rfl rfl (by decide) (st := []) rfl rfl (Nat.le_of_ble_eq_true rfl) ⟨by decide, Nat.le_refl _, Nat.le_refl _⟩ (fun _ _ hq => ?_)
          obtain ⟨z, rfl, zb, zi, M3, rfl, M3f, M3s, M3R, hz1⟩ := hq
          have hl3 : lwf Mz M3 := lwf.t (M1 := (mtr M2 m ((nt m : Int) + 1) (x + 1))) ((hlo.u (a := 77) (by decide) _ _).u (a := 51) (by decide) _ _) M3f.1
          show sx_V _ _ _ _ (0, 0) _ _ [.inl z] (gm M3) _
          refine sx_if_eq (tgt := 200) d_M_search_91 (by decide) (by omega) (fun c91_46 => ?_) (fun c91_46 => ?_)
          · have q := h200 (m + 1) cs cd (nu nt m (nt m + 1)) (x + 1) b M3 (some (.inl (nt m : Int))) x5 (by omega) (hI.no hM.ws M3f M3s M3R hnt (by omega) (fun k => by have := zi.mpr k; omega)) hl3
            rw [e] at q
            exact q
          · refine sx_iload_n d_M_search_94 rfl ?_
            refine sx_aload_n d_M_search_95 rfl ?_
            refine sx_getI (z := (nw : Int)) d_M_search_96 fl_M_95 (go rfl rfl rfl) (by decide) (by decide) (by decide) ((M3s 51 2 (by decide) (by decide) (by omega)).trans hM.mwn) ?_
            refine sx_iconst d_M_search_99 ?_
            refine sx_isub d_M_search_100 ?_
            refine sx_icmp_ne (tgt := 190) d_M_search_101 (by decide) (by omega) (by omega) (fun c101_55 => ?_) (fun c101_55 => ?_)
            · refine sx_iinc (l' := [some (sx_p 51), some (.inl g), some (.inl ag), some (.inl ((m : Int) + 1)), some (.inl (nt m : Int)), x5]) d_M_search_190 rfl (by decide) rfl rfl ?_
              refine sx_aload_n d_M_search_193 rfl ?_
              refine sx_getR (r := some (77)) d_M_search_194 fl_M_86 (go rfl rfl rfl) (by decide) (by decide) (by decide) rfl ?_
              refine sx_iload_n d_M_search_197 rfl ?_
              refine sx_iconst d_M_search_198 ?_
              refine sx_iast (h2 := gm (sx_u M3 77 (Int.toNat ((m : Int) + 1)) 0)) d_M_search_199 (go rfl rfl rfl) (by omega) (by omega) (by decide) rfl ?_
              have e2 : (Int.toNat ((m : Int) + 1)) = m + 1 := by omega
              have q := h200 (m + 1 + 1) _ _ _ (x + 1) b _ (some (.inl (nt m : Int))) x5 (by omega) (hI.deep hM.ws M3f M3s M3R hnt (by omega) (by omega) (zi.mp (by omega)) (hz1 (by omega)).1 ⟨hc.1, hc.2, (hz1 (by omega)).2⟩) (hl3.u (by decide) _ _)
              have e3 : (((m + 1 + 1 : Nat) : Int) - 1) = (m : Int) + 1 := by omega
              rw [e3] at q
              rw [e2]
              exact q
            · have hmn : nw = m + 1 := by omega
              have hz := hz1 (by omega)
              have hV3 : VS M nw (va_up (sb S0 cs m) m (cnd M m (nt m)).1) (va_up (sb D0 cd m) m (cnd M m (nt m)).2) := by (rw [hmn]; exact hI.V.up hc.1 hc.2 hz.2)
              have hS3 : SLt M nw (va_up (sb S0 cs m) m (cnd M m (nt m)).1) (va_up (sb D0 cd m) m (cnd M m (nt m)).2) M3 := fun j hj => by (by_cases q : j = m; (subst q; rw [up_at, up_at]; exact hz.1); (rw [up_lt (by omega), up_lt (by omega), sb_lt (by omega), sb_lt (by omega)]; exact (hI.step hM.ws M3f).2.2.2.2 j (by omega)))
              have ger : sx_r (gE M (va_up (sb S0 cs m) m (cnd M m (nt m)).1) nw) := by (have := gE_r (M := M) (S := (va_up (sb S0 cs m) m (cnd M m (nt m)).1)) nw (fun i hi => ⟨(hM.ws i hi).1, (hV3 i hi).1.1, by have := (hV3 i hi).1.2; omega⟩); omega)
              refine sx_aload_n d_M_search_104 rfl ?_
              refine sx_iconst d_M_search_105 ?_
              refine sx_putI (h2 := gm (sx_u M3 51 33 1)) d_M_search_106 fl_M_144 (go rfl rfl rfl) (by decide) (by decide) (by decide) (fun q hq => Or.inl (nf_M_33 q hq)) (Or.inr ⟨rfl, (Or.inr rfl)⟩) rfl ?_
              refine sx_aload_n d_M_search_109 rfl ?_
              refine sx_aload_n d_M_search_110 rfl ?_
              refine sx_aload_n d_M_search_111 rfl ?_
              refine sx_getI (z := (nw : Int)) d_M_search_112 fl_M_95 (go rfl rfl rfl) (by decide) (by decide) (by decide) ((M3s 51 2 (by decide) (by decide) (by omega)).trans hM.mwn) ?_
              refine sx_callV (c_M_ge M nc nw nb hM (sx_u M3 51 33 1) (M3s.p (by decide) _) (M3R.u _ _ (by omega)) nw (by omega) (va_up (sb S0 cs m) m (cnd M m (nt m)).1) (va_up (sb D0 cd m) m (cnd M m (nt m)).2) hV3 hS3) d_M_search_115 cd_M_greatestEnd lk_M_147 im_M_greatestEnd se_M_greatestEnd (go rfl rfl rfl) rfl rfl (by decide) (st := [sx_p 51]) rfl rfl (Nat.le_of_ble_eq_true rfl) ⟨by decide, Nat.le_refl _, Nat.le_refl _⟩ (fun _ _ hq => ?_)
              obtain ⟨rfl, rfl⟩ := hq
              show sx_V _ _ _ _ (0, 0) _ _ [.inl (gE M (va_up (sb S0 cs m) m (cnd M m (nt m)).1) nw), sx_p 51] (gm (sx_u M3 51 33 1)) _
              refine sx_putI (h2 := gm (sx_u (sx_u M3 51 33 1) 51 34 (gE M (va_up (sb S0 cs m) m (cnd M m (nt m)).1) nw))) d_M_search_118 fl_M_150 (go rfl rfl rfl) (by decide) (by decide) (by decide) (fun q hq => Or.inl (nf_M_34 q hq)) (Or.inl rfl) rfl ?_
              refine sx_aload_n d_M_search_121 rfl ?_
              refine sx_iload_n d_M_search_122 rfl ?_
              refine sx_if_eq (tgt := 137) d_M_search_123 (by decide) (by omega) (fun c123_86 => ?_) (fun c123_86 => ?_)
              · refine sx_iconst d_M_search_137 ?_
                refine sx_putI (h2 := gm (sx_u (sx_u (sx_u M3 51 33 1) 51 34 (gE M (va_up (sb S0 cs m) m (cnd M m (nt m)).1) nw)) 51 35 0)) d_M_search_138 fl_M_156 (go rfl rfl rfl) (by decide) (by decide) (by decide) (fun q hq => Or.inl (nf_M_35 q hq)) (Or.inl rfl) rfl ?_
                refine sx_iconst d_M_search_141 ?_
                refine sx_istore (l' := [some (sx_p 51), some (.inl g), some (.inl ag), some (.inl (m : Int)), some (.inl (nt m : Int)), some (.inl 0)]) d_M_search_142 (by decide) rfl rfl ?_
                have hm : nw = m + 1 := by omega
                have eg : 0 = gV M ag (va_up (sb S0 cs m) m (cnd M m (nt m)).1) (va_up (sb D0 cd m) m (cnd M m (nt m)).2) nw := by (first | rfl | (have e0 : ag = 0 := (by omega); rw [e0]; exact (gV_0 _ _ _ _).symm))
                have em : (sx_u (sx_u (sx_u M3 51 33 1) 51 34 (gE M (va_up (sb S0 cs m) m (cnd M m (nt m)).1) nw)) 51 35 0) = (sx_u (sx_u (sx_u M3 51 33 1) 51 34 (gE M (va_up (sb S0 cs m) m (cnd M m (nt m)).1) nw)) 51 35 (gV M ag (va_up (sb S0 cs m) m (cnd M m (nt m)).1) (va_up (sb D0 cd m) m (cnd M m (nt m)).2) nw)) := congrArg (fun z => sx_u (sx_u (sx_u M3 51 33 1) 51 34 (gE M (va_up (sb S0 cs m) m (cnd M m (nt m)).1) nw)) 51 35 z) eg
                rw [em]
                refine l_M_s144 M nw hM.w6 g ag (m : Int) (nt m : Int) (sx_u (sx_u (sx_u M3 51 33 1) 51 34 (gE M (va_up (sb S0 cs m) m (cnd M m (nt m)).1) nw)) 51 35 (gV M ag (va_up (sb S0 cs m) m (cnd M m (nt m)).1) (va_up (sb D0 cd m) m (cnd M m (nt m)).2) nw)) (((M3R.u _ _ (by omega)).u _ _ ger).u _ _ (by have := gV_r M ag (va_up (sb S0 cs m) m (cnd M m (nt m)).1) (va_up (sb D0 cd m) m (cnd M m (nt m)).2) nw; omega)) ((M3s 51 2 (by decide) (by decide) (by omega)).trans hM.mwn) _ (fun M5 x5b f5 R5 c5 => ?_) (nw + 1) 0 _ (by omega) (by omega) (fun _ _ _ _ => rfl) (((M3R.u _ _ (by omega)).u _ _ ger).u _ _ (by have := gV_r M ag (va_up (sb S0 cs m) m (cnd M m (nt m)).1) (va_up (sb D0 cd m) m (cnd M m (nt m)).2) nw; omega)) (fun j hj => absurd hj (Nat.not_lt_zero _))
                have M5s : sf M M5 := fun a k h1 h2 h3 => (f5 a k (by omega) (by omega)).trans ((((M3s.p (by decide) _).p (by decide) _).p (by decide) _) a k h1 h2 h3)
                have q := h200 (m + 1) cs cd (nu nt m (nt m + 1)) (x + 1) _ M5 (some (.inl (nt m : Int))) x5b (by omega) (hI.leaf hM.ws M3f hnt (by omega) hm (zi.mp (by omega)) hS3 hV3 M5s R5 rfl f5 c5) (fun a k ha => (f5 a k (by omega) (by omega)).trans ((((hl3.u (by decide) _ _).u (by decide) _ _).u (by decide) _ _) a k ha))
                rw [e] at q
                exact q
              · refine sx_aload_n d_M_search_126 rfl ?_
                refine sx_aload_n d_M_search_127 rfl ?_
                refine sx_getI (z := (nw : Int)) d_M_search_128 fl_M_95 (go rfl rfl rfl) (by decide) (by decide) (by decide) ((M3s 51 2 (by decide) (by decide) (by omega)).trans hM.mwn) ?_
                refine sx_callV (c_M_mv M nc nw nb hM (sx_u (sx_u M3 51 33 1) 51 34 (gE M (va_up (sb S0 cs m) m (cnd M m (nt m)).1) nw)) ((M3s.p (by decide) _).p (by decide) _) ((M3R.u _ _ (by omega)).u _ _ ger) nw (by omega) (va_up (sb S0 cs m) m (cnd M m (nt m)).1) (va_up (sb D0 cd m) m (cnd M m (nt m)).2) hV3 hS3 ag (by omega) (hag7 (by omega))) d_M_search_131 cd_M_movedSoFar lk_M_153 im_M_movedSoFar se_M_movedSoFar (go rfl rfl rfl) rfl rfl (by decide) (st := [sx_p 51]) rfl rfl (Nat.le_of_ble_eq_true rfl) ⟨by decide, Nat.le_refl _, Nat.le_refl _⟩ (fun _ _ hq => ?_)
                obtain ⟨rfl, rfl⟩ := hq
                show sx_V _ _ _ _ (0, 0) _ _ [.inl (gV M ag (va_up (sb S0 cs m) m (cnd M m (nt m)).1) (va_up (sb D0 cd m) m (cnd M m (nt m)).2) nw), sx_p 51] (gm (sx_u (sx_u M3 51 33 1) 51 34 (gE M (va_up (sb S0 cs m) m (cnd M m (nt m)).1) nw))) _
                refine sx_goto (tgt := 138) d_M_search_134 (by decide) ?_
                refine sx_putI (h2 := gm (sx_u (sx_u (sx_u M3 51 33 1) 51 34 (gE M (va_up (sb S0 cs m) m (cnd M m (nt m)).1) nw)) 51 35 (gV M ag (va_up (sb S0 cs m) m (cnd M m (nt m)).1) (va_up (sb D0 cd m) m (cnd M m (nt m)).2) nw))) d_M_search_138 fl_M_156 (go rfl rfl rfl) (by decide) (by decide) (by decide) (fun q hq => Or.inl (nf_M_35 q hq)) (Or.inl rfl) rfl ?_
                refine sx_iconst d_M_search_141 ?_
                refine sx_istore (l' := [some (sx_p 51), some (.inl g), some (.inl ag), some (.inl (m : Int)), some (.inl (nt m : Int)), some (.inl 0)]) d_M_search_142 (by decide) rfl rfl ?_
                have hm : nw = m + 1 := by omega
                have eg : (gV M ag (va_up (sb S0 cs m) m (cnd M m (nt m)).1) (va_up (sb D0 cd m) m (cnd M m (nt m)).2) nw) = gV M ag (va_up (sb S0 cs m) m (cnd M m (nt m)).1) (va_up (sb D0 cd m) m (cnd M m (nt m)).2) nw := by (first | rfl | (have e0 : ag = 0 := (by omega); rw [e0]; exact (gV_0 _ _ _ _).symm))
                have em : (sx_u (sx_u (sx_u M3 51 33 1) 51 34 (gE M (va_up (sb S0 cs m) m (cnd M m (nt m)).1) nw)) 51 35 (gV M ag (va_up (sb S0 cs m) m (cnd M m (nt m)).1) (va_up (sb D0 cd m) m (cnd M m (nt m)).2) nw)) = (sx_u (sx_u (sx_u M3 51 33 1) 51 34 (gE M (va_up (sb S0 cs m) m (cnd M m (nt m)).1) nw)) 51 35 (gV M ag (va_up (sb S0 cs m) m (cnd M m (nt m)).1) (va_up (sb D0 cd m) m (cnd M m (nt m)).2) nw)) := congrArg (fun z => sx_u (sx_u (sx_u M3 51 33 1) 51 34 (gE M (va_up (sb S0 cs m) m (cnd M m (nt m)).1) nw)) 51 35 z) eg
                rw [em]
                refine l_M_s144 M nw hM.w6 g ag (m : Int) (nt m : Int) (sx_u (sx_u (sx_u M3 51 33 1) 51 34 (gE M (va_up (sb S0 cs m) m (cnd M m (nt m)).1) nw)) 51 35 (gV M ag (va_up (sb S0 cs m) m (cnd M m (nt m)).1) (va_up (sb D0 cd m) m (cnd M m (nt m)).2) nw)) (((M3R.u _ _ (by omega)).u _ _ ger).u _ _ (by have := gV_r M ag (va_up (sb S0 cs m) m (cnd M m (nt m)).1) (va_up (sb D0 cd m) m (cnd M m (nt m)).2) nw; omega)) ((M3s 51 2 (by decide) (by decide) (by omega)).trans hM.mwn) _ (fun M5 x5b f5 R5 c5 => ?_) (nw + 1) 0 _ (by omega) (by omega) (fun _ _ _ _ => rfl) (((M3R.u _ _ (by omega)).u _ _ ger).u _ _ (by have := gV_r M ag (va_up (sb S0 cs m) m (cnd M m (nt m)).1) (va_up (sb D0 cd m) m (cnd M m (nt m)).2) nw; omega)) (fun j hj => absurd hj (Nat.not_lt_zero _))
                have M5s : sf M M5 := fun a k h1 h2 h3 => (f5 a k (by omega) (by omega)).trans ((((M3s.p (by decide) _).p (by decide) _).p (by decide) _) a k h1 h2 h3)
                have q := h200 (m + 1) cs cd (nu nt m (nt m + 1)) (x + 1) _ M5 (some (.inl (nt m : Int))) x5b (by omega) (hI.leaf hM.ws M3f hnt (by omega) hm (zi.mp (by omega)) hS3 hV3 M5s R5 rfl f5 c5) (fun a k ha => (f5 a k (by omega) (by omega)).trans ((((hl3.u (by decide) _ _).u (by decide) _ _).u (by decide) _ _) a k ha))
                rw [e] at q
                exact q
set_option maxRecDepth 100000 in
set_option maxHeartbeats 4000000 in
theorem c_M_search {L : Nat} {xs : Nat → Int32} (M : Nat → Nat → Int) (nc nw nb : Nat) (hM : MR M nc nw nb) (M2 : Nat → Nat → Int) (M2s : sf M M2) (M2R : IR M2) (ag : Int) (hag : ag = 0 ∨ ag = 1) (hag7 : ag ≠ 0 → M 1 7 ≠ 0) (g : Int) (hg : 1 ≤ g ∧ g ≤ 20000) (h1 : 1 ≤ nw) (S0 D0 : Nat → Int) : sx_R y_M_search (4, 0, 0) L xs [sx_p 51, .inl g, .inl ag] (gm M2) (fun v h2 => v = none ∧ ∃ M3, h2 = gm M3 ∧ sf M M3 ∧ IR M3 ∧ lwf M2 M3 ∧ M3 51 26 = (fs g (GG M ag nw nb) (CC M) nw 0 S0 D0 (0, none)).1.1 ∧ M3 51 25 = (if (fs g (GG M ag nw nb) (CC M) nw 0 S0 D0 (0, none)).2 = true then 0 else 1) ∧ eb2 M ag nw M3 (fs g (GG M ag nw nb) (CC M) nw 0 S0 D0 (0, none)).1.2) := by
  have w6 := hM.w6
  refine sx_enter rfl (Nat.le_of_ble_eq_true rfl) rfl ?_
  show sx_V y_M_search (4, 0, 0) L xs (0, 0) 0 [some (sx_p 51), some (.inl g), some (.inl ag), none, none, none] [] (gm M2) _
  refine sx_aload_n d_M_search_0 rfl ?_
  refine sx_iconst d_M_search_1 ?_
  refine sx_putI (h2 := gm (sx_u M2 51 33 0)) d_M_search_2 fl_M_144 (go rfl rfl rfl) (by decide) (by decide) (by decide) (fun q hq => Or.inl (nf_M_33 q hq)) (Or.inr ⟨rfl, (Or.inl rfl)⟩) rfl ?_
  refine sx_aload_n d_M_search_5 rfl ?_
  refine sx_iconst d_M_search_6 ?_
  refine sx_putI (h2 := gm (sx_u (sx_u M2 51 33 0) 51 26 0)) d_M_search_7 fl_M_170 (go rfl rfl rfl) (by decide) (by decide) (by decide) (fun q hq => Or.inl (nf_M_26 q hq)) (Or.inl rfl) rfl ?_
  refine sx_iconst d_M_search_10 ?_
  refine sx_istore_n (l' := [some (sx_p 51), some (.inl g), some (.inl ag), some (.inl 0), none, none]) d_M_search_11 (by decide) rfl rfl ?_
  refine sx_aload_n d_M_search_12 rfl ?_
  refine sx_getR (r := some (77)) d_M_search_13 fl_M_86 (go rfl rfl rfl) (by decide) (by decide) (by decide) rfl ?_
  refine sx_iconst d_M_search_16 ?_
  refine sx_iconst d_M_search_17 ?_
  refine sx_iast (h2 := gm (sx_u (sx_u (sx_u M2 51 33 0) 51 26 0) 77 0 0)) d_M_search_18 (go rfl rfl rfl) (by omega) (by omega) (by decide) rfl ?_
  refine sx_iload_n d_M_search_19 rfl ?_
  refine sx_if_lt (tgt := 43) d_M_search_20 (by decide) ⟨by decide, by decide⟩ (fun c20_20 => ?_) (fun c20_20 => ?_)
  · omega
  · refine sx_aload_n d_M_search_23 rfl ?_
    refine sx_getR (r := some (77)) d_M_search_24 fl_M_86 (go rfl rfl rfl) (by decide) (by decide) (by decide) rfl ?_
    refine sx_iload_n d_M_search_27 rfl ?_
    refine sx_iald (z := 0) d_M_search_28 (go rfl rfl rfl) (by omega) (by omega) (by decide) rfl ?_
    refine sx_aload_n d_M_search_29 rfl ?_
    refine sx_iload_n d_M_search_30 rfl ?_
    refine sx_callV (c_M_tries M nc nw nb hM (sx_u (sx_u (sx_u M2 51 33 0) 51 26 0) 77 0 0) (((M2s.p (by decide) _).p (by decide) _).u (by decide) _ _) (((M2R.u _ _ (by omega)).u _ _ (by omega)).u _ _ (by omega)) 0 (by omega)) d_M_search_31 cd_M_triesOf lk_M_173 im_M_triesOf se_M_triesOf (go rfl rfl rfl) rfl rfl (by decide) (st := [.inl 0]) rfl rfl (Nat.le_of_ble_eq_true rfl) ⟨by decide, Nat.le_refl _, Nat.le_refl _⟩ (fun _ _ hq => ?_)
    obtain ⟨rfl, rfl⟩ := hq
    show sx_V _ _ _ _ (0, 0) _ _ [.inl (trs M 0 : Int), .inl 0] (gm (sx_u (sx_u (sx_u M2 51 33 0) 51 26 0) 77 0 0)) _
    have tr := trs_r M 0
    refine sx_icmp_ne (tgt := 43) d_M_search_34 (by decide) ⟨by decide, by decide⟩ (by omega) (fun c34_32 => ?_) (fun c34_32 => ?_)
    · have hF : rsm g (GG M ag nw nb) (CC M) nw S0 D0 S0 D0 (fun _ => 0) 1 ((0, none), false) = (fs g (GG M ag nw nb) (CC M) nw 0 S0 D0 (0, none)) := by (obtain ⟨k, rfl⟩ : ∃ k, nw = k + 1 := ⟨nw - 1, by omega⟩; rfl)
      have q := l_M_s43 (L := L) (xs := xs) M nc nw nb hM ag hag hag7 g hg (fs g (GG M ag nw nb) (CC M) nw 0 S0 D0 (0, none)) S0 D0 M2 (g.toNat + 1) 1 S0 D0 (fun _ => 0) 0 none (sx_u (sx_u (sx_u M2 51 33 0) 51 26 0) 77 0 0) none none (by omega) ⟨((M2s.p (by decide) _).p (by decide) _).u (by decide) _ _, ((M2R.u _ _ (by omega)).u _ _ (by omega)).u _ _ (by omega), rfl, by omega, rfl, h1, fun j hj => by (have e0 : j = 0 := (by omega); subst e0; exact ⟨by rw [sx_us]; rfl, Nat.zero_le _⟩), fun j hj => absurd hj (by omega), hF⟩ ((((lwf.rf M2).u (by decide) _ _).u (by decide) _ _).u (by decide) _ _) (fun m hm => by have := trs_r M m; show 0 < trs M m; omega)
      exact q
    · omega
