set_option maxRecDepth 100000 in
set_option maxHeartbeats 4000000 in
theorem c_S_one {L : Nat} {xs : Nat → Int32} (M : Nat → Nat → Int) (ag g : Int) (nw nb : Nat) (hP : PH M nw nb) (hg : 1 ≤ g ∧ g ≤ 20000) (hag : sx_r ag) (l : Nat) (hl : l < nw) (S D : Nat → Int) (hSV : SV l S D) (x : Int) (hx : sx_r x) (b : sB) (M1 : Nat → Nat → Int) (hST : ST M ag g nw l S D ((x, b), false) M1) (s : Int) (hs : 0 ≤ s ∧ s ≤ 99) (d : Nat) (hd : d < 2) (hWN : WN M nb l S D d M1) (k : Nat) (hk : 4 ≤ k) (deep : (Nat → Int) → (Nat → Int) → Int × sB → (Int × sB) × Bool) (hdeep : ∀ (M2 : Nat → Nat → Int) (x4 x5 : Option sx_v), ST M ag g nw (l + 1) (va_up S l s) (va_up D l (d : Int)) ((x + 1, b), false) M2 → sx_V y_S_tryOne (k, 0, 0) L xs (0, 0) 139 [some (sx_p 25), some (.inl (l : Int)), some (.inl s), some (.inl (d : Int)), x4, x5] [] (gm M2) (fun v h2 => v = none ∧ ∃ M3, h2 = gm M3 ∧ ST M ag g nw (l + 1) (va_up S l s) (va_up D l (d : Int)) (deep (va_up S l s) (va_up D l (d : Int)) (x + 1, b)) M3 ∧ wfr (l + 1) M2 M3)) : sx_R y_S_tryOne (k, 0, 0) L xs [sx_p 25, .inl (l : Int), .inl s, .inl (d : Int)] (gm M1) (fun v h2 => v = none ∧ ∃ M3, h2 = gm M3 ∧ ST M ag g nw l S D (one g (GG M ag nw nb l) deep l (s, (d : Int)) S D (x, b)) M3 ∧ wfr (l + 1) M1 M3) := by
  obtain ⟨hI, hRM, hnw, hnw6, hnb, hnb8, hWk, hgp⟩ := id hP
  have hl6 : l < 6 := by omega
  refine sx_enter rfl (Nat.le_of_ble_eq_true rfl) rfl ?_
  show sx_V y_S_tryOne (k, 0, 0) L xs (0, 0) 0 [some (sx_p 25), some (.inl (l : Int)), some (.inl s), some (.inl (d : Int)), none, none] [] (gm M1) _
  refine sx_aload_n d_S_tryOne_0 rfl ?_
  refine sx_getI (z := x) d_S_tryOne_1 fl_S_54 (go rfl rfl rfl) (by decide) (by decide) (by decide) hST.2.2.2.2.1 ?_
  refine sx_aload_n d_S_tryOne_4 rfl ?_
  refine sx_getI (z := g) d_S_tryOne_5 fl_S_50 (go rfl rfl rfl) (by decide) (by decide) (by decide) hST.2.2.2.1 ?_
  refine sx_icmp_lt (tgt := 17) d_S_tryOne_8 (by decide) (by omega) (by omega) (fun c8_11 => ?_) (fun c8_11 => ?_)
  · refine sx_aload_n d_S_tryOne_17 rfl ?_
    refine sx_dup rfl d_S_tryOne_18 ?_
    refine sx_getI (z := x) d_S_tryOne_19 fl_S_54 (go rfl rfl rfl) (by decide) (by decide) (by decide) hST.2.2.2.2.1 ?_
    refine sx_iconst d_S_tryOne_22 ?_
    refine sx_iadd d_S_tryOne_23 ?_
    refine sx_putI (h2 := gm (sx_u M1 25 10 (x + 1))) d_S_tryOne_24 fl_S_54 (go rfl rfl rfl) (by decide) (by decide) (by decide) (fun q hq => Or.inl (nf_S_10 q hq)) (Or.inl rfl) rfl ?_
    have hS2 := hST.done (x := x) (by omega)
    have hone : (one g (GG M ag nw nb l) deep l (s, (d : Int)) S D (x, b)) = (if GG M ag nw nb l (va_up S l s) (va_up D l (d : Int)) b = true then deep (va_up S l s) (va_up D l (d : Int)) (x + 1, b) else ((x + 1, b), false)) := if_neg (by show ¬ g ≤ x; omega)
    rw [hone]
    have hWN2 : WN M nb l S D d (sx_u M1 25 10 (x + 1)) := hWN.keep hd ((wfr.rf _ _).u _ (by decide))
    rcases Nat.eq_zero_or_pos l with h0 | h0
    · refine (t_270 M ag g nw nb hP hg hag l hl h0 S D hSV (x + 1) b _ hS2 s hs d hd hWN2 k hk deep hdeep).mono ?_
      rintro v2 h2 ⟨rfl, M3, rfl, k1, k2⟩
      exact ⟨rfl, M3, rfl, k1, ((wfr.rf (l + 1) M1).u _ (by decide)).tr k2⟩
    · refine (t_27p M ag g nw nb hP hg hag l hl h0 S D hSV (x + 1) b _ hS2 s hs d hd hWN2 k hk deep hdeep).mono ?_
      rintro v2 h2 ⟨rfl, M3, rfl, k1, k2⟩
      exact ⟨rfl, M3, rfl, k1, ((wfr.rf (l + 1) M1).u _ (by decide)).tr k2⟩
  · refine sx_aload_n d_S_tryOne_11 rfl ?_
    refine sx_iconst d_S_tryOne_12 ?_
    refine sx_putI (h2 := gm (sx_u M1 25 11 1)) d_S_tryOne_13 fl_S_57 (go rfl rfl rfl) (by decide) (by decide) (by decide) (fun q hq => Or.inl (nf_S_11 q hq)) (Or.inr ⟨rfl, (Or.inr rfl)⟩) rfl ?_
    refine sx_retV d_S_tryOne_16 rfl ⟨Nat.zero_le _, Nat.zero_le _⟩ ?_
    have hone : (one g (GG M ag nw nb l) deep l (s, (d : Int)) S D (x, b)) = ((x, b), true) := if_pos (by show g ≤ x; omega)
    rw [hone]
    exact ⟨rfl, _, rfl, hST.cut, (wfr.rf _ _).u _ (by decide)⟩
set_option maxRecDepth 100000 in
set_option maxHeartbeats 4000000 in
theorem t_ways {L : Nat} {xs : Nat → Int32} (M : Nat → Nat → Int) (ag g : Int) (nw nb : Nat) (hP : PH M nw nb) (hg : 1 ≤ g ∧ g ≤ 20000) (hag : sx_r ag) (l : Nat) (hl : l < nw) (S D : Nat → Int) (k k2 : Nat) (hk : k2 + 1 ≤ k) (deep : (Nat → Int) → (Nat → Int) → Int × sB → (Int × sB) × Bool) (fw lw : Nat) (hfl : fw ≤ lw ∧ lw ≤ 1) (hone : ∀ (x : Int) (b : sB) (M1 : Nat → Nat → Int) (s : Int) (d : Nat), 0 ≤ s ∧ s ≤ 99 → d < 2 → fw ≤ d → d ≤ lw → ST M ag g nw l S D ((x, b), false) M1 → WN M nb l S D d M1 → sx_R y_S_tryOne (k2, 0, 0) L xs [sx_p 25, .inl (l : Int), .inl s, .inl (d : Int)] (gm M1) (fun v h2 => v = none ∧ ∃ M3, h2 = gm M3 ∧ ST M ag g nw l S D (one g (GG M ag nw nb l) deep l (s, (d : Int)) S D (x, b)) M3 ∧ wfr (l + 1) M1 M3)) (y3 : Option sx_v) (la s : Int) (hs : 0 ≤ s ∧ s ≤ 99) (post : Option sx_v → sx_h → Prop) : ∀ (n d : Nat) (r : (Int × sB) × Bool) (M1 : Nat → Nat → Int), lw + 1 - d < n → fw ≤ d → d ≤ lw + 1 → ST M ag g nw l S D r M1 → (∀ d2 : Nat, fw ≤ d2 → d2 ≤ lw → WN M nb l S D d2 M1) → (∀ (M4 : Nat → Nat → Int) (x8 : Option sx_v), ST M ag g nw l S D (lv g (GG M ag nw nb l) deep l S D (wy (d : Int) (lw : Int) s) r) M4 → (∀ d2 : Nat, fw ≤ d2 → d2 ≤ lw → WN M nb l S D d2 M4) → wfr l M1 M4 → sx_V y_S_tryStarts (k, 0, 0) L xs (0, 0) 205 [some (sx_p 25), some (.inl (l : Int)), some (sx_p (14 + l)), y3, some (.inl la), some (.inl (fw : Int)), some (.inl (lw : Int)), some (.inl s), x8] [] (gm M4) post) → sx_V y_S_tryStarts (k, 0, 0) L xs (0, 0) 176 [some (sx_p 25), some (.inl (l : Int)), some (sx_p (14 + l)), y3, some (.inl la), some (.inl (fw : Int)), some (.inl (lw : Int)), some (.inl s), some (.inl (d : Int))] [] (gm M1) (post) := by
  obtain ⟨hI, hRM, hnw, hnw6, hnb, hnb8, hWk, hgp⟩ := id hP
  have hl6 : l < 6 := by omega
  intro n
  induction n with
  | zero => intro d r M1 h1; omega
  | succ n ih =>
    intro d r M1 hn hfd hdl hST hWN K
    refine sx_iload d_S_tryStarts_176 rfl ?_
    refine sx_iload d_S_tryStarts_178 rfl ?_
    refine sx_icmp_gt (tgt := 205) d_S_tryStarts_180 (by decide) (by first | omega | (split <;> omega)) (by first | omega | (split <;> omega)) (fun c180_12 => ?_) (fun c180_12 => ?_)
    · refine K M1 _ ?_ hWN (wfr.rf _ _)
      first | (rw [wy_no (by omega)]; exact hST) | (rw [lv_cut _ (by cases hc : r.2 <;> simp_all)]; exact hST)
    · refine sx_aload_n d_S_tryStarts_183 rfl ?_
      refine sx_getI (z := (if r.2 = true then 1 else 0)) d_S_tryStarts_184 fl_S_57 (go rfl rfl rfl) (by decide) (by decide) (by decide) hST.2.2.2.2.2.1 ?_
      refine sx_if_ne (tgt := 205) d_S_tryStarts_187 (by decide) (by first | omega | (split <;> omega)) (fun c187_17 => ?_) (fun c187_17 => ?_)
      · refine K M1 _ ?_ hWN (wfr.rf _ _)
        first | (rw [wy_no (by omega)]; exact hST) | (rw [lv_cut _ (by cases hc : r.2 <;> simp_all)]; exact hST)
      · have hr0 : r.2 = false := by (cases hc : r.2 <;> simp_all)
        have hrf : r = ((r.1.1, r.1.2), false) := by (rw [← hr0])
        have hWN3 : ∀ M3, wfr (l + 1) M1 M3 → ∀ d2 : Nat, fw ≤ d2 → d2 ≤ lw → WN M nb l S D d2 M3 := fun M3 k3 d2 a1 a2 => (hWN d2 a1 a2).keep (by omega) k3
        refine sx_aload_n d_S_tryStarts_190 rfl ?_
        refine sx_iload_n d_S_tryStarts_191 rfl ?_
        refine sx_iload d_S_tryStarts_192 rfl ?_
        refine sx_iload d_S_tryStarts_194 rfl ?_
        refine sx_callV (hone r.1.1 r.1.2 M1 s d hs (by omega) (by omega) (by omega) (by rw [← hrf]; exact hST) (hWN d (by omega) (by omega))) d_S_tryStarts_196 cd_S_tryOne lk_S_96 im_S_tryOne se_S_tryOne (go rfl rfl rfl) rfl rfl (by decide) (st := []) rfl rfl (Nat.le_of_ble_eq_true rfl) ⟨by exact hk, Nat.le_refl _, Nat.le_refl _⟩ (fun _ _ hq => ?_)
        obtain ⟨rfl, M3, rfl, k1, k3⟩ := hq
        show sx_V _ _ _ _ (0, 0) _ _ [] (gm M3) _
        refine sx_iinc (l' := [some (sx_p 25), some (.inl (l : Int)), some (sx_p (14 + l)), y3, some (.inl la), some (.inl (fw : Int)), some (.inl (lw : Int)), some (.inl s), some (.inl ((d : Int) + 1))]) d_S_tryStarts_199 rfl (by decide) rfl rfl ?_
        refine sx_goto (tgt := 176) d_S_tryStarts_202 (by decide) ?_
        have e1 : ((d : Int) + 1) = ((d + 1 : Nat) : Int) := by omega
        rw [e1]
        have hw := hWN3 M3 k3
        refine ih (d + 1) _ M3 (by omega) (by omega) (by omega) k1 hw (fun M4 x8 a1 a2 a3 => ?_)
        refine K M4 x8 ?_ a2 ((k3.le (Nat.le_succ l)).tr a3)
        rw [wy_go (by omega) (by omega), lv_go _ _ hr0]
        rw [← e1] at a1
        exact a1
set_option maxRecDepth 100000 in
set_option maxHeartbeats 4000000 in
theorem t_st0 {L : Nat} {xs : Nat → Int32} (M : Nat → Nat → Int) (ag g : Int) (nw nb : Nat) (hP : PH M nw nb) (hg : 1 ≤ g ∧ g ≤ 20000) (hag : sx_r ag) (l : Nat) (hl : l < nw) (S D : Nat → Int) (k k2 : Nat) (hk : k2 + 1 ≤ k) (deep : (Nat → Int) → (Nat → Int) → Int × sB → (Int × sB) × Bool) (fw lw : Nat) (hfl : fw ≤ lw ∧ lw ≤ 1) (hone : ∀ (x : Int) (b : sB) (M1 : Nat → Nat → Int) (s : Int) (d : Nat), 0 ≤ s ∧ s ≤ 99 → d < 2 → fw ≤ d → d ≤ lw → ST M ag g nw l S D ((x, b), false) M1 → WN M nb l S D d M1 → sx_R y_S_tryOne (k2, 0, 0) L xs [sx_p 25, .inl (l : Int), .inl s, .inl (d : Int)] (gm M1) (fun v h2 => v = none ∧ ∃ M3, h2 = gm M3 ∧ ST M ag g nw l S D (one g (GG M ag nw nb l) deep l (s, (d : Int)) S D (x, b)) M3 ∧ wfr (l + 1) M1 M3)) (y3 : Option sx_v) (la : Int) (hla : la ≤ 99) (post : Option sx_v → sx_h → Prop) (s : Int) (hs : 0 ≤ s) (hsl : la + 1 = s) (r : (Int × sB) × Bool) (M1 : Nat → Nat → Int) (x8 : Option sx_v) (hST : ST M ag g nw l S D r M1) (K : (∀ M5 : Nat → Nat → Int, ST M ag g nw l S D (lv g (GG M ag nw nb l) deep l S D (ol (fw : Int) (lw : Int) 0 s) r) M5 → wfr l M1 M5 → post none (gm M5))) :  sx_V y_S_tryStarts (k, 0, 0) L xs (0, 0) 158 [some (sx_p 25), some (.inl (l : Int)), some (sx_p (14 + l)), y3, some (.inl la), some (.inl (fw : Int)), some (.inl (lw : Int)), some (.inl s), x8] [] (gm M1) (post) := by
  obtain ⟨hI, hRM, hnw, hnw6, hnb, hnb8, hWk, hgp⟩ := id hP
  have hl6 : l < 6 := by omega
  refine sx_iload d_S_tryStarts_158 rfl ?_
  refine sx_iload d_S_tryStarts_160 rfl ?_
  refine sx_icmp_gt (tgt := 211) d_S_tryStarts_162 (by decide) (by omega) (by omega) (fun c162_7 => ?_) (fun c162_7 => ?_)
  · refine sx_retV d_S_tryStarts_211 rfl ⟨Nat.zero_le _, Nat.zero_le _⟩ ?_
    exact K M1 hST (wfr.rf _ _)
  · omega
theorem lv_app {g : Int} {G : (Nat → Int) → (Nat → Int) → sB → Bool} {deep : (Nat → Int) → (Nat → Int) → Int × sB → (Int × sB) × Bool} {l : Nat} {S D : Nat → Int} (t u : List (Int × Int)) (r : (Int × sB) × Bool) : lv g G deep l S D (t ++ u) r = lv g G deep l S D u (lv g G deep l S D t r) := by
  induction t generalizing r with
  | nil => rfl
  | cons c t ih =>
    cases h : r.2 with
    | true => rw [lv_cut _ h, lv_cut (c :: t) h, lv_cut _ h]
    | false => rw [List.cons_append, lv_go _ _ h, lv_go _ _ h, ih]
set_option maxRecDepth 100000 in
set_option maxHeartbeats 4000000 in
theorem t_starts {L : Nat} {xs : Nat → Int32} (M : Nat → Nat → Int) (ag g : Int) (nw nb : Nat) (hP : PH M nw nb) (hg : 1 ≤ g ∧ g ≤ 20000) (hag : sx_r ag) (l : Nat) (hl : l < nw) (S D : Nat → Int) (k k2 : Nat) (hk : k2 + 1 ≤ k) (deep : (Nat → Int) → (Nat → Int) → Int × sB → (Int × sB) × Bool) (fw lw : Nat) (hfl : fw ≤ lw ∧ lw ≤ 1) (hone : ∀ (x : Int) (b : sB) (M1 : Nat → Nat → Int) (s : Int) (d : Nat), 0 ≤ s ∧ s ≤ 99 → d < 2 → fw ≤ d → d ≤ lw → ST M ag g nw l S D ((x, b), false) M1 → WN M nb l S D d M1 → sx_R y_S_tryOne (k2, 0, 0) L xs [sx_p 25, .inl (l : Int), .inl s, .inl (d : Int)] (gm M1) (fun v h2 => v = none ∧ ∃ M3, h2 = gm M3 ∧ ST M ag g nw l S D (one g (GG M ag nw nb l) deep l (s, (d : Int)) S D (x, b)) M3 ∧ wfr (l + 1) M1 M3)) (y3 : Option sx_v) (la : Int) (hla : la ≤ 99) (post : Option sx_v → sx_h → Prop) : ∀ (n : Nat) (s : Int) (r : (Int × sB) × Bool) (M1 : Nat → Nat → Int) (x8 : Option sx_v), la + 1 = s + n → 0 ≤ s → ST M ag g nw l S D r M1 → (∀ d2 : Nat, fw ≤ d2 → d2 ≤ lw → WN M nb l S D d2 M1) → (∀ M5 : Nat → Nat → Int, ST M ag g nw l S D (lv g (GG M ag nw nb l) deep l S D (ol (fw : Int) (lw : Int) n s) r) M5 → wfr l M1 M5 → post none (gm M5)) → sx_V y_S_tryStarts (k, 0, 0) L xs (0, 0) 158 [some (sx_p 25), some (.inl (l : Int)), some (sx_p (14 + l)), y3, some (.inl la), some (.inl (fw : Int)), some (.inl (lw : Int)), some (.inl s), x8] [] (gm M1) (post) := by
  obtain ⟨hI, hRM, hnw, hnw6, hnb, hnb8, hWk, hgp⟩ := id hP
  have hl6 : l < 6 := by omega
  intro n
  induction n with
  | zero => intro s r M1 x8 hsl hs hST hWN K; exact t_st0 M ag g nw nb hP hg hag l hl S D k k2 hk deep fw lw hfl hone y3 la hla post s hs (by omega) r M1 x8 hST K
  | succ n ih =>
    intro s r M1 x8 hsl hs hST hWN K
    refine sx_iload d_S_tryStarts_158 rfl ?_
    refine sx_iload d_S_tryStarts_160 rfl ?_
    refine sx_icmp_gt (tgt := 211) d_S_tryStarts_162 (by decide) (by first | omega | (split <;> omega)) (by first | omega | (split <;> omega)) (fun c162_12 => ?_) (fun c162_12 => ?_)
    · omega
    · refine sx_aload_n d_S_tryStarts_165 rfl ?_
      refine sx_getI (z := (if r.2 = true then 1 else 0)) d_S_tryStarts_166 fl_S_57 (go rfl rfl rfl) (by decide) (by decide) (by decide) hST.2.2.2.2.2.1 ?_
      refine sx_if_ne (tgt := 211) d_S_tryStarts_169 (by decide) (by first | omega | (split <;> omega)) (fun c169_16 => ?_) (fun c169_16 => ?_)
      · refine sx_retV d_S_tryStarts_211 rfl ⟨Nat.zero_le _, Nat.zero_le _⟩ ?_
        exact K M1 (by rw [lv_cut _ (by cases hc : r.2 <;> simp_all)]; exact hST) (wfr.rf _ _)
      · refine sx_iload d_S_tryStarts_172 rfl ?_
        refine sx_istore (l' := [some (sx_p 25), some (.inl (l : Int)), some (sx_p (14 + l)), y3, some (.inl la), some (.inl (fw : Int)), some (.inl (lw : Int)), some (.inl s), some (.inl (fw : Int))]) d_S_tryStarts_174 (by decide) rfl rfl ?_
        refine t_ways M ag g nw nb hP hg hag l hl S D k k2 hk deep fw lw hfl hone y3 la s (by omega) post (lw + 2) fw r M1 (by omega) (Nat.le_refl _) (by omega) hST hWN (fun M4 x9 a1 a2 a3 => ?_)
        refine sx_iinc (l' := [some (sx_p 25), some (.inl (l : Int)), some (sx_p (14 + l)), y3, some (.inl la), some (.inl (fw : Int)), some (.inl (lw : Int)), some (.inl (s + 1)), x9]) d_S_tryStarts_205 rfl (by decide) rfl rfl ?_
        refine sx_goto (tgt := 158) d_S_tryStarts_208 (by decide) ?_
        exact ih (s + 1) _ M4 x9 (by omega) (by omega) a1 a2 (fun M5 b1 b2 => K M5 (by rw [show ol (fw : Int) (lw : Int) (n + 1) s = wy (fw : Int) (lw : Int) s ++ ol (fw : Int) (lw : Int) n (s + 1) from rfl, lv_app]; exact b1) (a3.tr b2))
