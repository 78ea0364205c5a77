theorem td_r {x : Int} (h : sx_r x) : sx_r (Int.tdiv x 65536) := by
  rw [Int.tdiv_eq_ediv, show Int.sign 65536 = 1 from rfl]
  split <;> omega
theorem tm_r (x : Int) : sx_r (Int.tmod x 100) := by
  rw [Int.tmod_eq_emod]
  split <;> simp <;> omega
def gy (M M1 : Nat → Nat → Int) (day : Int) (i : Nat) : Prop := ∃ j, j < i ∧ 0 < M1 49 j ∧ M 23 j ≤ day
theorem gy_s {M M1 : Nat → Nat → Int} {day : Int} {i : Nat} : gy M M1 day (i + 1) ↔ gy M M1 day i ∨ (0 < M1 49 i ∧ M 23 i ≤ day) := by
  unfold gy
  constructor
  · rintro ⟨j, a, b⟩
    by_cases e : j = i
    · subst e; exact Or.inr b
    · exact Or.inl ⟨j, by omega, b⟩
  · rintro (⟨j, a, b⟩ | b)
    · exact ⟨j, by omega, b⟩
    · exact ⟨i, by omega, b⟩
abbrev LF (M : Nat → Nat → Int) (r : Nat → Bool) (j d : Nat) : Nat := lf r (M 23 j).toNat (M (14 + j) 5).toNat d
theorem ngo_s (M : Nat → Nat → Int) (r : Nat → Bool) (nw d : Nat) (T : Int) : ngo M r nw (d + 1) T ↔ ngo M r nw d T ∧ (T ≤ (d : Int) → ∀ i, i < nw → ¬ (r d = false ∧ (M 23 i).toNat ≤ d ∧ 0 < LF M r i d)) := by
  unfold ngo
  constructor
  · intro h
    exact ⟨fun t a b => h t a (by omega), fun a => h d a (by omega)⟩
  · rintro ⟨h1, h2⟩ t a b
    by_cases e : t = d
    · subst e; exact h2 a
    · exact h1 t a (by omega)
theorem wet_same {M : Nat → Nat → Int} {r : Nat → Bool} {d : Nat} (h : r d = true) (j : Nat) : LF M r j (d + 1) = LF M r j d := by
  unfold LF
  rw [lf_s, if_neg (fun k => by rw [h] at k; exact absurd k.1 (by decide))]
theorem wet_ngo {M : Nat → Nat → Int} {r : Nat → Bool} {nw d : Nat} (h : r d = true) (T : Int) : ngo M r nw (d + 1) T ↔ ngo M r nw d T := by
  rw [ngo_s]
  exact ⟨fun k => k.1, fun k => ⟨k, fun _ i _ q => by rw [h] at q; exact absurd q.1 (by decide)⟩⟩
theorem dry_next {M M1 M2 : Nat → Nat → Int} {r : Nat → Bool} {nw d : Nat} (h : r d = false) (hp : ∀ i, i < nw → 0 ≤ M 23 i) (h1 : ∀ j, j < nw → M1 49 j = (LF M r j d : Int)) (h2 : gon M nw (d : Int) M1 M2) : ∀ j, j < nw → M2 49 j = (LF M r j (d + 1) : Int) := fun j hj => by
  have h3 := h2.2.2 j hj
  have h4 := hp j hj
  rw [h1 j hj] at h3
  unfold LF at *
  rw [h3, lf_s]
  by_cases q : (M 23 j).toNat ≤ d ∧ 0 < lf r (M 23 j).toNat (M (14 + j) 5).toNat d
  · rw [if_pos ⟨by omega, by omega⟩, if_pos ⟨h, q⟩]; omega
  · rw [if_neg (fun k => q ⟨by omega, by omega⟩), if_neg (fun k => q k.2)]
theorem dry_no {M M1 : Nat → Nat → Int} {r : Nat → Bool} {nw d : Nat} (hp : ∀ i, i < nw → 0 ≤ M 23 i) (h1 : ∀ j, j < nw → M1 49 j = (LF M r j d : Int)) (h2 : ¬ gy M M1 (d : Int) nw) (T : Int) : ngo M r nw (d + 1) T ↔ ngo M r nw d T := by
  rw [ngo_s]
  exact ⟨fun k => k.1, fun k => ⟨k, fun _ i hi q => h2 ⟨i, hi, by rw [h1 i hi]; omega, by have := hp i hi; omega⟩⟩⟩
theorem dry_yes {M M1 : Nat → Nat → Int} {r : Nat → Bool} {nw d : Nat} (h : r d = false) (hp : ∀ i, i < nw → 0 ≤ M 23 i) (h1 : ∀ j, j < nw → M1 49 j = (LF M r j d : Int)) (h2 : gy M M1 (d : Int) nw) (T : Int) : (d : Int) + 1 ≤ T ↔ ngo M r nw (d + 1) T := by
  constructor
  · intro hT t a b
    omega
  · intro hn
    obtain ⟨j, a, b, c⟩ := h2
    rcases Int.lt_or_le T ((d : Int) + 1) with q | q
    · exfalso
      refine hn d (by omega) (by omega) j a ⟨h, by have := hp j a; omega, ?_⟩
      rw [h1 j a] at b
      exact Int.ofNat_lt.mp b
    · exact q
/-- all works end by a day, by the weather -/
def odP (M : Nat → Nat → Int) (nw : Nat) (x ch T : Int) : Prop := ∀ i, i < nw → wE (wr M x ch) (M 23 i).toNat (M (14 + i) 5).toNat ≤ T
theorem odP_iff {M : Nat → Nat → Int} {nw : Nat} {x ch T : Int} (hp : ∀ i, i < nw → 0 ≤ M 23 i ∧ M 23 i ≤ 99) (hn : ∀ i, i < nw → 1 ≤ M (14 + i) 5) (hT : 0 ≤ T) : odP M nw x ch T ↔ ngo M (wr M x ch) nw 400 T ∧ ∀ i, i < nw → 0 < LF M (wr M x ch) i 400 → 400 + (LF M (wr M x ch) i 400 : Int) ≤ T := by
  have h : ∀ i, i < nw → _ := fun i hi => wE_iff (wr_far M x ch) (s := (M 23 i).toNat) (n := (M (14 + i) 5).toNat) (by have := hp i hi; omega) (by have := hn i hi; omega) T hT
  unfold odP ngo
  constructor
  · intro k
    exact ⟨fun t a b i hi => ((h i hi).mp (k i hi)).1 t a b, fun i hi => ((h i hi).mp (k i hi)).2⟩
  · rintro ⟨k1, k2⟩ i hi
    exact (h i hi).mpr ⟨fun t a b => k1 t a b i hi, k2 i hi⟩
set_option maxRecDepth 100000 in
set_option maxHeartbeats 4000000 in
theorem c_H_begin {L : Nat} {xs : Nat → Int32} (M : Nat → Nat → Int) (x : Int) : sx_R y_H_begin (0, 0, 0) L xs [sx_p 48, .inl x] (gm M) (fun v h2 => v = none ∧ h2 = gm (sx_u M 48 3 x)) := by
  refine sx_enter rfl (Nat.le_of_ble_eq_true rfl) rfl ?_
  show sx_V y_H_begin (0, 0, 0) L xs (0, 0) 0 [some (sx_p 48), some (.inl x)] [] (gm M) _
  refine sx_aload_n d_H_begin_0 rfl ?_
  refine sx_iload_n d_H_begin_1 rfl ?_
  refine sx_putI (h2 := gm (sx_u M 48 3 x)) d_H_begin_2 fl_H_23 (go rfl rfl rfl) (by decide) (by decide) (by decide) (fun q hq => Or.inl (nf_H_3 q hq)) (Or.inl rfl) rfl ?_
  refine sx_retV d_H_begin_5 rfl ⟨Nat.zero_le _, Nat.zero_le _⟩ ?_
  exact ⟨rfl, rfl⟩
set_option maxRecDepth 100000 in
set_option maxHeartbeats 4000000 in
theorem c_H_wet {L : Nat} {xs : Nat → Int32} (M : Nat → Nat → Int) (hR : IR M) (ch : Int) (hch : sx_r ch) : sx_R y_H_drawWet (0, 0, 0) L xs [sx_p 48, .inl ch] (gm M) (fun v h2 => ∃ z, v = some (.inl z) ∧ (z = 0 ∨ z = 1) ∧ (z = 1 ↔ Int.tmod (Int.tdiv (nx (M 48 3)) 65536) 100 < ch) ∧ h2 = gm (sx_u M 48 3 (nx (M 48 3)))) := by
  refine sx_enter rfl (Nat.le_of_ble_eq_true rfl) rfl ?_
  show sx_V y_H_drawWet (0, 0, 0) L xs (0, 0) 0 [some (sx_p 48), some (.inl ch)] [] (gm M) _
  refine sx_aload_n d_H_drawWet_0 rfl ?_
  refine sx_aload_n d_H_drawWet_1 rfl ?_
  refine sx_getI (z := (M 48 3)) d_H_drawWet_2 fl_H_23 (go rfl rfl rfl) (by decide) (by decide) (by decide) rfl ?_
  refine sx_ldc (n := 1103515245) d_H_drawWet_5 tw_675 ?_
  refine sx_imul d_H_drawWet_7 ?_
  refine sx_sipush d_H_drawWet_8 (by decide) ?_
  refine sx_iadd d_H_drawWet_11 ?_
  refine sx_ldc (n := 2147483647) d_H_drawWet_12 tw_676 ?_
  refine sx_iand d_H_drawWet_14 ?_
  refine sx_putI (h2 := gm (sx_u M 48 3 (Int32.ofInt (((M 48 3) * 1103515245) + 12345) &&& Int32.ofInt 2147483647).toInt)) d_H_drawWet_15 fl_H_23 (go rfl rfl rfl) (by decide) (by decide) (by decide) (fun q hq => Or.inl (nf_H_3 q hq)) (Or.inl rfl) rfl ?_
  refine sx_aload_n d_H_drawWet_18 rfl ?_
  refine sx_getI (z := (Int32.ofInt (((M 48 3) * 1103515245) + 12345) &&& Int32.ofInt 2147483647).toInt) d_H_drawWet_19 fl_H_23 (go rfl rfl rfl) (by decide) (by decide) (by decide) rfl ?_
  refine sx_ldc (n := 65536) d_H_drawWet_22 tw_677 ?_
  refine sx_idiv d_H_drawWet_24 (by first | omega | exact nx_r (M 48 3) | exact td_r (nx_r (M 48 3)) | exact tm_r _) ⟨by decide, by decide⟩ (by omega) ?_
  refine sx_bipush d_H_drawWet_25 (by decide) ?_
  refine sx_irem d_H_drawWet_27 (by first | omega | exact nx_r (M 48 3) | exact td_r (nx_r (M 48 3)) | exact tm_r _) ⟨by decide, by decide⟩ (by omega) ?_
  refine sx_iload_n d_H_drawWet_28 rfl ?_
  refine sx_icmp_ge (tgt := 36) d_H_drawWet_29 (by decide) (by first | omega | exact nx_r (M 48 3) | exact td_r (nx_r (M 48 3)) | exact tm_r _) (by first | omega | exact nx_r (M 48 3) | exact td_r (nx_r (M 48 3)) | exact tm_r _) (fun c29_22 => ?_) (fun c29_22 => ?_)
  · refine sx_iconst d_H_drawWet_36 ?_
    refine sx_retI d_H_drawWet_37 (Or.inr ⟨rfl, by first | exact Or.inl rfl | exact Or.inr rfl | omega⟩) ⟨Nat.zero_le _, Nat.zero_le _⟩ ?_
    refine ⟨_, rfl, by omega, ?_, rfl⟩
    exact ⟨fun k => absurd k (by decide), fun k => absurd (show ch ≤ Int.tmod (Int.tdiv (nx (M 48 3)) 65536) 100 by assumption) (by omega)⟩
  · refine sx_iconst d_H_drawWet_32 ?_
    refine sx_goto (tgt := 37) d_H_drawWet_33 (by decide) ?_
    refine sx_retI d_H_drawWet_37 (Or.inr ⟨rfl, by first | exact Or.inl rfl | exact Or.inr rfl | omega⟩) ⟨Nat.zero_le _, Nat.zero_le _⟩ ?_
    refine ⟨_, rfl, by omega, ?_, rfl⟩
    exact ⟨fun _ => by assumption, fun _ => rfl⟩
set_option maxRecDepth 100000 in
set_option maxHeartbeats 4000000 in
theorem l_H_go {L : Nat} {xs : Nat → Int32} (M : Nat → Nat → Int) (hR : IR M) (nw : Nat) (hnw : M 2 9 = (nw : Int)) (h6 : nw ≤ 6) (day : Int) (hday : sx_r day) (M1 : Nat → Nat → Int) (hR1 : IR M1) (hnw1 : M1 2 9 = (nw : Int)) (hp1 : ∀ i, M1 23 i = M 23 i) : ∀ (n i : Nat) (g : Int) (M2 : Nat → Nat → Int), nw - i < n → i ≤ nw → (∀ a k, a ≠ 49 → M2 a k = M1 a k) → IR M2 → (∀ j, j < i → M2 49 j = (if 0 < M1 49 j ∧ M 23 j ≤ day then M1 49 j - 1 else M1 49 j)) → (∀ j, i ≤ j → M2 49 j = M1 49 j) → (g = 0 ∨ g = 1) → (g = 1 ↔ gy M M1 day i) → sx_V y_H_goOn (0, 0, 0) L xs (0, 0) 4 [some (sx_p 48), some (.inl day), some (.inl g), some (.inl (i : Int))] [] (gm M2) (fun v h2 => ∃ z, v = some (.inl z) ∧ (z = 0 ∨ z = 1) ∧ (z = 1 ↔ gy M M1 day nw) ∧ ∃ M2, h2 = gm M2 ∧ gon M nw day M1 M2) := by
  intro n
  induction n with
  | zero => intro i g M2 h1 h2; omega
  | succ n ih =>
    intro i g M2 hn hi hfr hR2 hlt hge hg01 hgi
    refine sx_iload_n d_H_goOn_4 rfl ?_
    refine sx_aload_n d_H_goOn_5 rfl ?_
    refine sx_getR (r := some (2)) d_H_goOn_6 fl_H_15 (go rfl rfl rfl) (by decide) (by decide) (by decide) rfl ?_
    refine sx_getI (z := (nw : Int)) d_H_goOn_9 fl_H_27 (go rfl rfl rfl) (by decide) (by decide) (by decide) ((hfr 2 9 (by decide)).trans hnw1) ?_
    refine sx_icmp_ge (tgt := 55) d_H_goOn_12 (by decide) (by omega) (by omega) (fun c12_12 => ?_) (fun c12_12 => ?_)
    · refine sx_iload_n d_H_goOn_55 rfl ?_
      refine sx_retI d_H_goOn_56 (Or.inr ⟨rfl, by first | exact Or.inl rfl | exact Or.inr rfl | omega⟩) ⟨Nat.zero_le _, Nat.zero_le _⟩ ?_
      have e0 : i = nw := by omega
      subst e0
      exact ⟨g, rfl, hg01, hgi, M2, rfl, hfr, hR2, hlt⟩
    · refine sx_aload_n d_H_goOn_15 rfl ?_
      refine sx_getR (r := some (49)) d_H_goOn_16 fl_H_9 (go rfl rfl rfl) (by decide) (by decide) (by decide) rfl ?_
      refine sx_iload_n d_H_goOn_19 rfl ?_
      refine sx_iald (z := (M1 49 i)) d_H_goOn_20 (go rfl rfl rfl) (by omega) (by omega) (by decide) (hge i (Nat.le_refl _)) ?_
      refine sx_if_le (tgt := 49) d_H_goOn_21 (by decide) (hR1 _ _) (fun c21_22 => ?_) (fun c21_22 => ?_)
      · refine sx_iinc (l' := [some (sx_p 48), some (.inl day), some (.inl g), some (.inl ((i : Int) + 1))]) d_H_goOn_49 rfl (by decide) rfl rfl ?_
        refine sx_goto (tgt := 4) d_H_goOn_52 (by decide) ?_
        have e1 : ((i : Int) + 1) = ((i + 1 : Nat) : Int) := by omega
        rw [e1]
        refine ih (i + 1) _ _ (by omega) (by omega) hfr hR2 (fun j hj => ?_) (fun j hj => hge j (by omega)) hg01 ⟨fun k => gy_s.mpr (Or.inl (hgi.mp k)), fun k => ?_⟩
        · by_cases q : j = i
          · subst q; rw [hge j (Nat.le_refl _), if_neg (fun k => by omega)]
          · exact hlt j (by omega)
        · rcases gy_s.mp k with k | k
          · exact hgi.mpr k
          · omega
      · refine sx_aload_n d_H_goOn_24 rfl ?_
        refine sx_getR (r := some (22)) d_H_goOn_25 fl_H_19 (go rfl rfl rfl) (by decide) (by decide) (by decide) rfl ?_
        refine sx_getR (r := some (23)) d_H_goOn_28 fl_H_66 (go rfl rfl rfl) (by decide) (by decide) (by decide) rfl ?_
        refine sx_iload_n d_H_goOn_31 rfl ?_
        refine sx_iald (z := (M 23 i)) d_H_goOn_32 (go rfl rfl rfl) (by omega) (by omega) (by decide) ((hfr 23 i (by decide)).trans (hp1 i)) ?_
        refine sx_iload_n d_H_goOn_33 rfl ?_
        refine sx_icmp_gt (tgt := 49) d_H_goOn_34 (by decide) (hR _ _) (by omega) (fun c34_40 => ?_) (fun c34_40 => ?_)
        · refine sx_iinc (l' := [some (sx_p 48), some (.inl day), some (.inl g), some (.inl ((i : Int) + 1))]) d_H_goOn_49 rfl (by decide) rfl rfl ?_
          refine sx_goto (tgt := 4) d_H_goOn_52 (by decide) ?_
          have e1 : ((i : Int) + 1) = ((i + 1 : Nat) : Int) := by omega
          rw [e1]
          refine ih (i + 1) _ _ (by omega) (by omega) hfr hR2 (fun j hj => ?_) (fun j hj => hge j (by omega)) hg01 ⟨fun k => gy_s.mpr (Or.inl (hgi.mp k)), fun k => ?_⟩
          · by_cases q : j = i
            · subst q; rw [hge j (Nat.le_refl _), if_neg (fun k => by omega)]
            · exact hlt j (by omega)
          · rcases gy_s.mp k with k | k
            · exact hgi.mpr k
            · omega
        · refine sx_aload_n d_H_goOn_37 rfl ?_
          refine sx_getR (r := some (49)) d_H_goOn_38 fl_H_9 (go rfl rfl rfl) (by decide) (by decide) (by decide) rfl ?_
          refine sx_iload_n d_H_goOn_41 rfl ?_
          refine sx_dup2 rfl rfl d_H_goOn_42 ?_
          refine sx_iald (z := (M1 49 i)) d_H_goOn_43 (go rfl rfl rfl) (by omega) (by omega) (by decide) (hge i (Nat.le_refl _)) ?_
          refine sx_iconst d_H_goOn_44 ?_
          refine sx_isub d_H_goOn_45 ?_
          refine sx_iast (h2 := gm (sx_u M2 49 i ((M1 49 i) - 1))) d_H_goOn_46 (go rfl rfl rfl) (by omega) (by omega) (by decide) rfl ?_
          refine sx_iconst d_H_goOn_47 ?_
          refine sx_istore_n (l' := [some (sx_p 48), some (.inl day), some (.inl 1), some (.inl (i : Int))]) d_H_goOn_48 (by decide) rfl rfl ?_
          refine sx_iinc (l' := [some (sx_p 48), some (.inl day), some (.inl 1), some (.inl ((i : Int) + 1))]) d_H_goOn_49 rfl (by decide) rfl rfl ?_
          refine sx_goto (tgt := 4) d_H_goOn_52 (by decide) ?_
          have e1 : ((i : Int) + 1) = ((i + 1 : Nat) : Int) := by omega
          rw [e1]
          refine ih (i + 1) _ _ (by omega) (by omega) (fun a k ha => by rw [sx_u_ne ha]; exact hfr a k ha) (hR2.u _ _ (by have := hR1 49 i; omega)) (fun j hj => ?_) (fun j hj => ?_) (Or.inr rfl) ⟨fun _ => gy_s.mpr (Or.inr ⟨by omega, by omega⟩), fun _ => rfl⟩
          · by_cases q : j = i
            · subst q; rw [sx_us, if_pos ⟨by omega, by omega⟩]
            · simp only [sx_u, q, and_false, if_false]; exact hlt j (by omega)
          · have q : j ≠ i := by omega
            simp only [sx_u, q, and_false, if_false]; exact hge j (by omega)
set_option maxRecDepth 100000 in
set_option maxHeartbeats 4000000 in
theorem c_H_go {L : Nat} {xs : Nat → Int32} (M : Nat → Nat → Int) (hR : IR M) (nw : Nat) (hnw : M 2 9 = (nw : Int)) (h6 : nw ≤ 6) (day : Int) (hday : sx_r day) (M1 : Nat → Nat → Int) (hR1 : IR M1) (hnw1 : M1 2 9 = (nw : Int)) (hp1 : ∀ i, M1 23 i = M 23 i) : sx_R y_H_goOn (0, 0, 0) L xs [sx_p 48, .inl day] (gm M1) (fun v h2 => ∃ z, v = some (.inl z) ∧ (z = 0 ∨ z = 1) ∧ (z = 1 ↔ gy M M1 day nw) ∧ ∃ M2, h2 = gm M2 ∧ gon M nw day M1 M2) := by
  refine sx_enter rfl (Nat.le_of_ble_eq_true rfl) rfl ?_
  show sx_V y_H_goOn (0, 0, 0) L xs (0, 0) 0 [some (sx_p 48), some (.inl day), none, none] [] (gm M1) _
  refine sx_iconst d_H_goOn_0 ?_
  refine sx_istore_n (l' := [some (sx_p 48), some (.inl day), some (.inl 0), none]) d_H_goOn_1 (by decide) rfl rfl ?_
  refine sx_iconst d_H_goOn_2 ?_
  refine sx_istore_n (l' := [some (sx_p 48), some (.inl day), some (.inl 0), some (.inl 0)]) d_H_goOn_3 (by decide) rfl rfl ?_
  exact l_H_go M hR nw hnw h6 day hday M1 hR1 hnw1 hp1 (nw + 1) 0 0 M1 (by omega) (by omega) (fun _ _ _ => rfl) hR1 (fun j hj => absurd hj (Nat.not_lt_zero _)) (fun _ _ => rfl) (Or.inl rfl) ⟨fun k => absurd k (by decide), fun ⟨j, hj, _⟩ => absurd hj (Nat.not_lt_zero _)⟩
set_option maxRecDepth 100000 in
set_option maxHeartbeats 4000000 in
theorem l_H_3 {L : Nat} {xs : Nat → Int32} (M : Nat → Nat → Int) (nw : Nat) (hnw : M 2 9 = (nw : Int)) (h6 : nw ≤ 6) (hn5 : ∀ i, i < nw → 1 ≤ M (14 + i) 5 ∧ M (14 + i) 5 ≤ 200) (r : Nat → Bool) (M2 : Nat → Nat → Int) (hR2 : IR M2) (hnw2 : M2 2 9 = (nw : Int)) (h49 : ∀ j, j < nw → M2 49 j = (LF M r j 400 : Int)) (A : Int → Prop) (ch : Int) : ∀ (n i : Nat) (e : Int) (x4 : Option sx_v), nw - i < n → i ≤ nw → (0 ≤ e ∧ e ≤ 1000) → (∀ T, 0 ≤ T → (e ≤ T ↔ A T ∧ ∀ j, j < i → 0 < LF M r j 400 → 400 + (LF M r j 400 : Int) ≤ T)) → sx_V y_H_drawEnd (1, 0, 0) L xs (0, 0) 94 [some (sx_p 48), some (.inl ch), some (.inl e), some (.inl (i : Int)), x4] [] (gm M2) (fun v h2 => ∃ e2, v = some (.inl e2) ∧ h2 = gm M2 ∧ (0 ≤ e2 ∧ e2 ≤ 1000) ∧ (∀ T, 0 ≤ T → (e2 ≤ T ↔ A T ∧ ∀ j, j < nw → 0 < LF M r j 400 → 400 + (LF M r j 400 : Int) ≤ T))) := by
  intro n
  induction n with
  | zero => intro i e x4 h1 h2; omega
  | succ n ih =>
    intro i e x4 hn hi he hE
    refine sx_iload_n d_H_drawEnd_94 rfl ?_
    refine sx_aload_n d_H_drawEnd_95 rfl ?_
    refine sx_getR (r := some (2)) d_H_drawEnd_96 fl_H_15 (go rfl rfl rfl) (by decide) (by decide) (by decide) rfl ?_
    refine sx_getI (z := (nw : Int)) d_H_drawEnd_99 fl_H_27 (go rfl rfl rfl) (by decide) (by decide) (by decide) hnw2 ?_
    refine sx_icmp_ge (tgt := 135) d_H_drawEnd_102 (by decide) (by omega) (by omega) (fun c102_12 => ?_) (fun c102_12 => ?_)
    · refine sx_iload_n d_H_drawEnd_135 rfl ?_
      refine sx_retI d_H_drawEnd_136 (Or.inl rfl) ⟨Nat.zero_le _, Nat.zero_le _⟩ ?_
      have e0 : i = nw := by omega
      subst e0
      exact ⟨e, rfl, rfl, he, hE⟩
    · have lfq := lf_le r (M 23 i).toNat (M (14 + i) 5).toNat 400
      have n5 := hn5 i (by omega)
      have lfz : (LF M r i 400 : Int) ≤ 200 := by unfold LF; omega
      refine sx_aload_n d_H_drawEnd_105 rfl ?_
      refine sx_getR (r := some (49)) d_H_drawEnd_106 fl_H_9 (go rfl rfl rfl) (by decide) (by decide) (by decide) rfl ?_
      refine sx_iload_n d_H_drawEnd_109 rfl ?_
      refine sx_iald (z := (LF M r i 400 : Int)) d_H_drawEnd_110 (go rfl rfl rfl) (by omega) (by omega) (by decide) (h49 i (by omega)) ?_
      refine sx_if_le (tgt := 129) d_H_drawEnd_111 (by decide) (by omega) (fun c111_25 => ?_) (fun c111_25 => ?_)
      · refine sx_iinc (l' := [some (sx_p 48), some (.inl ch), some (.inl e), some (.inl ((i : Int) + 1)), x4]) d_H_drawEnd_129 rfl (by decide) rfl rfl ?_
        refine sx_goto (tgt := 94) d_H_drawEnd_132 (by decide) ?_
        have e1 : ((i : Int) + 1) = ((i + 1 : Nat) : Int) := by omega
        rw [e1]
        refine ih (i + 1) e _ (by omega) (by omega) he (fun T hT => (hE T hT).trans ?_)
        refine and_congr Iff.rfl ⟨fun k j hj h0 => ?_, fun k j hj h0 => k j (by omega) h0⟩
        by_cases q : j = i
        · subst q; omega
        · exact k j (by omega) h0
      · refine sx_iload_n d_H_drawEnd_114 rfl ?_
        refine sx_sipush d_H_drawEnd_115 (by decide) ?_
        refine sx_aload_n d_H_drawEnd_118 rfl ?_
        refine sx_getR (r := some (49)) d_H_drawEnd_119 fl_H_9 (go rfl rfl rfl) (by decide) (by decide) (by decide) rfl ?_
        refine sx_iload_n d_H_drawEnd_122 rfl ?_
        refine sx_iald (z := (LF M r i 400 : Int)) d_H_drawEnd_123 (go rfl rfl rfl) (by omega) (by omega) (by decide) (h49 i (by omega)) ?_
        refine sx_iadd d_H_drawEnd_124 ?_
        refine sx_mmax d_H_drawEnd_125 tw_683 tw_368 tw_11 tw_369 (by decide) (Nat.le_of_ble_eq_true rfl) (by omega) (by omega) ⟨Nat.zero_le _, Nat.zero_le _⟩ ?_
        refine sx_istore_n (l' := [some (sx_p 48), some (.inl ch), some (.inl (if e < (400 + (LF M r i 400 : Int)) then (400 + (LF M r i 400 : Int)) else e)), some (.inl (i : Int)), x4]) d_H_drawEnd_128 (by decide) rfl rfl ?_
        refine sx_iinc (l' := [some (sx_p 48), some (.inl ch), some (.inl (if e < (400 + (LF M r i 400 : Int)) then (400 + (LF M r i 400 : Int)) else e)), some (.inl ((i : Int) + 1)), x4]) d_H_drawEnd_129 rfl (by decide) rfl rfl ?_
        refine sx_goto (tgt := 94) d_H_drawEnd_132 (by decide) ?_
        have e1 : ((i : Int) + 1) = ((i + 1 : Nat) : Int) := by omega
        rw [e1]
        refine ih (i + 1) (if e < (400 + (LF M r i 400 : Int)) then (400 + (LF M r i 400 : Int)) else e) _ (by omega) (by omega) (by split <;> omega) (fun T hT => ?_)
        have q0 := hE T hT
        have q1 : (if e < (400 + (LF M r i 400 : Int)) then (400 + (LF M r i 400 : Int)) else e) ≤ T ↔ e ≤ T ∧ 400 + (LF M r i 400 : Int) ≤ T := by split <;> omega
        rw [q1, q0, and_assoc]
        refine and_congr Iff.rfl ⟨fun k j hj h0 => ?_, fun k => ⟨fun j hj h0 => k j (by omega) h0, k i (by omega) (by omega)⟩⟩
        by_cases q : j = i
        · subst q; exact k.2
        · exact k.1 j (by omega) h0
set_option maxRecDepth 100000 in
set_option maxHeartbeats 4000000 in
theorem l_H_2 {L : Nat} {xs : Nat → Int32} (M : Nat → Nat → Int) (hI : IDy M) (hR : IR M) (nw : Nat) (hnw : M 2 9 = (nw : Int)) (h6 : nw ≤ 6) (hpl : ∀ w, w < nw → (0 ≤ M 23 w ∧ M 23 w ≤ 99) ∧ (M 24 w = 0 ∨ M 24 w = 1)) (hn5 : ∀ i, i < nw → 1 ≤ M (14 + i) 5 ∧ M (14 + i) 5 ≤ 200) (x ch : Int) (hx : sx_r x) (hch : sx_r ch) : ∀ (n d : Nat) (e : Int) (x4 : Option sx_v) (M2 : Nat → Nat → Int), 400 - d < n → d ≤ 400 → wfr2 M M2 → IR M2 → M2 48 3 = lcg x d → (∀ j, j < nw → M2 49 j = (LF M (wr M x ch) j d : Int)) → (0 ≤ e ∧ e ≤ d) → (∀ T, 0 ≤ T → (e ≤ T ↔ ngo M (wr M x ch) nw d T)) → sx_V y_H_drawEnd (1, 0, 0) L xs (0, 0) 41 [some (sx_p 48), some (.inl ch), some (.inl e), some (.inl (d : Int)), x4] [] (gm M2) (fun v h2 => ∃ e2 M3, v = some (.inl e2) ∧ h2 = gm M3 ∧ wfr2 M M3 ∧ IR M3 ∧ M3 48 3 = lcg x 400 ∧ (0 ≤ e2 ∧ e2 ≤ 1000) ∧ ∀ T, 0 ≤ T → (e2 ≤ T ↔ odP M nw x ch T)) := by
  intro n
  induction n with
  | zero => intro d e x4 M2 h1 h2; omega
  | succ n ih =>
    intro d e x4 M2 hn hd wf hR2 h48 h49 he hE
    refine sx_iload_n d_H_drawEnd_41 rfl ?_
    refine sx_sipush d_H_drawEnd_42 (by decide) ?_
    refine sx_icmp_ge (tgt := 92) d_H_drawEnd_45 (by decide) (by omega) ⟨by decide, by decide⟩ (fun c45_10 => ?_) (fun c45_10 => ?_)
    · refine sx_iconst d_H_drawEnd_92 ?_
      refine sx_istore_n (l' := [some (sx_p 48), some (.inl ch), some (.inl e), some (.inl 0), x4]) d_H_drawEnd_93 (by decide) rfl rfl ?_
      have e0 : d = 400 := by omega
      subst e0
      refine (l_H_3 M nw hnw h6 hn5 (wr M x ch) M2 hR2 ((wf 2 9 (by decide) (by decide)).trans hnw) h49 (fun T => ngo M (wr M x ch) nw 400 T) ch (nw + 1) 0 e x4 (by omega) (by omega) ⟨he.1, by omega⟩ (fun T hT => (hE T hT).trans ⟨fun k => ⟨k, fun j hj => absurd hj (Nat.not_lt_zero _)⟩, fun k => k.1⟩)).mono ?_
      rintro v h2 ⟨e2, rfl, rfl, k1, k2⟩
      exact ⟨e2, M2, rfl, rfl, wf, hR2, h48, k1, fun T hT => (k2 T hT).trans (odP_iff (fun i hi => (hpl i hi).1) (fun i hi => (hn5 i hi).1) hT).symm⟩
    · refine sx_aload_n d_H_drawEnd_48 rfl ?_
      refine sx_iload_n d_H_drawEnd_49 rfl ?_
      refine sx_callV (c_H_wet M2 hR2 ch hch) d_H_drawEnd_50 cd_H_drawWet lk_H_41 im_H_drawWet se_H_drawWet (go rfl rfl rfl) rfl rfl (by decide) (st := []) rfl rfl (Nat.le_of_ble_eq_true rfl) ⟨by decide, Nat.le_refl _, Nat.le_refl _⟩ (fun _ _ hq => ?_)
      obtain ⟨zw, rfl, zwb, zwi, rfl⟩ := hq
      rw [h48] at zwi
      rw [h48]
      have zwt : zw = 1 ↔ wt x ch d = true := by unfold wt; rw [decide_eq_true_iff]; exact zwi
      have wf5 : wfr2 M (sx_u M2 48 3 (nx (lcg x d))) := fun a k h1 h2 => by rw [sx_u_ne h1]; exact wf a k h1 h2
      have R5 : IR (sx_u M2 48 3 (nx (lcg x d))) := hR2.u _ _ (nx_r _)
      have h49b : ∀ j, j < nw → sx_u M2 48 3 (nx (lcg x d)) 49 j = (LF M (wr M x ch) j d : Int) := fun j hj => by rw [sx_u_ne (by decide)]; exact h49 j hj
      show sx_V _ _ _ _ (0, 0) _ _ [.inl zw] (gm (sx_u M2 48 3 (nx (lcg x d)))) _
      refine sx_istore (l' := [some (sx_p 48), some (.inl ch), some (.inl e), some (.inl (d : Int)), some (.inl zw)]) d_H_drawEnd_53 (by decide) rfl rfl ?_
      refine sx_iload d_H_drawEnd_55 rfl ?_
      refine sx_if_ne (tgt := 86) d_H_drawEnd_57 (by decide) (by omega) (fun c57_31 => ?_) (fun c57_31 => ?_)
      · refine sx_iinc (l' := [some (sx_p 48), some (.inl ch), some (.inl e), some (.inl ((d : Int) + 1)), some (.inl zw)]) d_H_drawEnd_86 rfl (by decide) rfl rfl ?_
        refine sx_goto (tgt := 41) d_H_drawEnd_89 (by decide) ?_
        have e1 : ((d : Int) + 1) = ((d + 1 : Nat) : Int) := by omega
        rw [e1]
        have rd : wr M x ch d = true := by unfold wr; first | (rw [zwt.mp (by omega), decide_eq_true (show d < 400 by omega)]; simp; done) | (cases hdr : dr M d; exact absurd (zki.mpr ⟨by omega, hdr⟩) (by omega); simp)
        exact ih (d + 1) e _ _ (by omega) (by omega) wf5 R5 rfl (fun j hj => by rw [wet_same rd j]; exact h49b j hj) ⟨he.1, by omega⟩ (fun T hT => (hE T hT).trans (wet_ngo rd T).symm)
      · refine sx_aload_n d_H_drawEnd_60 rfl ?_
        refine sx_getR (r := some (2)) d_H_drawEnd_61 fl_H_15 (go rfl rfl rfl) (by decide) (by decide) (by decide) rfl ?_
        refine sx_getR (r := some (3)) d_H_drawEnd_64 fl_H_45 (go rfl rfl rfl) (by decide) (by decide) (by decide) rfl ?_
        refine sx_iload_n d_H_drawEnd_67 rfl ?_
        refine sx_callV (by have q := z_of (c_D_isWorking (L := L) (xs := xs) (sx_u M2 48 3 (nx (lcg x d))) (lo_IDy wf5.lo hI) (d : Int) (by omega)); rw [lo_dr wf5.lo] at q; exact q) d_H_drawEnd_68 cd_D_isWorking lk_H_49 im_D_isWorking se_D_isWorking (go rfl rfl rfl) rfl rfl (by decide) (st := []) rfl rfl (Nat.le_of_ble_eq_true rfl) ⟨by decide, Nat.le_refl _, Nat.le_refl _⟩ (fun _ _ hq => ?_)
        obtain ⟨zk, rfl, zkb, zki, rfl⟩ := hq
        rw [Int.toNat_natCast] at zki
        show sx_V _ _ _ _ (0, 0) _ _ [.inl zk] (gm (sx_u M2 48 3 (nx (lcg x d)))) _
        refine sx_if_eq (tgt := 86) d_H_drawEnd_71 (by decide) (by omega) (fun c71_46 => ?_) (fun c71_46 => ?_)
        · refine sx_iinc (l' := [some (sx_p 48), some (.inl ch), some (.inl e), some (.inl ((d : Int) + 1)), some (.inl zw)]) d_H_drawEnd_86 rfl (by decide) rfl rfl ?_
          refine sx_goto (tgt := 41) d_H_drawEnd_89 (by decide) ?_
          have e1 : ((d : Int) + 1) = ((d + 1 : Nat) : Int) := by omega
          rw [e1]
          have rd : wr M x ch d = true := by unfold wr; first | (rw [zwt.mp (by omega), decide_eq_true (show d < 400 by omega)]; simp; done) | (cases hdr : dr M d; exact absurd (zki.mpr ⟨by omega, hdr⟩) (by omega); simp)
          exact ih (d + 1) e _ _ (by omega) (by omega) wf5 R5 rfl (fun j hj => by rw [wet_same rd j]; exact h49b j hj) ⟨he.1, by omega⟩ (fun T hT => (hE T hT).trans (wet_ngo rd T).symm)
        · refine sx_aload_n d_H_drawEnd_74 rfl ?_
          refine sx_iload_n d_H_drawEnd_75 rfl ?_
          refine sx_callV (c_H_go M hR nw hnw h6 (d : Int) (by omega) (sx_u M2 48 3 (nx (lcg x d))) R5 ((wf5 2 9 (by decide) (by decide)).trans hnw) (fun i => wf5 23 i (by decide) (by decide))) d_H_drawEnd_76 cd_H_goOn lk_H_54 im_H_goOn se_H_goOn (go rfl rfl rfl) rfl rfl (by decide) (st := []) rfl rfl (Nat.le_of_ble_eq_true rfl) ⟨by decide, Nat.le_refl _, Nat.le_refl _⟩ (fun _ _ hq => ?_)
          obtain ⟨zg, rfl, zgb, zgi, m3, rfl, m3g⟩ := hq
          have rd : wr M x ch d = false := by unfold wr; rw [(zki.mp (by omega)).2]; cases hwt : wt x ch d <;> simp; exact absurd (zwt.mpr hwt) (by omega)
          have m3n := dry_next rd (fun i hi => (hpl i hi).1.1) h49b m3g
          show sx_V _ _ _ _ (0, 0) _ _ [.inl zg] (gm m3) _
          refine sx_if_eq (tgt := 86) d_H_drawEnd_79 (by decide) (by omega) (fun c79_60 => ?_) (fun c79_60 => ?_)
          · refine sx_iinc (l' := [some (sx_p 48), some (.inl ch), some (.inl e), some (.inl ((d : Int) + 1)), some (.inl zw)]) d_H_drawEnd_86 rfl (by decide) rfl rfl ?_
            refine sx_goto (tgt := 41) d_H_drawEnd_89 (by decide) ?_
            have e1 : ((d : Int) + 1) = ((d + 1 : Nat) : Int) := by omega
            rw [e1]
            exact ih (d + 1) e _ _ (by omega) (by omega) (fun a k h1 h2 => (m3g.1 a k h2).trans (wf5 a k h1 h2)) m3g.2.1 ((m3g.1 48 3 (by decide)).trans rfl) m3n ⟨he.1, by omega⟩ (fun T hT => (hE T hT).trans (dry_no (fun i hi => (hpl i hi).1.1) h49b (fun q => by have := zgi.mpr q; omega) T).symm)
          · refine sx_iload_n d_H_drawEnd_82 rfl ?_
            refine sx_iconst d_H_drawEnd_83 ?_
            refine sx_iadd d_H_drawEnd_84 ?_
            refine sx_istore_n (l' := [some (sx_p 48), some (.inl ch), some (.inl ((d : Int) + 1)), some (.inl (d : Int)), some (.inl zw)]) d_H_drawEnd_85 (by decide) rfl rfl ?_
            refine sx_iinc (l' := [some (sx_p 48), some (.inl ch), some (.inl ((d : Int) + 1)), some (.inl ((d : Int) + 1)), some (.inl zw)]) d_H_drawEnd_86 rfl (by decide) rfl rfl ?_
            refine sx_goto (tgt := 41) d_H_drawEnd_89 (by decide) ?_
            have e1 : ((d : Int) + 1) = ((d + 1 : Nat) : Int) := by omega
            have hy := dry_yes rd (fun i hi => (hpl i hi).1.1) h49b (zgi.mp (by omega))
            rw [e1] at hy ⊢
            exact ih (d + 1) _ _ _ (by omega) (by omega) (fun a k h1 h2 => (m3g.1 a k h2).trans (wf5 a k h1 h2)) m3g.2.1 ((m3g.1 48 3 (by decide)).trans rfl) m3n ⟨by omega, by omega⟩ (fun T hT => hy T)
set_option maxRecDepth 100000 in
set_option maxHeartbeats 4000000 in
theorem l_H_1 {L : Nat} {xs : Nat → Int32} (M : Nat → Nat → Int) (hI : IDy M) (hR : IR M) (nw : Nat) (hnw : M 2 9 = (nw : Int)) (h6 : nw ≤ 6) (hpl : ∀ w, w < nw → (0 ≤ M 23 w ∧ M 23 w ≤ 99) ∧ (M 24 w = 0 ∨ M 24 w = 1)) (hn5 : ∀ i, i < nw → 1 ≤ M (14 + i) 5 ∧ M (14 + i) 5 ≤ 200) (x ch : Int) (hx : sx_r x) (hch : sx_r ch) : ∀ (n i : Nat) (M2 : Nat → Nat → Int), nw - i < n → i ≤ nw → wfr2 M M2 → IR M2 → M2 48 3 = x → (∀ j, j < i → M2 49 j = M (14 + j) 5) → sx_V y_H_drawEnd (1, 0, 0) L xs (0, 0) 2 [some (sx_p 48), some (.inl ch), some (.inl (i : Int)), none, none] [] (gm M2) (fun v h2 => ∃ e2 M3, v = some (.inl e2) ∧ h2 = gm M3 ∧ wfr2 M M3 ∧ IR M3 ∧ M3 48 3 = lcg x 400 ∧ (0 ≤ e2 ∧ e2 ≤ 1000) ∧ ∀ T, 0 ≤ T → (e2 ≤ T ↔ odP M nw x ch T)) := by
  intro n
  induction n with
  | zero => intro i M2 h1 h2; omega
  | succ n ih =>
    intro i M2 hn hi wf hR2 h48 h49
    refine sx_iload_n d_H_drawEnd_2 rfl ?_
    refine sx_aload_n d_H_drawEnd_3 rfl ?_
    refine sx_getR (r := some (2)) d_H_drawEnd_4 fl_H_15 (go rfl rfl rfl) (by decide) (by decide) (by decide) rfl ?_
    refine sx_getI (z := (nw : Int)) d_H_drawEnd_7 fl_H_27 (go rfl rfl rfl) (by decide) (by decide) (by decide) ((wf 2 9 (by decide) (by decide)).trans hnw) ?_
    refine sx_icmp_ge (tgt := 37) d_H_drawEnd_10 (by decide) (by omega) (by omega) (fun c10_12 => ?_) (fun c10_12 => ?_)
    · refine sx_iconst d_H_drawEnd_37 ?_
      refine sx_istore_n (l' := [some (sx_p 48), some (.inl ch), some (.inl 0), none, none]) d_H_drawEnd_38 (by decide) rfl rfl ?_
      refine sx_iconst d_H_drawEnd_39 ?_
      refine sx_istore_n (l' := [some (sx_p 48), some (.inl ch), some (.inl 0), some (.inl 0), none]) d_H_drawEnd_40 (by decide) rfl rfl ?_
      have e0 : i = nw := by omega
      subst e0
      exact l_H_2 M hI hR i hnw h6 hpl hn5 x ch hx hch 401 0 0 none M2 (by omega) (by omega) wf hR2 h48 (fun j hj => by rw [h49 j hj]; unfold LF; rw [lf_0]; have := hn5 j hj; omega) ⟨Int.le_refl _, Int.le_refl _⟩ (fun T hT => ⟨fun _ t _ h => absurd h (Nat.not_lt_zero _), fun _ => hT⟩)
    · refine sx_aload_n d_H_drawEnd_13 rfl ?_
      refine sx_getR (r := some (49)) d_H_drawEnd_14 fl_H_9 (go rfl rfl rfl) (by decide) (by decide) (by decide) rfl ?_
      refine sx_iload_n d_H_drawEnd_17 rfl ?_
      refine sx_aload_n d_H_drawEnd_18 rfl ?_
      refine sx_getR (r := some (2)) d_H_drawEnd_19 fl_H_15 (go rfl rfl rfl) (by decide) (by decide) (by decide) rfl ?_
      refine sx_getR (r := some (8)) d_H_drawEnd_22 fl_H_32 (go rfl rfl rfl) (by decide) (by decide) (by decide) rfl ?_
      refine sx_iload_n d_H_drawEnd_25 rfl ?_
      refine sx_aald (r := some ((14 + i))) d_H_drawEnd_26 (go rfl rfl rfl) (t := 0) rfl (by omega) (by omega) (by decide) (gr_w _ (by omega)) ?_
      refine sx_getI (z := (M (14 + i) 5)) d_H_drawEnd_27 fl_H_36 (go_w _ (by omega)) (by decide) (by decide) (by decide) (wf (14 + i) 5 (by omega) (by omega)) ?_
      refine sx_iast (h2 := gm (sx_u M2 49 i (M (14 + i) 5))) d_H_drawEnd_30 (go rfl rfl rfl) (by omega) (by omega) (by decide) rfl ?_
      refine sx_iinc (l' := [some (sx_p 48), some (.inl ch), some (.inl ((i : Int) + 1)), none, none]) d_H_drawEnd_31 rfl (by decide) rfl rfl ?_
      refine sx_goto (tgt := 2) d_H_drawEnd_34 (by decide) ?_
      have e1 : ((i : Int) + 1) = ((i + 1 : Nat) : Int) := by omega
      rw [e1]
      refine ih (i + 1) _ (by omega) (by omega) (fun a k h1 h2 => by rw [sx_u_ne h2]; exact wf a k h1 h2) (hR2.u _ _ (hR _ _)) h48 (fun j hj => ?_)
      by_cases q : j = i
      · subst q; rw [sx_us]
      · simp only [sx_u, q, and_false, if_false]; exact h49 j (by omega)
set_option maxRecDepth 100000 in
set_option maxHeartbeats 4000000 in
theorem c_H_end {L : Nat} {xs : Nat → Int32} (M : Nat → Nat → Int) (hI : IDy M) (hR : IR M) (nw : Nat) (hnw : M 2 9 = (nw : Int)) (h6 : nw ≤ 6) (hpl : ∀ w, w < nw → (0 ≤ M 23 w ∧ M 23 w ≤ 99) ∧ (M 24 w = 0 ∨ M 24 w = 1)) (hn5 : ∀ i, i < nw → 1 ≤ M (14 + i) 5 ∧ M (14 + i) 5 ≤ 200) (x ch : Int) (hx : sx_r x) (hch : sx_r ch) (M2 : Nat → Nat → Int) (wf : wfr2 M M2) (hR2 : IR M2) (h48 : M2 48 3 = x) : sx_R y_H_drawEnd (1, 0, 0) L xs [sx_p 48, .inl ch] (gm M2) (fun v h2 => ∃ e2 M3, v = some (.inl e2) ∧ h2 = gm M3 ∧ wfr2 M M3 ∧ IR M3 ∧ M3 48 3 = lcg x 400 ∧ (0 ≤ e2 ∧ e2 ≤ 1000) ∧ ∀ T, 0 ≤ T → (e2 ≤ T ↔ odP M nw x ch T)) := by
  refine sx_enter rfl (Nat.le_of_ble_eq_true rfl) rfl ?_
  show sx_V y_H_drawEnd (1, 0, 0) L xs (0, 0) 0 [some (sx_p 48), some (.inl ch), none, none, none] [] (gm M2) _
  refine sx_iconst d_H_drawEnd_0 ?_
  refine sx_istore_n (l' := [some (sx_p 48), some (.inl ch), some (.inl 0), none, none]) d_H_drawEnd_1 (by decide) rfl rfl ?_
  exact l_H_1 M hI hR nw hnw h6 hpl hn5 x ch hx hch (nw + 1) 0 M2 (by omega) (by omega) wf hR2 h48 (fun j hj => absurd hj (Nat.not_lt_zero _))
set_option maxRecDepth 100000 in
set_option maxHeartbeats 4000000 in
theorem c_odds_bad {L : Nat} {xs : Nat → Int32} (M : Nat → Nat → Int) (hR : IR M) (day dw ch x : Int) (hday : sx_r day) (hdw : sx_r dw) (hch : sx_r ch) (hx : sx_r x) (hbd : ¬ (M 1 7 ≠ 0 ∧ 0 ≤ day ∧ 1 ≤ dw ∧ dw ≤ 50 ∧ 0 ≤ ch ∧ ch ≤ 90)) : sx_R y_T_odds (2, 0, 0) L xs [sx_p 1, .inl day, .inl dw, .inl ch, .inl x] (gm M) (fun v h2 => v = some (.inl (-1)) ∧ h2 = gm M) := by
  refine sx_enter rfl (Nat.le_of_ble_eq_true rfl) rfl ?_
  show sx_V y_T_odds (2, 0, 0) L xs (0, 0) 0 [some (sx_p 1), some (.inl day), some (.inl dw), some (.inl ch), some (.inl x), none, none] [] (gm M) _
  refine sx_aload_n d_T_odds_0 rfl ?_
  refine sx_getI (z := (M 1 7)) d_T_odds_1 fl_T_186 (go rfl rfl rfl) (by decide) (by decide) (by decide) rfl ?_
  refine sx_if_eq (tgt := 31) d_T_odds_4 (by decide) (hR _ _) (fun c4_7 => ?_) (fun c4_7 => ?_)
  · refine sx_iconst d_T_odds_31 ?_
    refine sx_retI d_T_odds_32 (Or.inl rfl) ⟨Nat.zero_le _, Nat.zero_le _⟩ ?_
    exact ⟨rfl, rfl⟩
  · refine sx_iload_n d_T_odds_7 rfl ?_
    refine sx_if_lt (tgt := 31) d_T_odds_8 (by decide) (by omega) (fun c8_12 => ?_) (fun c8_12 => ?_)
    · refine sx_iconst d_T_odds_31 ?_
      refine sx_retI d_T_odds_32 (Or.inl rfl) ⟨Nat.zero_le _, Nat.zero_le _⟩ ?_
      exact ⟨rfl, rfl⟩
    · refine sx_iload_n d_T_odds_11 rfl ?_
      refine sx_iconst d_T_odds_12 ?_
      refine sx_bipush d_T_odds_13 (by decide) ?_
      refine sx_callS (z_of (c_isWithin M dw 1 50 (by omega) (by omega) (by omega))) d_T_odds_15 cd_T_isWithin lk_T_76 st_T_isWithin (st := []) rfl rfl (Nat.le_of_ble_eq_true rfl) ⟨by decide, Nat.le_refl _, Nat.le_refl _⟩ (fun _ _ hq => ?_)
      obtain ⟨z74, rfl, z74b, z74i, rfl⟩ := hq
      show sx_V _ _ _ _ (0, 0) _ _ [.inl z74] (gm M) _
      refine sx_if_eq (tgt := 31) d_T_odds_18 (by decide) (by omega) (fun c18_22 => ?_) (fun c18_22 => ?_)
      · refine sx_iconst d_T_odds_31 ?_
        refine sx_retI d_T_odds_32 (Or.inl rfl) ⟨Nat.zero_le _, Nat.zero_le _⟩ ?_
        exact ⟨rfl, rfl⟩
      · refine sx_iload_n d_T_odds_21 rfl ?_
        refine sx_iconst d_T_odds_22 ?_
        refine sx_bipush d_T_odds_23 (by decide) ?_
        refine sx_callS (z_of (c_isWithin M ch 0 90 (by omega) (by omega) (by omega))) d_T_odds_25 cd_T_isWithin lk_T_76 st_T_isWithin (st := []) rfl rfl (Nat.le_of_ble_eq_true rfl) ⟨by decide, Nat.le_refl _, Nat.le_refl _⟩ (fun _ _ hq => ?_)
        obtain ⟨z75, rfl, z75b, z75i, rfl⟩ := hq
        show sx_V _ _ _ _ (0, 0) _ _ [.inl z75] (gm M) _
        refine sx_if_ne (tgt := 33) d_T_odds_28 (by decide) (by omega) (fun c28_32 => ?_) (fun c28_32 => ?_)
        · omega
        · refine sx_iconst d_T_odds_31 ?_
          refine sx_retI d_T_odds_32 (Or.inl rfl) ⟨Nat.zero_le _, Nat.zero_le _⟩ ?_
          exact ⟨rfl, rfl⟩
set_option maxRecDepth 100000 in
set_option maxHeartbeats 4000000 in
theorem l_T_odds {L : Nat} {xs : Nat → Int32} (M : Nat → Nat → Int) (hI : IDy M) (hR : IR M) (nw : Nat) (hnw : M 2 9 = (nw : Int)) (h6 : nw ≤ 6) (hpl : ∀ w, w < nw → (0 ≤ M 23 w ∧ M 23 w ≤ 99) ∧ (M 24 w = 0 ∨ M 24 w = 1)) (hn5 : ∀ i, i < nw → 1 ≤ M (14 + i) 5 ∧ M (14 + i) 5 ≤ 200) (x ch : Int) (hx : sx_r x) (hch : sx_r ch) (day : Int) (hday : sx_r day) (h0 : 0 ≤ day) (dw : Nat) (hdw : dw ≤ 50) : ∀ (n i : Nat) (M2 : Nat → Nat → Int), dw - i < n → i ≤ dw → wfr2 M M2 → IR M2 → M2 48 3 = sd x i → sx_V y_T_odds (2, 0, 0) L xs (0, 0) 48 [some (sx_p 1), some (.inl day), some (.inl (dw : Int)), some (.inl ch), some (.inl x), some (.inl (sm (fun k => b01 (odP M nw (sd x k) ch day)) i)), some (.inl (i : Int))] [] (gm M2) (fun v h2 => v = some (.inl (sm (fun k => b01 (odP M nw (sd x k) ch day)) dw)) ∧ ∃ M2, h2 = gm M2 ∧ wfr2 M M2 ∧ IR M2) := by
  intro n
  induction n with
  | zero => intro i M2 h1 h2; omega
  | succ n ih =>
    intro i M2 hn hi wf hR2 h48
    refine sx_iload d_T_odds_48 rfl ?_
    refine sx_iload_n d_T_odds_50 rfl ?_
    refine sx_icmp_ge (tgt := 75) d_T_odds_51 (by decide) (by omega) (by omega) (fun c51_10 => ?_) (fun c51_10 => ?_)
    · refine sx_iload d_T_odds_75 rfl ?_
      refine sx_retI d_T_odds_77 (Or.inl rfl) ⟨Nat.zero_le _, Nat.zero_le _⟩ ?_
      have e0 : i = dw := by omega
      subst e0
      exact ⟨rfl, M2, rfl, wf, hR2⟩
    · refine sx_aload_n d_T_odds_54 rfl ?_
      refine sx_getR (r := some (48)) d_T_odds_55 fl_T_53 (go rfl rfl rfl) (by decide) (by decide) (by decide) rfl ?_
      refine sx_iload_n d_T_odds_58 rfl ?_
      refine sx_callV (c_H_end M hI hR nw hnw h6 hpl hn5 (sd x i) ch (sd_r hx i) hch M2 wf hR2 h48) d_T_odds_59 cd_H_drawEnd lk_T_227 im_H_drawEnd se_H_drawEnd (go rfl rfl rfl) rfl rfl (by decide) (st := []) rfl rfl (Nat.le_of_ble_eq_true rfl) ⟨by decide, Nat.le_refl _, Nat.le_refl _⟩ (fun _ _ hq => ?_)
      obtain ⟨e2, m3, rfl, rfl, m3f, m3R, m348, e2r, e2i⟩ := hq
      show sx_V _ _ _ _ (0, 0) _ _ [.inl e2] (gm m3) _
      refine sx_iload_n d_T_odds_62 rfl ?_
      refine sx_icmp_gt (tgt := 69) d_T_odds_63 (by decide) (by omega) (by omega) (fun c63_23 => ?_) (fun c63_23 => ?_)
      · refine sx_iinc (l' := [some (sx_p 1), some (.inl day), some (.inl (dw : Int)), some (.inl ch), some (.inl x), some (.inl (sm (fun k => b01 (odP M nw (sd x k) ch day)) i)), some (.inl ((i : Int) + 1))]) d_T_odds_69 rfl (by decide) rfl rfl ?_
        refine sx_goto (tgt := 48) d_T_odds_72 (by decide) ?_
        have e1 : ((i : Int) + 1) = ((i + 1 : Nat) : Int) := by omega
        rw [e1]
        have e2b : (sm (fun k => b01 (odP M nw (sd x k) ch day)) i) = sm (fun k => b01 (odP M nw (sd x k) ch day)) (i + 1) := by (show _ = sm (fun k => b01 (odP M nw (sd x k) ch day)) i + b01 _; rw [b01_f (fun q => by have := (e2i day h0).mpr q; omega)]; omega)
        rw [e2b]
        exact ih (i + 1) _ (by omega) (by omega) m3f m3R m348
      · refine sx_iinc (l' := [some (sx_p 1), some (.inl day), some (.inl (dw : Int)), some (.inl ch), some (.inl x), some (.inl ((sm (fun k => b01 (odP M nw (sd x k) ch day)) i) + 1)), some (.inl (i : Int))]) d_T_odds_66 rfl (by decide) rfl rfl ?_
        refine sx_iinc (l' := [some (sx_p 1), some (.inl day), some (.inl (dw : Int)), some (.inl ch), some (.inl x), some (.inl ((sm (fun k => b01 (odP M nw (sd x k) ch day)) i) + 1)), some (.inl ((i : Int) + 1))]) d_T_odds_69 rfl (by decide) rfl rfl ?_
        refine sx_goto (tgt := 48) d_T_odds_72 (by decide) ?_
        have e1 : ((i : Int) + 1) = ((i + 1 : Nat) : Int) := by omega
        rw [e1]
        have e2b : ((sm (fun k => b01 (odP M nw (sd x k) ch day)) i) + 1) = sm (fun k => b01 (odP M nw (sd x k) ch day)) (i + 1) := by (show _ = sm (fun k => b01 (odP M nw (sd x k) ch day)) i + b01 _; rw [b01_t ((e2i day h0).mp (by omega))])
        rw [e2b]
        exact ih (i + 1) _ (by omega) (by omega) m3f m3R m348
set_option maxRecDepth 100000 in
set_option maxHeartbeats 4000000 in
theorem c_odds_ok {L : Nat} {xs : Nat → Int32} (M : Nat → Nat → Int) (hI : IDy M) (hR : IR M) (nw : Nat) (hnw : M 2 9 = (nw : Int)) (h6 : nw ≤ 6) (hpl : ∀ w, w < nw → (0 ≤ M 23 w ∧ M 23 w ≤ 99) ∧ (M 24 w = 0 ∨ M 24 w = 1)) (hn5 : ∀ i, i < nw → 1 ≤ M (14 + i) 5 ∧ M (14 + i) 5 ≤ 200) (x ch : Int) (hx : sx_r x) (hch : sx_r ch) (day : Int) (hday : sx_r day) (h0 : 0 ≤ day) (dw : Nat) (hdw : dw ≤ 50) (hg : M 1 7 ≠ 0 ∧ 1 ≤ dw ∧ 0 ≤ ch ∧ ch ≤ 90) : sx_R y_T_odds (2, 0, 0) L xs [sx_p 1, .inl day, .inl (dw : Int), .inl ch, .inl x] (gm M) (fun v h2 => v = some (.inl (sm (fun k => b01 (odP M nw (sd x k) ch day)) dw)) ∧ ∃ M2, h2 = gm M2 ∧ wfr2 M M2 ∧ IR M2) := by
  refine sx_enter rfl (Nat.le_of_ble_eq_true rfl) rfl ?_
  show sx_V y_T_odds (2, 0, 0) L xs (0, 0) 0 [some (sx_p 1), some (.inl day), some (.inl (dw : Int)), some (.inl ch), some (.inl x), none, none] [] (gm M) _
  refine sx_aload_n d_T_odds_0 rfl ?_
  refine sx_getI (z := (M 1 7)) d_T_odds_1 fl_T_186 (go rfl rfl rfl) (by decide) (by decide) (by decide) rfl ?_
  refine sx_if_eq (tgt := 31) d_T_odds_4 (by decide) (hR _ _) (fun c4_7 => ?_) (fun c4_7 => ?_)
  · omega
  · refine sx_iload_n d_T_odds_7 rfl ?_
    refine sx_if_lt (tgt := 31) d_T_odds_8 (by decide) (by omega) (fun c8_10 => ?_) (fun c8_10 => ?_)
    · omega
    · refine sx_iload_n d_T_odds_11 rfl ?_
      refine sx_iconst d_T_odds_12 ?_
      refine sx_bipush d_T_odds_13 (by decide) ?_
      refine sx_callS (z_of (c_isWithin M (dw : Int) 1 50 (by omega) (by omega) (by omega))) d_T_odds_15 cd_T_isWithin lk_T_76 st_T_isWithin (st := []) rfl rfl (Nat.le_of_ble_eq_true rfl) ⟨by decide, Nat.le_refl _, Nat.le_refl _⟩ (fun _ _ hq => ?_)
      obtain ⟨z76, rfl, z76b, z76i, rfl⟩ := hq
      show sx_V _ _ _ _ (0, 0) _ _ [.inl z76] (gm M) _
      refine sx_if_eq (tgt := 31) d_T_odds_18 (by decide) (by omega) (fun c18_18 => ?_) (fun c18_18 => ?_)
      · omega
      · refine sx_iload_n d_T_odds_21 rfl ?_
        refine sx_iconst d_T_odds_22 ?_
        refine sx_bipush d_T_odds_23 (by decide) ?_
        refine sx_callS (z_of (c_isWithin M ch 0 90 (by omega) (by omega) (by omega))) d_T_odds_25 cd_T_isWithin lk_T_76 st_T_isWithin (st := []) rfl rfl (Nat.le_of_ble_eq_true rfl) ⟨by decide, Nat.le_refl _, Nat.le_refl _⟩ (fun _ _ hq => ?_)
        obtain ⟨z77, rfl, z77b, z77i, rfl⟩ := hq
        show sx_V _ _ _ _ (0, 0) _ _ [.inl z77] (gm M) _
        refine sx_if_ne (tgt := 33) d_T_odds_28 (by decide) (by omega) (fun c28_26 => ?_) (fun c28_26 => ?_)
        · refine sx_aload_n d_T_odds_33 rfl ?_
          refine sx_getR (r := some (48)) d_T_odds_34 fl_T_53 (go rfl rfl rfl) (by decide) (by decide) (by decide) rfl ?_
          refine sx_iload d_T_odds_37 rfl ?_
          refine sx_callV (c_H_begin M x) d_T_odds_39 cd_H_begin lk_T_224 im_H_begin se_H_begin (go rfl rfl rfl) rfl rfl (by decide) (st := []) rfl rfl (Nat.le_of_ble_eq_true rfl) ⟨by decide, Nat.le_refl _, Nat.le_refl _⟩ (fun _ _ hq => ?_)
          obtain ⟨rfl, rfl⟩ := hq
          show sx_V _ _ _ _ (0, 0) _ _ [] (gm (sx_u M 48 3 x)) _
          refine sx_iconst d_T_odds_42 ?_
          refine sx_istore (l' := [some (sx_p 1), some (.inl day), some (.inl (dw : Int)), some (.inl ch), some (.inl x), some (.inl 0), none]) d_T_odds_43 (by decide) rfl rfl ?_
          refine sx_iconst d_T_odds_45 ?_
          refine sx_istore (l' := [some (sx_p 1), some (.inl day), some (.inl (dw : Int)), some (.inl ch), some (.inl x), some (.inl 0), some (.inl 0)]) d_T_odds_46 (by decide) rfl rfl ?_
          exact l_T_odds M hI hR nw hnw h6 hpl hn5 x ch hx hch day hday h0 dw hdw (dw + 1) 0 (sx_u M 48 3 x) (by omega) (by omega) (fun a k h1 h2 => by rw [sx_u_ne h1]) (hR.u _ _ hx) rfl
        · omega
