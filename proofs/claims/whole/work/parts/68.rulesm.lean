theorem Bd_le_iff {M : Nat → Nat → Int} {k e : Int} (h0 : 0 ≤ e) (he : dr M e.toNat = false) : Bd M k ≤ Bd M e ↔ k ≤ e := by
  have h := dy_le_iff (f := k.toNat) he
  unfold Bd
  omega
theorem Bd_lt_iff {M : Nat → Nat → Int} {k e : Int} (h0 : 0 ≤ e) (he : dr M e.toNat = false) : Bd M e < Bd M k ↔ e < k := by
  have h := dy_lt_iff (f := k.toNat) he
  unfold Bd
  omega
theorem fS_iff {M : Nat → Nat → Int} {w : Nat} (hW : IW M w) {s d p up lo : Int} (hx : 0 ≤ wx M w p d ∧ wx M w p d ≤ 200) (hlo : 1 ≤ lo) : fS M w (wx M w p d) up lo ≤ Bd M s ↔ up * M (14 + w) 4 ≤ pT M w s d p 0 * lo := by
  have hv := hW.2.2.2.1
  have hq := wh_r (len := M (14 + w) 3 - M (14 + w) 2) (lv := 0) hx.1 hx.2 hv
  have hb := Bd_Dd M (n := Bd M s + wh (M (14 + w) 4) (M (14 + w) 3 - M (14 + w) 2) (wx M w p d) 0) (by have := (Bd_r M s).1; omega)
  have hd := (Dd_r M (Bd M s + wh (M (14 + w) 4) (M (14 + w) 3 - M (14 + w) 2) (wx M w p d) 0)).1
  unfold fS pT
  generalize wh (M (14 + w) 4) (M (14 + w) 3 - M (14 + w) 2) (wx M w p d) 0 = q at *
  generalize Dd M (Bd M s + q) = e at *
  generalize wx M w p d = x at *
  generalize M (14 + w) 4 = v at *
  have hB : 0 < lo * v := Int.mul_pos (by omega) (by omega)
  have h1 := Bd_le_iff (M := M) (k := -(((x - q * v) * lo - up * v) / (lo * v))) hd hb.2
  rw [hb.1] at h1
  have h2 : -e ≤ ((x - q * v) * lo - up * v) / (lo * v) ↔ -e * (lo * v) ≤ (x - q * v) * lo - up * v := Int.le_ediv_iff_mul_le hB
  have e1 : (e * v + x - q * v) * lo = e * (lo * v) + (x - q * v) * lo := by
    rw [show e * v + x - q * v = e * v + (x - q * v) by omega, Int.add_mul, Int.mul_assoc, Int.mul_comm v lo]
  have e2 : -e * (lo * v) = -(e * (lo * v)) := Int.neg_mul _ _
  rw [e1]
  rw [e2] at h2
  generalize e * (lo * v) = ee at *
  generalize (x - q * v) * lo = xx at *
  generalize up * v = uu at *
  generalize lo * v = bb at *
  omega
theorem lS_iff {M : Nat → Nat → Int} {w : Nat} (hW : IW M w) {s d p up lo : Int} (hx : 0 ≤ wx M w p d ∧ wx M w p d ≤ 200) (hlo : 1 ≤ lo) : Bd M s ≤ lS M w (wx M w p d) up lo ↔ pT M w s d p 1 * lo ≤ up * M (14 + w) 4 := by
  have hv := hW.2.2.2.1
  have hq := wh_r (len := M (14 + w) 3 - M (14 + w) 2) (lv := 1) hx.1 hx.2 hv
  have hb := Bd_Dd M (n := Bd M s + wh (M (14 + w) 4) (M (14 + w) 3 - M (14 + w) 2) (wx M w p d) 1) (by have := (Bd_r M s).1; omega)
  have hd := (Dd_r M (Bd M s + wh (M (14 + w) 4) (M (14 + w) 3 - M (14 + w) 2) (wx M w p d) 1)).1
  unfold lS pT
  generalize wh (M (14 + w) 4) (M (14 + w) 3 - M (14 + w) 2) (wx M w p d) 1 = q at *
  generalize Dd M (Bd M s + q) = e at *
  generalize wx M w p d = x at *
  generalize M (14 + w) 4 = v at *
  have hB : 0 < lo * v := Int.mul_pos (by omega) (by omega)
  have h1 := Bd_lt_iff (M := M) (k := (up * v - (x - q * v) * lo) / (lo * v) + 1) hd hb.2
  rw [hb.1] at h1
  have h2 : e ≤ (up * v - (x - q * v) * lo) / (lo * v) ↔ e * (lo * v) ≤ up * v - (x - q * v) * lo := Int.le_ediv_iff_mul_le hB
  have e1 : (e * v + x - q * v) * lo = e * (lo * v) + (x - q * v) * lo := by
    rw [show e * v + x - q * v = e * v + (x - q * v) by omega, Int.add_mul, Int.mul_assoc, Int.mul_comm v lo]
  rw [e1]
  generalize e * (lo * v) = ee at *
  generalize (x - q * v) * lo = xx at *
  generalize up * v = uu at *
  generalize lo * v = bb at *
  omega
/-- the last working day of a work -/
theorem eT_last {M : Nat → Nat → Int} {w : Nat} (hW : IW M w) (s : Int) : 0 ≤ eT M w s - 1 ∧ dr M (eT M w s - 1).toNat = false ∧ Bd M (eT M w s - 1) = Bd M s + M (14 + w) 5 - 1 := by
  have nq := hW.need
  have hb := Bd_Dd M (n := Bd M s + M (14 + w) 5 - 1) (by have := (Bd_r M s).1; omega)
  have hd := (Dd_r M (Bd M s + M (14 + w) 5 - 1)).1
  unfold eT
  rw [show Dd M (Bd M s + M (14 + w) 5 - 1) + 1 - 1 = Dd M (Bd M s + M (14 + w) 5 - 1) by omega]
  exact ⟨hd, hb.2, hb.1⟩
theorem own_iff {M : Nat → Nat → Int} {nw nb w : Nat} (hws : WKs M nw nb) (hw : w < nw) {s d : Int} (hs : 0 ≤ s ∧ s ≤ 99) (hsw : dr M s.toNat = false) : (oL M w d nb (Bd M s) ∧ oG M w (Bd M s)) ↔ mO M nb w s d := by
  obtain ⟨hW, hS, hB, _⟩ := hws w hw
  have el := eT_last hW s
  unfold oL oG mO
  have i1 := Bd_le_iff (M := M) (k := M (14 + w) 7) hs.1 hsw
  have i2 := Bd_le_iff (M := M) (k := M (14 + w) 9) hs.1 hsw
  have i3 := Bd_lt_iff (M := M) (k := M (14 + w) 8 + 1) el.1 el.2.1
  have i4 := (Bd_lt_iff (M := M) (k := 100) hs.1 hsw).mpr (by omega)
  have i5 : ∀ k, k < nb → M 11 k = (w : Int) → (fS M w (wx M w (M 12 k) d) (M 13 k) 1 ≤ Bd M s ↔ M 13 k * M (14 + w) 4 ≤ pT M w s d (M 12 k) 0) := fun k hk hkw => by
    have := fS_iff hW (s := s) (d := d) (p := M 12 k) (up := M 13 k) (lo := 1) (hB d k hk hkw).1 (Int.le_refl _)
    rw [Int.mul_one] at this
    exact this
  rw [el.2.2] at i3
  constructor
  · rintro ⟨⟨a, b, c⟩, e, f⟩
    exact ⟨i2.mp b, i1.mp a, by omega, fun k hk hkw => (i5 k hk hkw).mp (c k hk hkw)⟩
  · rintro ⟨b, a, e, c⟩
    exact ⟨⟨i1.mpr a, i2.mpr b, fun k hk hkw => (i5 k hk hkw).mpr (c k hk hkw)⟩, by omega, by omega⟩
theorem fI_cm (M : Nat → Nat → Int) (a b : Nat) : fI M a b = fI M b a := by unfold fI; (repeat' split) <;> omega
theorem lA_cm (M : Nat → Nat → Int) (a b : Nat) : lA M a b = lA M b a := by unfold lA; (repeat' split) <;> omega
theorem gapL_iff {M : Nat → Nat → Int} {S D : Nat → Int} {o w : Nat} (hO : IW M o) (hW : IW M w) (hg : -1 ≤ M 9 (6 * o + w)) {s d : Int} : kLs M S D o w d (Bd M s) ↔ mC M o w (S o) (D o) s d := by
  unfold kLs mC
  have h : ∀ q, fI M o w ≤ q → q ≤ lA M o w → (gLs M S D o w d q ≤ Bd M s ↔ (pT M o (S o) (D o) q 1 + M 9 (6 * o + w) * M (14 + o) 4) * M (14 + w) 4 ≤ pT M w s d q 0 * M (14 + o) 4) := fun q h1 h2 => by
    unfold gLs
    exact fS_iff hW (wx_in hW (fI_le h1).2 (lA_le h2).2) hO.2.2.2.1
  constructor
  · rintro (k | k)
    · exact Or.inl (by omega)
    · exact Or.inr fun q h1 h2 => (h q h1 h2).mp (k q h1 h2)
  · rintro (k | k)
    · exact Or.inl (by omega)
    · exact Or.inr fun q h1 h2 => (h q h1 h2).mpr (k q h1 h2)
theorem gapG_iff {M : Nat → Nat → Int} {S D : Nat → Int} {o w : Nat} (hO : IW M o) (hW : IW M w) (hg : -1 ≤ M 9 (6 * w + o)) {s d : Int} : kGs M S D o w d (Bd M s) ↔ mC M w o s d (S o) (D o) := by
  unfold kGs mC
  rw [fI_cm M w o, lA_cm M w o]
  have h : ∀ q, fI M o w ≤ q → q ≤ lA M o w → (Bd M s ≤ gGs M S D o w d q ↔ (pT M w s d q 1 + M 9 (6 * w + o) * M (14 + w) 4) * M (14 + o) 4 ≤ pT M o (S o) (D o) q 0 * M (14 + w) 4) := fun q h1 h2 => by
    unfold gGs
    rw [lS_iff hW (wx_in hW (fI_le h1).2 (lA_le h2).2) hO.2.2.2.1, Int.add_mul, Int.sub_mul]
    have e : M 9 (6 * w + o) * M (14 + o) 4 * M (14 + w) 4 = M 9 (6 * w + o) * M (14 + w) 4 * M (14 + o) 4 := by rw [Int.mul_assoc, Int.mul_comm (M (14 + o) 4), ← Int.mul_assoc]
    rw [e]
    omega
  constructor
  · rintro (k | k)
    · exact Or.inl (by omega)
    · exact Or.inr fun q h1 h2 => (h q h1 h2).mp (k q h1 h2)
  · rintro (k | k)
    · exact Or.inl (by omega)
    · exact Or.inr fun q h1 h2 => (h q h1 h2).mpr (k q h1 h2)
theorem sm_le {f g : Nat → Int} (n : Nat) (h : ∀ i, i < n → f i ≤ g i) : sm f n ≤ sm g n := by
  induction n with
  | zero => exact Int.le_refl _
  | succ n ih =>
    have := ih (fun i hi => h i (by omega))
    have := h n (by omega)
    simp only [sm]
    omega
/-- among some works with a mark there is one whose number is the greatest -/
theorem mxx {P : Nat → Prop} {f : Nat → Int} (n : Nat) : (∀ i, i < n → ¬ P i) ∨ ∃ j, j < n ∧ P j ∧ ∀ i, i < n → P i → f i ≤ f j := by
  induction n with
  | zero => exact Or.inl fun i hi => absurd hi (Nat.not_lt_zero _)
  | succ n ih =>
    by_cases q : P n
    · rcases ih with ih | ⟨j, hj, hp, hm⟩
      · refine Or.inr ⟨n, by omega, q, fun i hi hpi => ?_⟩
        by_cases e : i = n
        · subst e; exact Int.le_refl _
        · exact absurd hpi (ih i (by omega))
      · rcases Int.lt_or_le (f j) (f n) with z | z
        · refine Or.inr ⟨n, by omega, q, fun i hi hpi => ?_⟩
          by_cases e : i = n
          · subst e; exact Int.le_refl _
          · have := hm i (by omega) hpi; omega
        · refine Or.inr ⟨j, by omega, hp, fun i hi hpi => ?_⟩
          by_cases e : i = n
          · subst e; exact z
          · exact hm i (by omega) hpi
    · rcases ih with ih | ⟨j, hj, hp, hm⟩
      · refine Or.inl fun i hi => ?_
        by_cases e : i = n
        · subst e; exact q
        · exact ih i (by omega)
      · refine Or.inr ⟨j, by omega, hp, fun i hi hpi => ?_⟩
        by_cases e : i = n
        · subst e; exact absurd hpi q
        · exact hm i (by omega) hpi
/-- on a working day both counts are the same -/
theorem uf_cfs {M : Nat → Nat → Int} {S : Nat → Int} {w b : Nat} (hB : IW M b) {t : Int} (h0 : 0 ≤ t) (ht : dr M t.toNat = false) : uf M S w t b = cfs M S w (Bd M t) b := by
  have el := eT_last hB (S b)
  have i1 := Bd_le_iff (M := M) (k := S b) h0 ht
  have i2 := Bd_le_iff (M := M) (k := t) el.1 el.2.1
  rw [el.2.2] at i2
  unfold uf cfs
  by_cases q : b ≠ w ∧ M (14 + b) 1 = M (14 + w) 1 ∧ S b ≤ t ∧ t < eT M b (S b)
  · rw [if_pos q, if_pos ⟨q.1, q.2.1, i1.mpr q.2.2.1, by have := i2.mpr (by omega); omega⟩]
  · rw [if_neg q, if_neg (fun k => q ⟨k.1, k.2.1, i1.mp k.2.2.1, by have := i2.mp (by omega); omega⟩)]
theorem room_iff {M : Nat → Nat → Int} {S : Nat → Int} {w cnt : Nat} (hW : IW M w) (hO : ∀ o, o < cnt → IW M o) (hS : ∀ o, o < cnt → o ≠ w → 0 ≤ S o ∧ dr M (S o).toNat = false) {s : Int} (hs : 0 ≤ s) (hsw : dr M s.toNat = false) : hRs M S w s cnt ↔ (∀ b, b < cnt → b ≠ w → (M (14 + w) 0 ≠ M (14 + b) 0 ∨ eT M w s ≤ S b ∨ eT M b (S b) ≤ s)) ∧ ∀ day, s ≤ day → day < eT M w s → dr M day.toNat = false → 1 + sm (uf M S w day) cnt ≤ M 10 (M (14 + w) 1).toNat := by
  have elw := eT_last hW s
  have nw' := hW.need
  have cnt_eq : ∀ t, 0 ≤ t → dr M t.toNat = false → 1 + sm (uf M S w t) cnt = cns M S w (Bd M t) cnt := fun t h0 ht => by
    unfold cns
    rw [sm_c cnt (fun i hi => uf_cfs (S := S) (w := w) (hO i hi) h0 ht)]
  have inday : ∀ t, 0 ≤ t → dr M t.toNat = false → ((s ≤ t ↔ Bd M s ≤ Bd M t) ∧ (t < eT M w s ↔ Bd M t < Bd M s + M (14 + w) 5)) := fun t h0 ht => by
    have i1 := Bd_le_iff (M := M) (k := s) h0 ht
    have i2 := Bd_le_iff (M := M) (k := t) elw.1 elw.2.1
    rw [elw.2.2] at i2
    exact ⟨i1.symm, by omega⟩
  have apart : ∀ b, b < cnt → b ≠ w → ((eT M w s ≤ S b ↔ Bd M s + M (14 + w) 5 ≤ Bd M (S b)) ∧ (eT M b (S b) ≤ s ↔ Bd M (S b) + M (14 + b) 5 ≤ Bd M s)) := fun b hb hne => by
    have elb := eT_last (hO b hb) (S b)
    have i1 := Bd_lt_iff (M := M) (k := S b) elw.1 elw.2.1
    have i2 := Bd_lt_iff (M := M) (k := s) elb.1 elb.2.1
    rw [elw.2.2] at i1
    rw [elb.2.2] at i2
    exact ⟨by omega, by omega⟩
  unfold hRs
  constructor
  · rintro ⟨h1, h2⟩
    refine ⟨fun b hb hne => ?_, fun t t1 t2 t3 => ?_⟩
    · have ap := apart b hb hne
      rcases Int.lt_or_le (Bd M s) (Bd M (S b) + M (14 + b) 5) with q | q
      · rcases Int.lt_or_le (Bd M (S b)) (Bd M s + M (14 + w) 5) with q2 | q2
        · exact Or.inl fun e => (h2 b hb hne q q2).1 e.symm
        · exact Or.inr (Or.inl (ap.1.mpr q2))
      · exact Or.inr (Or.inr (ap.2.mpr q))
    · rw [cnt_eq t (by omega) t3]
      have id2 := inday t (by omega) t3
      have b1 := id2.1.mp t1
      have b2 := id2.2.mp t2
      rcases mxx (P := fun o => (o ≠ w ∧ M (14 + o) 1 = M (14 + w) 1 ∧ Bd M (S o) ≤ Bd M t ∧ Bd M t < Bd M (S o) + M (14 + o) 5) ∧ Bd M s < Bd M (S o)) (f := fun o => Bd M (S o)) cnt with hm | ⟨j, hj, hp, hm⟩
      · refine Int.le_trans ?_ h1
        unfold cns
        refine Int.add_le_add_left (sm_le cnt (fun i hi => ?_)) 1
        have := hm i hi
        unfold cfs
        by_cases q : i ≠ w ∧ M (14 + i) 1 = M (14 + w) 1 ∧ Bd M (S i) ≤ Bd M t ∧ Bd M t < Bd M (S i) + M (14 + i) 5
        · have q5 : ¬ Bd M s < Bd M (S i) := fun z => this ⟨q, z⟩
          rw [if_pos q, if_pos ⟨q.1, q.2.1, by omega, by omega⟩]
          exact Int.le_refl _
        · rw [if_neg q]
          split <;> omega
      · obtain ⟨⟨p1, p2, p3, p4⟩, p5⟩ := hp
        have nj := (hO j hj).need
        refine Int.le_trans ?_ ((h2 j hj p1 (by omega) (by omega)).2 p5)
        unfold cns
        refine Int.add_le_add_left (sm_le cnt (fun i hi => ?_)) 1
        have := hm i hi
        unfold cfs
        by_cases q : i ≠ w ∧ M (14 + i) 1 = M (14 + w) 1 ∧ Bd M (S i) ≤ Bd M t ∧ Bd M t < Bd M (S i) + M (14 + i) 5
        · have q6 : Bd M (S i) ≤ Bd M (S j) := by
            by_cases q5 : Bd M s < Bd M (S i)
            · exact this ⟨q, q5⟩
            · omega
          rw [if_pos q, if_pos ⟨q.1, q.2.1, by omega, by omega⟩]
          exact Int.le_refl _
        · rw [if_neg q]
          split <;> omega
  · rintro ⟨h1, h2⟩
    refine ⟨?_, fun o ho hne m1 m2 => ⟨?_, fun m3 => ?_⟩⟩
    · rw [← cnt_eq s hs hsw]
      have id2 := inday s hs hsw
      exact h2 s (Int.le_refl _) (id2.2.mpr (by omega)) hsw
    · have ap := apart o ho hne
      rcases h1 o ho hne with q | q | q
      · exact fun e => q e.symm
      · have := ap.1.mp q; omega
      · have := ap.2.mp q; omega
    · have hso := hS o ho hne
      rw [← cnt_eq (S o) hso.1 hso.2]
      have id2 := inday (S o) hso.1 hso.2
      exact h2 (S o) (id2.1.mpr (by omega)) (id2.2.mpr m2) hso.2
/-- THE RULES: by windows and by looking at every place and day -/
theorem rules_iff {M : Nat → Nat → Int} {nw nb w cnt : Nat} {S D : Nat → Int} (h6 : nw ≤ 6) (hws : WKs M nw nb) (hgp : ∀ j, j < 36 → -1 ≤ M 9 j ∧ M 9 j ≤ 30) (hw : w < nw) (hc : cnt ≤ nw) (hS : ∀ o, o < cnt → o ≠ w → 0 ≤ S o ∧ dr M (S o).toNat = false) {s d : Int} (hs : 0 ≤ s ∧ s ≤ 99) (hsw : dr M s.toNat = false) : ((oL M w d nb (Bd M s) ∧ ∀ o, o < cnt → o ≠ w → kLs M S D o w d (Bd M s)) ∧ (oG M w (Bd M s) ∧ ∀ o, o < cnt → o ≠ w → kGs M S D o w d (Bd M s)) ∧ hRs M S w s cnt) ↔ mA M nb w cnt S D s d := by
  have hW := (hws w hw).1
  have r := room_iff (S := S) (cnt := cnt) hW (fun o ho => (hws o (by omega)).1) hS hs.1 hsw
  have o := own_iff hws hw (d := d) hs hsw
  have gl : ∀ b, b < cnt → (kLs M S D b w d (Bd M s) ↔ mC M b w (S b) (D b) s d) := fun b hb => gapL_iff (hws b (by omega)).1 hW (hgp _ (by omega)).1
  have gg : ∀ b, b < cnt → (kGs M S D b w d (Bd M s) ↔ mC M w b s d (S b) (D b)) := fun b hb => gapG_iff (hws b (by omega)).1 hW (hgp _ (by omega)).1
  unfold mA mW
  constructor
  · rintro ⟨⟨a1, a2⟩, ⟨a3, a4⟩, a5⟩
    have r2 := r.mp a5
    exact ⟨o.mp ⟨a1, a3⟩, fun b hb hne => ⟨r2.1 b hb hne, (gg b hb).mp (a4 b hb hne), (gl b hb).mp (a2 b hb hne)⟩, r2.2⟩
  · rintro ⟨a1, a2, a3⟩
    have o2 := o.mpr a1
    exact ⟨⟨o2.1, fun b hb hne => (gl b hb).mpr (a2 b hb hne).2.2⟩, ⟨o2.2, fun b hb hne => (gg b hb).mpr (a2 b hb hne).2.1⟩, r.mpr ⟨fun b hb hne => (a2 b hb hne).1, a3⟩⟩
