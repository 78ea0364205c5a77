theorem gE_m {M N : Nat → Nat → Int} (hd : dr N = dr M) (S : Nat → Int) (n : Nat) (h5 : ∀ w, w < n → N (14 + w) 5 = M (14 + w) 5) : gE N S n = gE M S n := by
  induction n with
  | zero => rfl
  | succ n ih =>
    have e : eT N n (S n) = eT M n (S n) := by simp only [eT, Dd, Bd, hd, h5 n (by omega)]
    simp only [gE, ih (fun w hw => h5 w (by omega)), e]
/-- what is told stays; the plan, what is frozen and what is late may be others -/
theorem MR.kp {M N : Nat → Nat → Int} {nc nw nb : Nat} (hM : MR M nc nw nb) (he : ∀ a k, a ≠ 21 → ¬ (25 ≤ a ∧ a ≤ 49) → a ≠ 65 → a < 72 → a ≠ 1 → a ≠ 23 → a ≠ 24 → a ≠ 50 → ¬ (67 ≤ a ∧ a ≤ 71) → ¬ (14 ≤ a ∧ a < 20 ∧ 9 ≤ k) → ¬ (a = 51 ∧ 19 ≤ k) → N a k = M a k) (hR : IR N) (h9 : ∀ w, w < nw → 0 ≤ N (14 + w) 9 ∧ N (14 + w) 9 ≤ 999) (kfz : ∀ w, w < nw → N 69 w = N (14 + w) 10 ∧ (N (14 + w) 10 = 0 ∨ N (14 + w) 10 = 1)) (klt : ∀ w, w < nw → N 70 w = N (14 + w) 9) (k01 : N 1 7 = 0 ∨ N 1 7 = 1) (kha : N 51 19 = N 1 7) (kpl : N 1 7 ≠ 0 → ∀ w, w < nw → (0 ≤ N 23 w ∧ N 23 w ≤ 99) ∧ (N 24 w = 0 ∨ N 24 w = 1)) (kplw : N 1 7 ≠ 0 → ∀ w, w < nw → dr M (N 23 w).toNat = false) (kst : N 1 7 ≠ 0 → ∀ w, w < nw → N 67 w = N 23 w ∧ N 68 w = N 24 w) (kpen : N 1 7 ≠ 0 → N 1 8 = gE M (N 23) nw) (knf : N 1 7 = 0 → ∀ w, w < nw → N (14 + w) 10 = 0) (kmv : N 1 7 ≠ 0 → ∀ w, w < nw → N 71 w = N 50 w ∧ (N 50 w = 0 ∨ N 50 w = 1)) (kpr : N 51 25 = N 1 9 ∧ (N 1 9 = 0 ∨ N 1 9 = 1)) (ktr : N 51 26 = N 1 10) (k7w : N 1 7 ≠ 0 → 1 ≤ nw) (kfr : ∀ w, nw ≤ w → w < 6 → N (14 + w) 9 = 0 ∧ N (14 + w) 10 = 0 ∧ N 69 w = 0 ∧ N 70 w = 0) : MR N nc nw nb := by
  have w6 := hM.w6
  have c4 := hM.c4
  have b8 := hM.b8
  have hdr : dr N = dr M := by (funext d; unfold dr; simp (disch := omega) only [he])
  exact ⟨(by unfold IDy; rw [hdr]; simp (disch := omega) only [he]; exact hM.dy),
    hR,
    (by simp (disch := omega) only [he]; exact hM.cn),
    hM.c4,
    (by simp (disch := omega) only [he]; exact hM.wn),
    hM.w6,
    (by simp (disch := omega) only [he]; exact hM.bn),
    hM.b8,
    (fun w hw => by have k := hM.ws w hw; refine ⟨?_, ?_, fun d => ?_, ?_, ?_⟩; (unfold IW; simp (disch := omega) only [he]; exact k.1); (have s := k.2.1; unfold IS at s ⊢; have s9 := h9 w hw; rw [show N (14 + w) 7 = M (14 + w) 7 by simp (disch := omega) only [he], show N (14 + w) 8 = M (14 + w) 8 by simp (disch := omega) only [he]]; exact ⟨s.1, s.2.1, s.2.2.1, s.2.2.2.1, s9.1, s9.2⟩); (unfold IB wx; simp (disch := omega) only [he]; exact k.2.2.1 d); (simp (disch := omega) only [he]; exact k.2.2.2.1); (simp (disch := omega) only [he]; exact k.2.2.2.2)),
    (by simp (disch := omega) only [he]; exact hM.gp),
    (by simp (disch := omega) only [he]; exact hM.mcn),
    (by simp (disch := omega) only [he]; exact hM.mwn),
    (by simp (disch := omega) only [he]; exact hM.mbn),
    (by simp (disch := omega) only [he]; exact hM.mrs),
    (by simp (disch := omega) only [he]; exact hM.mkd),
    (fun w hw => by simp (disch := omega) only [he]; exact hM.mcr w hw),
    (fun w hw => by simp (disch := omega) only [he]; exact hM.mfr w hw),
    (fun w hw => by simp (disch := omega) only [he]; exact hM.mto w hw),
    (fun w hw => by simp (disch := omega) only [he]; exact hM.msp w hw),
    (fun w hw => by simp (disch := omega) only [he]; exact hM.mbo w hw),
    (by simp (disch := omega) only [he]; exact hM.mgp),
    (fun w hw => by simp (disch := omega) only [he]; exact hM.mfi w hw),
    (fun w hw => by simp (disch := omega) only [he]; exact hM.mla w hw),
    (by simp (disch := omega) only [he]; exact hM.mb1),
    (by simp (disch := omega) only [he]; exact hM.mb2),
    (by simp (disch := omega) only [he]; exact hM.mb3),
    (by simp (disch := omega) only [he]; exact hM.mre),
    (by simp (disch := omega) only [he]; exact hM.mmo),
    kfz,
    klt,
    k01,
    kha,
    kpl,
    (by rw [hdr]; exact kplw),
    kst,
    (fun z => by rw [kpen z]; exact (gE_m hdr _ _ (fun w hw => by simp (disch := omega) only [he])).symm),
    knf,
    kmv,
    kpr,
    ktr,
    (fun w h1 h2 => by have k := hM.fresh w h1 h2; have k2 := kfr w h1 h2; refine ⟨?_, ?_, k2.1, k2.2.1, k2.2.2.1, k2.2.2.2⟩; (simp (disch := omega) only [he]; exact k.1); (simp (disch := omega) only [he]; exact k.2.1)),
    (by simp (disch := omega) only [he]; exact hM.freshg),
    (by simp (disch := omega) only [he]; exact hM.self),
    (by simp (disch := omega) only [he]; exact hM.mo),
    (by simp (disch := omega) only [he]; exact hM.mbw),
    k7w⟩
set_option maxHeartbeats 4000000 in
theorem p_late {L : Nat} {xs : Nat → Int32} {x q : Int} (hx : sx_r x) (hq : sx_r q) {M : Nat → Nat → Int} (hE : MRE M) : PP y_T_late y_M_late L xs [.inl x, .inl q] M := by
  obtain ⟨nc, nw, nb, hM⟩ := hE
  have hE : MRE M := ⟨nc, nw, nb, hM⟩
  have w6 := hM.w6
  by_cases hg : M 1 7 ≠ 0 ∧ 0 ≤ x ∧ x < nw ∧ 0 ≤ q ∧ q ≤ 100
  · obtain ⟨u, rfl⟩ := Int.eq_ofNat_of_zero_le (show 0 ≤ x by omega)
    have hg2 : M 1 7 ≠ 0 ∧ u < nw ∧ 0 ≤ q ∧ q ≤ 100 := by omega
    have hp := (hM.pl hg.1 u hg2.2.1).1
    refine pp1 (Nat.le_of_ble_eq_true rfl) (c_late_ok M hM.ir nw hM.wn hM.w6 u q hq hg2) ?_
    rintro v h2 ⟨rfl, rfl⟩
    have hs : sf M (sx_u M (14 + u) 9 (M 23 u + q)) := fun a k h1 _ _ => sx_un (by omega)
    have hr : IR (sx_u M (14 + u) 9 (M 23 u + q)) := hM.ir.u _ _ (by omega)
    refine ⟨_, _, _, _, rfl, rfl, ?_, m_late_ok M nc nw nb hM _ hs hr u q hq hg2, ?_⟩
    · exact (Nat.le_of_ble_eq_true rfl)
    rintro v h3 ⟨rfl, rfl⟩
    have en : ∀ a k, ¬ (a = 70 ∧ k = u) → ¬ (a = 14 + u ∧ k = 9) → (sx_u (sx_u M (14 + u) 9 (M 23 u + q)) 70 u (M 23 u + q)) a k = M a k := fun a k q1 q2 => by rw [sx_un q1, sx_un q2]
    have e70 : (sx_u (sx_u M (14 + u) 9 (M 23 u + q)) 70 u (M 23 u + q)) 70 u = M 23 u + q := sx_us
    have e9 : (sx_u (sx_u M (14 + u) 9 (M 23 u + q)) 70 u (M 23 u + q)) (14 + u) 9 = M 23 u + q := by rw [sx_un (by omega), sx_us]
    refine ⟨rfl, _, rfl, nc, nw, nb, hM.kp (fun a k q1 q2 q3 q4 q5 q6 q7 q8 q9 q10 q11 => en a k (by omega) (by omega)) (hr.u _ _ (by omega)) (fun w hw => ?_) (fun w hw => by simp (disch := omega) only [en]; exact hM.mfz w hw) (fun w hw => ?_) (by simp (disch := omega) only [en]; exact hM.h01) (by simp (disch := omega) only [en]; exact hM.mha) (by simp (disch := omega) only [en]; exact hM.pl) (by simp (disch := omega) only [en]; exact hM.plw) (by simp (disch := omega) only [en]; exact hM.mst) (fun _ => ?_) (fun z w hw => by rw [en 1 7 (by omega) (by omega)] at z; exact absurd z hg.1) (by simp (disch := omega) only [en]; exact hM.mmv) (by simp (disch := omega) only [en]; exact hM.mpr) (by simp (disch := omega) only [en]; exact hM.mtr) (fun _ => hM.h7w hg.1) (fun w h1 h2 => ?_)⟩
    · by_cases e : w = u
      · rw [e, e9]; omega
      · rw [en _ _ (by omega) (by omega)]; have s := (hM.ws w hw).2.1; unfold IS at s; omega
    · by_cases e : w = u
      · rw [e, e70, e9]
      · rw [en _ _ (by omega) (by omega), en _ _ (by omega) (by omega)]; exact hM.mlt w hw
    · rw [en _ _ (by omega) (by omega), hM.pen hg.1]
      exact (gE_c nw (fun i hi => en _ _ (by omega) (by omega))).symm
    · have k := hM.fresh w h1 h2
      rw [en _ _ (by omega) (by omega), en _ _ (by omega) (by omega), en _ _ (by omega) (by omega), en _ _ (by omega) (by omega)]
      exact ⟨k.2.2.1, k.2.2.2.1, k.2.2.2.2.1, k.2.2.2.2.2⟩
  · exact pp_q hE (Nat.le_of_ble_eq_true rfl) (Nat.le_of_ble_eq_true rfl) (c_late_bad M hM.ir nw hM.wn hM.w6 x q hx hq hg) (m_late_bad M nc nw nb hM M (sf.rf M) hM.ir x q hx hq hg)
set_option maxHeartbeats 4000000 in
theorem p_freeze {L : Nat} {xs : Nat → Int32} {x : Int} (hx : sx_r x) {M : Nat → Nat → Int} (hE : MRE M) : PP y_T_freeze y_M_freeze L xs [.inl x] M := by
  obtain ⟨nc, nw, nb, hM⟩ := hE
  have hE : MRE M := ⟨nc, nw, nb, hM⟩
  have w6 := hM.w6
  by_cases hg : M 1 7 ≠ 0 ∧ 0 ≤ x
  · refine pp1 (Nat.le_of_ble_eq_true rfl) (c_freeze_ok M hM.ir nw hM.wn hM.w6 x hx hg) ?_
    rintro v h2 ⟨M1, rfl, rfl, f1, f2, f3⟩
    have hs : sf M M1 := fun a k h1 _ _ => f1 a k (by omega)
    refine ⟨_, M1, _, _, rfl, rfl, ?_, m_freeze_ok M nc nw nb hM M1 hs f3 x hx hg.1 hg.2, ?_⟩
    · exact (Nat.le_of_ble_eq_true rfl)
    rintro v h3 ⟨rfl, M3, rfl, g1, g2, g3⟩
    have en : ∀ a k, ¬ (a = 69 ∧ k < nw) → ¬ (14 ≤ a ∧ a < 14 + nw ∧ k = 10) → M3 a k = M a k := fun a k q1 q2 => by rw [g1 a k q1, f1 a k q2]
    have e10 : ∀ w, w < nw → M3 (14 + w) 10 = if M 23 w < x then 1 else 0 := fun w hw => by rw [g1 _ _ (by omega)]; exact f2 w hw
    refine ⟨?_, M3, rfl, nc, nw, nb, hM.kp (fun a k q1 q2 q3 q4 q5 q6 q7 q8 q9 q10 q11 => en a k (by omega) (by omega)) g3 (fun w hw => ?_) (fun w hw => ?_) (fun w hw => ?_) (by simp (disch := omega) only [en]; exact hM.h01) (by simp (disch := omega) only [en]; exact hM.mha) (by simp (disch := omega) only [en]; exact hM.pl) (by simp (disch := omega) only [en]; exact hM.plw) (by simp (disch := omega) only [en]; exact hM.mst) (fun _ => ?_) (fun z w hw => by rw [en 1 7 (by omega) (by omega)] at z; exact absurd z hg.1) (by simp (disch := omega) only [en]; exact hM.mmv) (by simp (disch := omega) only [en]; exact hM.mpr) (by simp (disch := omega) only [en]; exact hM.mtr) (fun _ => hM.h7w hg.1) (fun w h1 h2 => ?_)⟩
    · rw [sm_c nw (fun j hj => show (if M1 (14 + j) 10 = 0 then (0 : Int) else 1) = if M 23 j < x then 1 else 0 by rw [f2 j hj]; split <;> simp)]
    · rw [en _ _ (by omega) (by omega)]; have s := (hM.ws w hw).2.1; unfold IS at s; omega
    · rw [g2 w hw, e10 w hw]; exact ⟨rfl, by split; exact Or.inr rfl; exact Or.inl rfl⟩
    · rw [en _ _ (by omega) (by omega), en _ _ (by omega) (by omega)]; exact hM.mlt w hw
    · rw [en _ _ (by omega) (by omega), hM.pen hg.1]
      exact (gE_c nw (fun i hi => en _ _ (by omega) (by omega))).symm
    · have k := hM.fresh w h1 h2
      refine ⟨?_, ?_, ?_, ?_⟩
      · rw [en _ _ (by omega) (by omega)]; exact k.2.2.1
      · rw [en _ _ (by omega) (by omega)]; exact k.2.2.2.1
      · rw [en _ _ (by omega) (by omega)]; exact k.2.2.2.2.1
      · rw [en _ _ (by omega) (by omega)]; exact k.2.2.2.2.2
  · exact pp_q hE (Nat.le_of_ble_eq_true rfl) (Nat.le_of_ble_eq_true rfl) (c_freeze_bad M hM.ir x hx hg) (m_freeze_bad M nc nw nb hM M (sf.rf M) hM.ir x hx hg)
theorem MR.PH {M : Nat → Nat → Int} {nc nw nb : Nat} (hM : MR M nc nw nb) : PH M nw nb := by
  refine ⟨hM.dy, hM.ir, hM.wn, hM.w6, hM.bn, hM.b8, fun w hw => ?_, hM.gp⟩
  have k := hM.ws w hw
  refine ⟨k.1, k.2.1, k.2.2.1, k.2.2.2.1, k.2.2.2.2, (hM.mfz w hw).2, fun z => ?_⟩
  have h7 : M 1 7 ≠ 0 := fun h => by have := hM.nofz h w hw; omega
  have p := hM.pl h7 w hw
  exact ⟨p.1.1, p.1.2, p.2⟩
section RP
variable {M M1 M2 M3 M4 : Nat → Nat → Int} {nc nw nb : Nat} {ag g : Int} {S D : Nat → Int} {F : (Int × sB) × Bool}
/-- nothing found: the plan stays -/
theorem rp_n (hM : MR M nc nw nb) (hST : ST M ag g nw 0 S D F M1) (ht : tkn M1 M2) (hs : sf M M3) (hR : IR M3) (hl : lwf M2 M3) (h26 : M3 51 26 = F.1.1) (h25 : M3 51 25 = if F.2 = true then 0 else 1) : MR M3 nc nw nb := by
  have w6 := hM.w6
  have en : ∀ a k, a ≠ 1 → ¬ (25 ≤ a ∧ a ≤ 46) → a < 72 → a ≠ 65 → ¬ (a = 51 ∧ 25 ≤ k) → M3 a k = M a k := by
    intro a k q1 q2 q3 q4 q5
    by_cases q : a < 51
    · rw [hl a k q, ht.1 a k q1]
      exact hST.1 a k (by omega)
    · exact hs a k (by omega) q4 q5
  have e7 : M3 1 7 = M 1 7 := by rw [hl 1 7 (by omega), ht.2.1]; exact hST.1 1 7 (by omega)
  have e8 : M3 1 8 = M 1 8 := by rw [hl 1 8 (by omega), ht.2.2.1]; exact hST.1 1 8 (by omega)
  have e9 : M3 1 9 = if F.2 = true then 0 else 1 := by
    rw [hl 1 9 (by omega), ht.2.2.2.1, hST.2.2.2.2.2.1]
    by_cases q : F.2 = true
    · rw [if_pos q, if_pos q]; rfl
    · rw [if_neg q, if_neg q]; rfl
  have e10 : M3 1 10 = F.1.1 := by rw [hl 1 10 (by omega), ht.2.2.2.2.1, hST.2.2.2.2.1]
  refine hM.kp (fun a k q1 q2 q3 q4 q5 q6 q7 q8 q9 q10 q11 => en a k (by omega) (by omega) (by omega) (by omega) (by omega)) hR (fun w hw => ?_) (fun w hw => ?_) (fun w hw => ?_) (by rw [e7]; exact hM.h01) (by rw [e7, en 51 19 (by omega) (by omega) (by omega) (by omega) (by omega)]; exact hM.mha) (fun z w hw => ?_) (fun z w hw => ?_) (fun z w hw => ?_) (fun z => ?_) (fun z w hw => ?_) (fun z w hw => ?_) ?_ (by rw [h26, e10]) (fun z => by rw [e7] at z; exact hM.h7w z) (fun w h1 h2 => ?_)
  · rw [en _ _ (by omega) (by omega) (by omega) (by omega) (by omega)]; have s := (hM.ws w hw).2.1; unfold IS at s; omega
  · rw [en 69 _ (by omega) (by omega) (by omega) (by omega) (by omega), en (14 + w) 10 (by omega) (by omega) (by omega) (by omega) (by omega)]; exact hM.mfz w hw
  · rw [en 70 _ (by omega) (by omega) (by omega) (by omega) (by omega), en (14 + w) 9 (by omega) (by omega) (by omega) (by omega) (by omega)]; exact hM.mlt w hw
  · rw [e7] at z
    rw [en 23 _ (by omega) (by omega) (by omega) (by omega) (by omega), en 24 _ (by omega) (by omega) (by omega) (by omega) (by omega)]; exact hM.pl z w hw
  · rw [e7] at z
    rw [en 23 _ (by omega) (by omega) (by omega) (by omega) (by omega)]; exact hM.plw z w hw
  · rw [e7] at z
    rw [en 23 _ (by omega) (by omega) (by omega) (by omega) (by omega), en 24 _ (by omega) (by omega) (by omega) (by omega) (by omega), en 67 _ (by omega) (by omega) (by omega) (by omega) (by omega), en 68 _ (by omega) (by omega) (by omega) (by omega) (by omega)]; exact hM.mst z w hw
  · rw [e7] at z
    rw [e8, hM.pen z]
    exact (gE_c nw (fun i hi => en 23 i (by omega) (by omega) (by omega) (by omega) (by omega))).symm
  · rw [e7] at z
    rw [en (14 + w) 10 (by omega) (by omega) (by omega) (by omega) (by omega)]; exact hM.nofz z w hw
  · rw [e7] at z
    rw [en 71 _ (by omega) (by omega) (by omega) (by omega) (by omega), en 50 _ (by omega) (by omega) (by omega) (by omega) (by omega)]; exact hM.mmv z w hw
  · rw [h25, e9]
    exact ⟨rfl, by split; exact Or.inl rfl; exact Or.inr rfl⟩
  · have k := hM.fresh w h1 h2
    rw [en (14 + w) 9 (by omega) (by omega) (by omega) (by omega) (by omega), en (14 + w) 10 (by omega) (by omega) (by omega) (by omega) (by omega), en 69 _ (by omega) (by omega) (by omega) (by omega) (by omega), en 70 _ (by omega) (by omega) (by omega) (by omega) (by omega)]
    exact ⟨k.2.2.1, k.2.2.2.1, k.2.2.2.2.1, k.2.2.2.2.2⟩
/-- a plan found: both take it over -/
theorem rp_s (hM : MR M nc nw nb) (h1 : 1 ≤ nw) (hag7 : ag ≠ 0 → M 1 7 ≠ 0) {q : (Nat → Int) × (Nat → Int)} (hST : ST M ag g nw 0 S D F M1) (hF : F.1.2 = some q) (ht : tko nw ag M1 M2) (hs : sf M M3) (hl : lwf M2 M3) (h26 : M3 51 26 = F.1.1) (h25 : M3 51 25 = if F.2 = true then 0 else 1) (hb : eb2 M ag nw M3 (some q)) (hk : tkm nw ag M3 M4) : MR M4 nc nw nb := by
  have w6 := hM.w6
  have hb1 : eb M ag nw M1 (some q) := by rw [← hF]; exact hST.2.2.2.2.2.2.1
  have en : ∀ a k, a ≠ 1 → ¬ (23 ≤ a ∧ a ≤ 50) → a < 67 ∨ a = 69 ∨ a = 70 → a ≠ 65 → ¬ (a = 51 ∧ 19 ≤ k) → M4 a k = M a k := by
    intro a k q1 q2 q3 q4 q5
    rw [hk.1 a k (by omega) (by omega) (by omega), sx_un (show ¬ (a = 51 ∧ k = 19) by omega)]
    by_cases q : a < 51
    · rw [hl a k q, ht.1 a k q1 (by omega) (by omega) (by omega)]
      exact hST.1 a k (by omega)
    · exact hs a k (by omega) q4 (by omega)
  have lo : ∀ a k, a < 51 → M4 a k = M2 a k := fun a k h => by rw [hk.1 a k (by omega) (by omega) (by omega), sx_un (show ¬ (a = 51 ∧ k = 19) by omega), hl a k h]
  have e7 : M4 1 7 = 1 := by rw [lo 1 7 (by omega)]; exact ht.2.1
  have e8 : M4 1 8 = gE M q.1 nw := by rw [lo 1 8 (by omega), ht.2.2.1]; exact hb1.2.1
  have e9 : M4 1 9 = if F.2 = true then 0 else 1 := by
    rw [lo 1 9 (by omega), ht.2.2.2.1, hST.2.2.2.2.2.1]
    by_cases q : F.2 = true
    · rw [if_pos q, if_pos q]; rfl
    · rw [if_neg q, if_neg q]; rfl
  have e10 : M4 1 10 = F.1.1 := by rw [lo 1 10 (by omega), ht.2.2.2.2.1, hST.2.2.2.2.1]
  have e23 : ∀ w, w < nw → M4 23 w = q.1 w := fun w hw => by rw [lo 23 w (by omega), (ht.2.2.2.2.2.1 w hw).1]; exact (hb1.2.2.2 w hw).1
  have e24 : ∀ w, w < nw → M4 24 w = q.2 w := fun w hw => by rw [lo 24 w (by omega), (ht.2.2.2.2.2.1 w hw).2.1]; exact (hb1.2.2.2 w hw).2
  have hV := hb.2.2.2.2
  refine hM.kp (fun a k q1 q2 q3 q4 q5 q6 q7 q8 q9 q10 q11 => en a k (by omega) (by omega) (by omega) (by omega) (by omega)) hk.2.2.2 (fun w hw => ?_) (fun w hw => ?_) (fun w hw => ?_) (Or.inr e7) ?_ (fun z w hw => ?_) (fun z w hw => ?_) (fun z w hw => ?_) (fun z => ?_) (fun z w hw => ?_) (fun z w hw => ?_) ?_ ?_ (fun _ => h1) (fun w h1 h2 => ?_)
  · rw [en _ _ (by omega) (by omega) (by omega) (by omega) (by omega)]; have s := (hM.ws w hw).2.1; unfold IS at s; omega
  · rw [en 69 _ (by omega) (by omega) (by omega) (by omega) (by omega), en (14 + w) 10 (by omega) (by omega) (by omega) (by omega) (by omega)]; exact hM.mfz w hw
  · rw [en 70 _ (by omega) (by omega) (by omega) (by omega) (by omega), en (14 + w) 9 (by omega) (by omega) (by omega) (by omega) (by omega)]; exact hM.mlt w hw
  · rw [e7, hk.1 51 19 (by omega) (by omega) (by omega), sx_us]
  · rw [e23 w hw, e24 w hw]; exact ⟨(hV w hw).1, (hV w hw).2.1⟩
  · rw [e23 w hw]; exact (hV w hw).2.2
  · rw [e23 w hw, e24 w hw, (hk.2.2.1 w hw).1, (hk.2.2.1 w hw).2]; exact hb.2.2.2.1 w hw
  · rw [e8]
    exact (gE_c nw (fun i hi => e23 i hi)).symm
  · rw [e7] at z
    exact absurd z (by decide)
  · rw [hk.2.1 w hw, lo 50 w (by omega), (ht.2.2.2.2.2.1 w hw).2.2]
    have p1 := hb1.2.2.2 w hw
    have p2 := hb.2.2.2.1 w hw
    rw [p1.1, p1.2, p2.1, p2.2, hST.1 23 w (by omega), hST.1 24 w (by omega), hs 67 w (by omega) (by omega) (by omega), hs 68 w (by omega) (by omega) (by omega)]
    refine ⟨?_, by split; exact Or.inr rfl; exact Or.inl rfl⟩
    by_cases c : ag ≠ 0
    · have st := hM.mst (hag7 c) w hw
      rw [st.1, st.2]
      by_cases c2 : M 23 w = q.1 w ∧ M 24 w = q.2 w
      · rw [if_neg (fun k => k.2 ⟨c2.1.symm, c2.2.symm⟩), if_neg (fun k => k.2 c2)]
      · rw [if_pos ⟨c, fun k => c2 ⟨k.1.symm, k.2.symm⟩⟩, if_pos ⟨c, c2⟩]
    · rw [if_neg (fun k => c k.1), if_neg (fun k => c k.1)]
  · rw [e9, hk.1 51 25 (by omega) (by omega) (by omega), sx_un (show ¬ (51 = 51 ∧ 25 = 19) by omega), h25]
    exact ⟨rfl, by split; exact Or.inl rfl; exact Or.inr rfl⟩
  · rw [e10, hk.1 51 26 (by omega) (by omega) (by omega), sx_un (show ¬ (51 = 51 ∧ 26 = 19) by omega), h26]
  · have k := hM.fresh w h1 h2
    rw [en (14 + w) 9 (by omega) (by omega) (by omega) (by omega) (by omega), en (14 + w) 10 (by omega) (by omega) (by omega) (by omega) (by omega), en 69 _ (by omega) (by omega) (by omega) (by omega) (by omega), en 70 _ (by omega) (by omega) (by omega) (by omega) (by omega)]
    exact ⟨k.2.2.1, k.2.2.2.1, k.2.2.2.2.1, k.2.2.2.2.2⟩
end RP
set_option maxHeartbeats 4000000 in
theorem p_run {L : Nat} {xs : Nat → Int32} {x : Int} (hx : sx_r x) {M : Nat → Nat → Int} (hE : MRE M) : PP y_T_run y_M_run L xs [.inl x] M := by
  obtain ⟨nc, nw, nb, hM⟩ := hE
  have hE : MRE M := ⟨nc, nw, nb, hM⟩
  have w6 := hM.w6
  by_cases hg : 1 ≤ x ∧ x ≤ 20000 ∧ 0 < nw
  · have h1 : 1 ≤ nw := hg.2.2
    refine pp1 (Nat.le_of_ble_eq_true rfl) (c_run_ok M nw nb hM.PH x ⟨hg.1, hg.2.1⟩ h1 (fun _ => 0) (fun _ => 0)) ?_
    rintro v h2 ⟨M2, rfl, M1, hST, hout⟩
    have hm := m_run_ok (L := L) (xs := xs) M nc nw nb hM M2 ?_ ?_ x ⟨hg.1, hg.2.1⟩ h1 (fun _ => 0) (fun _ => 0)
    · generalize fs x (GG M 0 nw nb) (CC M) nw 0 (fun _ => 0) (fun _ => 0) (0, none) = F at hST hm
      have hb1 := hST.2.2.2.2.2.2.1
      rcases hout with ⟨z, rfl, ht⟩ | ⟨z, rfl, ht⟩
      · refine ⟨_, M2, _, _, rfl, rfl, (Nat.le_of_ble_eq_true rfl), hm, ?_⟩
        rintro v h3 ⟨M3, hs, hR, hl, h26, h25, hb, ⟨y, rfl, rfl⟩ | ⟨y, rfl, M4, rfl, hk⟩⟩
        · exact ⟨rfl, M3, rfl, nc, nw, nb, rp_n hM hST ht hs hR hl h26 h25⟩
        · exfalso
          cases hF : F.1.2 with
          | none => rw [hF] at hb; have : M3 51 33 = 0 := hb; omega
          | some q => rw [hF] at hb1; have := hb1.1; omega
      · refine ⟨_, M2, _, _, rfl, rfl, (Nat.le_of_ble_eq_true rfl), hm, ?_⟩
        cases hF : F.1.2 with
        | none => rw [hF] at hb1; have : M1 25 12 = 0 := hb1; omega
        | some q =>
          rw [hF] at hb1
          rintro v h3 ⟨M3, hs, hR, hl, h26, h25, hb, ⟨y, rfl, rfl⟩ | ⟨y, rfl, M4, rfl, hk⟩⟩
          · have := hb.1; omega
          · exact ⟨by rw [hb1.2.1, hb.2.1], M4, rfl, nc, nw, nb, rp_s hM h1 (fun k => absurd rfl k) hST hF ht hs hl h26 h25 hb hk⟩
    · rcases hout with ⟨z, rfl, ht⟩ | ⟨z, rfl, ht⟩
      · exact fun a k q1 q2 q3 => by rw [ht.1 a k (by omega)]; exact hST.1 a k (by omega)
      · exact fun a k q1 q2 q3 => by rw [ht.1 a k (by omega) (by omega) (by omega) (by omega)]; exact hST.1 a k (by omega)
    · rcases hout with ⟨z, rfl, ht⟩ | ⟨z, rfl, ht⟩
      · exact ht.2.2.2.2.2
      · exact ht.2.2.2.2.2.2
  · exact pp_q hE (Nat.le_of_ble_eq_true rfl) (Nat.le_of_ble_eq_true rfl) (c_run_bad M hM.ir nw hM.wn hM.w6 x hx hg) (m_run_bad M nc nw nb hM M (sf.rf M) hM.ir x hx hg)
set_option maxHeartbeats 4000000 in
theorem p_replan {L : Nat} {xs : Nat → Int32} {x : Int} (hx : sx_r x) {M : Nat → Nat → Int} (hE : MRE M) : PP y_T_replan y_M_replan L xs [.inl x] M := by
  obtain ⟨nc, nw, nb, hM⟩ := hE
  have hE : MRE M := ⟨nc, nw, nb, hM⟩
  have w6 := hM.w6
  by_cases hg : 1 ≤ x ∧ x ≤ 20000 ∧ M 1 7 ≠ 0
  · have h1 : 1 ≤ nw := hM.h7w hg.2.2
    refine pp1 (Nat.le_of_ble_eq_true rfl) (c_replan_ok M nw nb hM.PH x ⟨hg.1, hg.2.1⟩ h1 (fun _ => 0) (fun _ => 0) hg.2.2) ?_
    rintro v h2 ⟨M2, rfl, M1, hST, hout⟩
    have hm := m_replan_ok (L := L) (xs := xs) M nc nw nb hM M2 ?_ ?_ x ⟨hg.1, hg.2.1⟩ h1 (fun _ => 0) (fun _ => 0) hg.2.2
    · generalize fs x (GG M 1 nw nb) (CC M) nw 0 (fun _ => 0) (fun _ => 0) (0, none) = F at hST hm
      have hb1 := hST.2.2.2.2.2.2.1
      rcases hout with ⟨z, rfl, ht⟩ | ⟨z, rfl, ht⟩
      · refine ⟨_, M2, _, _, rfl, rfl, (Nat.le_of_ble_eq_true rfl), hm, ?_⟩
        rintro v h3 ⟨M3, hs, hR, hl, h26, h25, hb, ⟨y, rfl, rfl⟩ | ⟨y, rfl, M4, rfl, hk⟩⟩
        · exact ⟨rfl, M3, rfl, nc, nw, nb, rp_n hM hST ht hs hR hl h26 h25⟩
        · exfalso
          cases hF : F.1.2 with
          | none => rw [hF] at hb; have : M3 51 33 = 0 := hb; omega
          | some q => rw [hF] at hb1; have := hb1.1; omega
      · refine ⟨_, M2, _, _, rfl, rfl, (Nat.le_of_ble_eq_true rfl), hm, ?_⟩
        cases hF : F.1.2 with
        | none => rw [hF] at hb1; have : M1 25 12 = 0 := hb1; omega
        | some q =>
          rw [hF] at hb1
          rintro v h3 ⟨M3, hs, hR, hl, h26, h25, hb, ⟨y, rfl, rfl⟩ | ⟨y, rfl, M4, rfl, hk⟩⟩
          · have := hb.1; omega
          · exact ⟨by rw [hb1.2.2.1, hb.2.2.1], M4, rfl, nc, nw, nb, rp_s hM h1 (fun k => hg.2.2) hST hF ht hs hl h26 h25 hb hk⟩
    · rcases hout with ⟨z, rfl, ht⟩ | ⟨z, rfl, ht⟩
      · exact fun a k q1 q2 q3 => by rw [ht.1 a k (by omega)]; exact hST.1 a k (by omega)
      · exact fun a k q1 q2 q3 => by rw [ht.1 a k (by omega) (by omega) (by omega) (by omega)]; exact hST.1 a k (by omega)
    · rcases hout with ⟨z, rfl, ht⟩ | ⟨z, rfl, ht⟩
      · exact ht.2.2.2.2.2
      · exact ht.2.2.2.2.2.2
  · exact pp_q hE (Nat.le_of_ble_eq_true rfl) (Nat.le_of_ble_eq_true rfl) (c_replan_bad M hM.ir nw hM.wn hM.w6 x hx hg) (m_replan_bad M nc nw nb hM M (sf.rf M) hM.ir x hx hg)
