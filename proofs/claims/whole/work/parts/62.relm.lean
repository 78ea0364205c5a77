/-- class and reference hold the same: what was told, the plan, the last search -/
def MR (M : Nat → Nat → Int) (nc nw nb : Nat) : Prop := (IDy M) ∧ (IR M) ∧ (M 2 8 = (nc : Int)) ∧ (nc ≤ 4) ∧ (M 2 9 = (nw : Int)) ∧ (nw ≤ 6) ∧ (M 2 10 = (nb : Int)) ∧ (nb ≤ 8) ∧ (WKs M nw nb) ∧ (∀ j, j < 36 → -1 ≤ M 9 j ∧ M 9 j ≤ 30) ∧ (M 51 0 = (nc : Int)) ∧ (M 51 2 = (nw : Int)) ∧ (M 51 11 = (nb : Int)) ∧ (M 51 15 = M 3 3) ∧ (∀ c, c < nc → M 52 c = M 7 c ∧ 0 ≤ M 7 c ∧ M 7 c ≤ 3) ∧ (∀ w, w < nw → M 53 w = M (14 + w) 0 ∧ 0 ≤ M (14 + w) 0 ∧ M (14 + w) 0 < nc ∧ M (14 + w) 1 = M 7 (M (14 + w) 0).toNat) ∧ (∀ w, w < nw → M 54 w = M (14 + w) 2) ∧ (∀ w, w < nw → M 55 w = M (14 + w) 3) ∧ (∀ w, w < nw → M 56 w = M (14 + w) 4) ∧ (∀ w, w < nw → M 57 w = M (14 + w) 6) ∧ (∀ a b, a < nw → b < nw → M 58 (6 * a + b) = M 9 (6 * a + b)) ∧ (∀ w, w < nw → M 59 w = M (14 + w) 7) ∧ (∀ w, w < nw → M 60 w = M (14 + w) 8) ∧ (∀ k, k < nb → M 61 k = M 11 k) ∧ (∀ k, k < nb → M 62 k = M 12 k) ∧ (∀ k, k < nb → M 63 k = M 13 k) ∧ (∀ d, d < 200 → M 64 d = M 4 d) ∧ (∀ k, k < 4 → M 66 k = M 10 k) ∧ (∀ w, w < nw → M 69 w = M (14 + w) 10 ∧ (M (14 + w) 10 = 0 ∨ M (14 + w) 10 = 1)) ∧ (∀ w, w < nw → M 70 w = M (14 + w) 9) ∧ (M 1 7 = 0 ∨ M 1 7 = 1) ∧ (M 51 19 = M 1 7) ∧ (M 1 7 ≠ 0 → ∀ w, w < nw → (0 ≤ M 23 w ∧ M 23 w ≤ 99) ∧ (M 24 w = 0 ∨ M 24 w = 1)) ∧ (M 1 7 ≠ 0 → ∀ w, w < nw → dr M (M 23 w).toNat = false) ∧ (M 1 7 ≠ 0 → ∀ w, w < nw → M 67 w = M 23 w ∧ M 68 w = M 24 w) ∧ (M 1 7 ≠ 0 → M 1 8 = gE M (M 23) nw) ∧ (M 1 7 = 0 → ∀ w, w < nw → M (14 + w) 10 = 0) ∧ (M 1 7 ≠ 0 → ∀ w, w < nw → M 71 w = M 50 w ∧ (M 50 w = 0 ∨ M 50 w = 1)) ∧ (M 51 25 = M 1 9 ∧ (M 1 9 = 0 ∨ M 1 9 = 1)) ∧ (M 51 26 = M 1 10) ∧ (∀ w, nw ≤ w → w < 6 → M (14 + w) 7 = 0 ∧ M (14 + w) 8 = 999 ∧ M (14 + w) 9 = 0 ∧ M (14 + w) 10 = 0 ∧ M 69 w = 0 ∧ M 70 w = 0) ∧ (∀ a b, a < 6 → b < 6 → (nw ≤ a ∨ nw ≤ b) → M 9 (6 * a + b) = -1) ∧ (∀ a, a < 6 → M 9 (6 * a + a) = -1) ∧ (∀ k, k < 4 → 0 ≤ M 10 k ∧ M 10 k ≤ 6) ∧ (∀ k, k < nb → 0 ≤ M 11 k ∧ M 11 k < nw) ∧ (M 1 7 ≠ 0 → 1 ≤ nw)
theorem MR.dy {M : Nat → Nat → Int} {nc nw nb : Nat} (h : MR M nc nw nb) : IDy M := h.1
theorem MR.ir {M : Nat → Nat → Int} {nc nw nb : Nat} (h : MR M nc nw nb) : IR M := h.2.1
theorem MR.cn {M : Nat → Nat → Int} {nc nw nb : Nat} (h : MR M nc nw nb) : M 2 8 = (nc : Int) := h.2.2.1
theorem MR.c4 {M : Nat → Nat → Int} {nc nw nb : Nat} (h : MR M nc nw nb) : nc ≤ 4 := h.2.2.2.1
theorem MR.wn {M : Nat → Nat → Int} {nc nw nb : Nat} (h : MR M nc nw nb) : M 2 9 = (nw : Int) := h.2.2.2.2.1
theorem MR.w6 {M : Nat → Nat → Int} {nc nw nb : Nat} (h : MR M nc nw nb) : nw ≤ 6 := h.2.2.2.2.2.1
theorem MR.bn {M : Nat → Nat → Int} {nc nw nb : Nat} (h : MR M nc nw nb) : M 2 10 = (nb : Int) := h.2.2.2.2.2.2.1
theorem MR.b8 {M : Nat → Nat → Int} {nc nw nb : Nat} (h : MR M nc nw nb) : nb ≤ 8 := h.2.2.2.2.2.2.2.1
theorem MR.ws {M : Nat → Nat → Int} {nc nw nb : Nat} (h : MR M nc nw nb) : WKs M nw nb := h.2.2.2.2.2.2.2.2.1
theorem MR.gp {M : Nat → Nat → Int} {nc nw nb : Nat} (h : MR M nc nw nb) : ∀ j, j < 36 → -1 ≤ M 9 j ∧ M 9 j ≤ 30 := h.2.2.2.2.2.2.2.2.2.1
theorem MR.mcn {M : Nat → Nat → Int} {nc nw nb : Nat} (h : MR M nc nw nb) : M 51 0 = (nc : Int) := h.2.2.2.2.2.2.2.2.2.2.1
theorem MR.mwn {M : Nat → Nat → Int} {nc nw nb : Nat} (h : MR M nc nw nb) : M 51 2 = (nw : Int) := h.2.2.2.2.2.2.2.2.2.2.2.1
theorem MR.mbn {M : Nat → Nat → Int} {nc nw nb : Nat} (h : MR M nc nw nb) : M 51 11 = (nb : Int) := h.2.2.2.2.2.2.2.2.2.2.2.2.1
theorem MR.mrs {M : Nat → Nat → Int} {nc nw nb : Nat} (h : MR M nc nw nb) : M 51 15 = M 3 3 := h.2.2.2.2.2.2.2.2.2.2.2.2.2.1
theorem MR.mkd {M : Nat → Nat → Int} {nc nw nb : Nat} (h : MR M nc nw nb) : ∀ c, c < nc → M 52 c = M 7 c ∧ 0 ≤ M 7 c ∧ M 7 c ≤ 3 := h.2.2.2.2.2.2.2.2.2.2.2.2.2.2.1
theorem MR.mcr {M : Nat → Nat → Int} {nc nw nb : Nat} (h : MR M nc nw nb) : ∀ w, w < nw → M 53 w = M (14 + w) 0 ∧ 0 ≤ M (14 + w) 0 ∧ M (14 + w) 0 < nc ∧ M (14 + w) 1 = M 7 (M (14 + w) 0).toNat := h.2.2.2.2.2.2.2.2.2.2.2.2.2.2.2.1
theorem MR.mfr {M : Nat → Nat → Int} {nc nw nb : Nat} (h : MR M nc nw nb) : ∀ w, w < nw → M 54 w = M (14 + w) 2 := h.2.2.2.2.2.2.2.2.2.2.2.2.2.2.2.2.1
theorem MR.mto {M : Nat → Nat → Int} {nc nw nb : Nat} (h : MR M nc nw nb) : ∀ w, w < nw → M 55 w = M (14 + w) 3 := h.2.2.2.2.2.2.2.2.2.2.2.2.2.2.2.2.2.1
theorem MR.msp {M : Nat → Nat → Int} {nc nw nb : Nat} (h : MR M nc nw nb) : ∀ w, w < nw → M 56 w = M (14 + w) 4 := h.2.2.2.2.2.2.2.2.2.2.2.2.2.2.2.2.2.2.1
theorem MR.mbo {M : Nat → Nat → Int} {nc nw nb : Nat} (h : MR M nc nw nb) : ∀ w, w < nw → M 57 w = M (14 + w) 6 := h.2.2.2.2.2.2.2.2.2.2.2.2.2.2.2.2.2.2.2.1
theorem MR.mgp {M : Nat → Nat → Int} {nc nw nb : Nat} (h : MR M nc nw nb) : ∀ a b, a < nw → b < nw → M 58 (6 * a + b) = M 9 (6 * a + b) := h.2.2.2.2.2.2.2.2.2.2.2.2.2.2.2.2.2.2.2.2.1
theorem MR.mfi {M : Nat → Nat → Int} {nc nw nb : Nat} (h : MR M nc nw nb) : ∀ w, w < nw → M 59 w = M (14 + w) 7 := h.2.2.2.2.2.2.2.2.2.2.2.2.2.2.2.2.2.2.2.2.2.1
theorem MR.mla {M : Nat → Nat → Int} {nc nw nb : Nat} (h : MR M nc nw nb) : ∀ w, w < nw → M 60 w = M (14 + w) 8 := h.2.2.2.2.2.2.2.2.2.2.2.2.2.2.2.2.2.2.2.2.2.2.1
theorem MR.mb1 {M : Nat → Nat → Int} {nc nw nb : Nat} (h : MR M nc nw nb) : ∀ k, k < nb → M 61 k = M 11 k := h.2.2.2.2.2.2.2.2.2.2.2.2.2.2.2.2.2.2.2.2.2.2.2.1
theorem MR.mb2 {M : Nat → Nat → Int} {nc nw nb : Nat} (h : MR M nc nw nb) : ∀ k, k < nb → M 62 k = M 12 k := h.2.2.2.2.2.2.2.2.2.2.2.2.2.2.2.2.2.2.2.2.2.2.2.2.1
theorem MR.mb3 {M : Nat → Nat → Int} {nc nw nb : Nat} (h : MR M nc nw nb) : ∀ k, k < nb → M 63 k = M 13 k := h.2.2.2.2.2.2.2.2.2.2.2.2.2.2.2.2.2.2.2.2.2.2.2.2.2.1
theorem MR.mre {M : Nat → Nat → Int} {nc nw nb : Nat} (h : MR M nc nw nb) : ∀ d, d < 200 → M 64 d = M 4 d := h.2.2.2.2.2.2.2.2.2.2.2.2.2.2.2.2.2.2.2.2.2.2.2.2.2.2.1
theorem MR.mmo {M : Nat → Nat → Int} {nc nw nb : Nat} (h : MR M nc nw nb) : ∀ k, k < 4 → M 66 k = M 10 k := h.2.2.2.2.2.2.2.2.2.2.2.2.2.2.2.2.2.2.2.2.2.2.2.2.2.2.2.1
theorem MR.mfz {M : Nat → Nat → Int} {nc nw nb : Nat} (h : MR M nc nw nb) : ∀ w, w < nw → M 69 w = M (14 + w) 10 ∧ (M (14 + w) 10 = 0 ∨ M (14 + w) 10 = 1) := h.2.2.2.2.2.2.2.2.2.2.2.2.2.2.2.2.2.2.2.2.2.2.2.2.2.2.2.2.1
theorem MR.mlt {M : Nat → Nat → Int} {nc nw nb : Nat} (h : MR M nc nw nb) : ∀ w, w < nw → M 70 w = M (14 + w) 9 := h.2.2.2.2.2.2.2.2.2.2.2.2.2.2.2.2.2.2.2.2.2.2.2.2.2.2.2.2.2.1
theorem MR.h01 {M : Nat → Nat → Int} {nc nw nb : Nat} (h : MR M nc nw nb) : M 1 7 = 0 ∨ M 1 7 = 1 := h.2.2.2.2.2.2.2.2.2.2.2.2.2.2.2.2.2.2.2.2.2.2.2.2.2.2.2.2.2.2.1
theorem MR.mha {M : Nat → Nat → Int} {nc nw nb : Nat} (h : MR M nc nw nb) : M 51 19 = M 1 7 := h.2.2.2.2.2.2.2.2.2.2.2.2.2.2.2.2.2.2.2.2.2.2.2.2.2.2.2.2.2.2.2.1
theorem MR.pl {M : Nat → Nat → Int} {nc nw nb : Nat} (h : MR M nc nw nb) : M 1 7 ≠ 0 → ∀ w, w < nw → (0 ≤ M 23 w ∧ M 23 w ≤ 99) ∧ (M 24 w = 0 ∨ M 24 w = 1) := h.2.2.2.2.2.2.2.2.2.2.2.2.2.2.2.2.2.2.2.2.2.2.2.2.2.2.2.2.2.2.2.2.1
theorem MR.plw {M : Nat → Nat → Int} {nc nw nb : Nat} (h : MR M nc nw nb) : M 1 7 ≠ 0 → ∀ w, w < nw → dr M (M 23 w).toNat = false := h.2.2.2.2.2.2.2.2.2.2.2.2.2.2.2.2.2.2.2.2.2.2.2.2.2.2.2.2.2.2.2.2.2.1
theorem MR.mst {M : Nat → Nat → Int} {nc nw nb : Nat} (h : MR M nc nw nb) : M 1 7 ≠ 0 → ∀ w, w < nw → M 67 w = M 23 w ∧ M 68 w = M 24 w := h.2.2.2.2.2.2.2.2.2.2.2.2.2.2.2.2.2.2.2.2.2.2.2.2.2.2.2.2.2.2.2.2.2.2.1
theorem MR.pen {M : Nat → Nat → Int} {nc nw nb : Nat} (h : MR M nc nw nb) : M 1 7 ≠ 0 → M 1 8 = gE M (M 23) nw := h.2.2.2.2.2.2.2.2.2.2.2.2.2.2.2.2.2.2.2.2.2.2.2.2.2.2.2.2.2.2.2.2.2.2.2.1
theorem MR.nofz {M : Nat → Nat → Int} {nc nw nb : Nat} (h : MR M nc nw nb) : M 1 7 = 0 → ∀ w, w < nw → M (14 + w) 10 = 0 := h.2.2.2.2.2.2.2.2.2.2.2.2.2.2.2.2.2.2.2.2.2.2.2.2.2.2.2.2.2.2.2.2.2.2.2.2.1
theorem MR.mmv {M : Nat → Nat → Int} {nc nw nb : Nat} (h : MR M nc nw nb) : M 1 7 ≠ 0 → ∀ w, w < nw → M 71 w = M 50 w ∧ (M 50 w = 0 ∨ M 50 w = 1) := h.2.2.2.2.2.2.2.2.2.2.2.2.2.2.2.2.2.2.2.2.2.2.2.2.2.2.2.2.2.2.2.2.2.2.2.2.2.1
theorem MR.mpr {M : Nat → Nat → Int} {nc nw nb : Nat} (h : MR M nc nw nb) : M 51 25 = M 1 9 ∧ (M 1 9 = 0 ∨ M 1 9 = 1) := h.2.2.2.2.2.2.2.2.2.2.2.2.2.2.2.2.2.2.2.2.2.2.2.2.2.2.2.2.2.2.2.2.2.2.2.2.2.2.1
theorem MR.mtr {M : Nat → Nat → Int} {nc nw nb : Nat} (h : MR M nc nw nb) : M 51 26 = M 1 10 := h.2.2.2.2.2.2.2.2.2.2.2.2.2.2.2.2.2.2.2.2.2.2.2.2.2.2.2.2.2.2.2.2.2.2.2.2.2.2.2.1
theorem MR.fresh {M : Nat → Nat → Int} {nc nw nb : Nat} (h : MR M nc nw nb) : ∀ w, nw ≤ w → w < 6 → M (14 + w) 7 = 0 ∧ M (14 + w) 8 = 999 ∧ M (14 + w) 9 = 0 ∧ M (14 + w) 10 = 0 ∧ M 69 w = 0 ∧ M 70 w = 0 := h.2.2.2.2.2.2.2.2.2.2.2.2.2.2.2.2.2.2.2.2.2.2.2.2.2.2.2.2.2.2.2.2.2.2.2.2.2.2.2.2.1
theorem MR.freshg {M : Nat → Nat → Int} {nc nw nb : Nat} (h : MR M nc nw nb) : ∀ a b, a < 6 → b < 6 → (nw ≤ a ∨ nw ≤ b) → M 9 (6 * a + b) = -1 := h.2.2.2.2.2.2.2.2.2.2.2.2.2.2.2.2.2.2.2.2.2.2.2.2.2.2.2.2.2.2.2.2.2.2.2.2.2.2.2.2.2.1
theorem MR.self {M : Nat → Nat → Int} {nc nw nb : Nat} (h : MR M nc nw nb) : ∀ a, a < 6 → M 9 (6 * a + a) = -1 := h.2.2.2.2.2.2.2.2.2.2.2.2.2.2.2.2.2.2.2.2.2.2.2.2.2.2.2.2.2.2.2.2.2.2.2.2.2.2.2.2.2.2.1
theorem MR.mo {M : Nat → Nat → Int} {nc nw nb : Nat} (h : MR M nc nw nb) : ∀ k, k < 4 → 0 ≤ M 10 k ∧ M 10 k ≤ 6 := h.2.2.2.2.2.2.2.2.2.2.2.2.2.2.2.2.2.2.2.2.2.2.2.2.2.2.2.2.2.2.2.2.2.2.2.2.2.2.2.2.2.2.2.1
theorem MR.mbw {M : Nat → Nat → Int} {nc nw nb : Nat} (h : MR M nc nw nb) : ∀ k, k < nb → 0 ≤ M 11 k ∧ M 11 k < nw := h.2.2.2.2.2.2.2.2.2.2.2.2.2.2.2.2.2.2.2.2.2.2.2.2.2.2.2.2.2.2.2.2.2.2.2.2.2.2.2.2.2.2.2.2.1
theorem MR.h7w {M : Nat → Nat → Int} {nc nw nb : Nat} (h : MR M nc nw nb) : M 1 7 ≠ 0 → 1 ≤ nw := h.2.2.2.2.2.2.2.2.2.2.2.2.2.2.2.2.2.2.2.2.2.2.2.2.2.2.2.2.2.2.2.2.2.2.2.2.2.2.2.2.2.2.2.2.2
/-- the reference's slates aside, the memory is the same -/
def sf (M M1 : Nat → Nat → Int) : Prop := ∀ a k, (51 ≤ a ∧ a < 72) → a ≠ 65 → ¬ (a = 51 ∧ 25 ≤ k) → M1 a k = M a k
theorem sf.rf (M : Nat → Nat → Int) : sf M M := fun _ _ _ _ _ => rfl
theorem sf.u {M M1 : Nat → Nat → Int} (h : sf M M1) {a : Nat} (ha : 72 ≤ a) (k : Nat) (z : Int) : sf M (sx_u M1 a k z) := fun b j h1 h2 h3 => by rw [sx_u_ne (by omega)]; exact h b j h1 h2 h3
theorem sf.trans {M M1 M2 : Nat → Nat → Int} (h : sf M M1) (h2 : sf M1 M2) : sf M M2 := fun a k x y z => (h2 a k x y z).trans (h a k x y z)
theorem Dd_eq {M : Nat → Nat → Int} {d n : Int} (h0 : 0 ≤ d) (h : dr M d.toNat = false) (hb : Bd M d = n) : Dd M n = d := by
  unfold Dd
  rw [dn_eq h (n := n.toNat) (by rw [← hb]; unfold Bd; omega)]
  omega
theorem Bd_Dd (M : Nat → Nat → Int) {n : Int} (h : 0 ≤ n) : Bd M (Dd M n) = n ∧ dr M (Dd M n).toNat = false := by
  have h1 := dn_ok (dr_far M) n.toNat
  unfold Dd Bd
  rw [Int.toNat_natCast, h1.2]
  exact ⟨by omega, h1.1⟩
theorem Bd_s (M : Nat → Nat → Int) {d : Int} (h : 0 ≤ d) : Bd M (d + 1) = Bd M d + (if dr M d.toNat = true then 0 else 1) := by
  unfold Bd
  rw [show (d + 1).toNat = d.toNat + 1 by omega, dy_s]
  split <;> simp
theorem MR_dr {M : Nat → Nat → Int} {nc nw nb : Nat} (h : MR M nc nw nb) (d : Nat) : dr M d = (decide (d < 200) && decide (M 64 d = 1)) := by
  unfold dr
  by_cases q : d < 200
  · rw [h.mre d q]
  · simp [q]
/-- the place so far from a work's first one -/
def pl (M : Nat → Nat → Int) (w : Nat) (d : Int) (i : Nat) : Int := if d = 0 then M (14 + w) 2 + (i : Int) else M (14 + w) 3 - (i : Int)
theorem wx_pl (M : Nat → Nat → Int) (w : Nat) (d : Int) (i : Nat) : wx M w (pl M w d i) d = (i : Int) := by
  unfold wx pl
  by_cases q : d = 0
  · rw [if_pos q, if_pos q]; omega
  · rw [if_neg q, if_neg q]; omega
theorem pT_0 {M : Nat → Nat → Int} {w : Nat} {s d lv : Int} (h0 : 0 ≤ s) (h : dr M s.toNat = false) : pT M w s d (pl M w d 0) lv = s * M (14 + w) 4 := by
  unfold pT
  rw [wx_pl]
  have e : wh (M (14 + w) 4) (M (14 + w) 3 - M (14 + w) 2) ((0 : Nat) : Int) lv = 0 := by
    unfold wh
    simp
  rw [e, Int.add_zero, Dd_eq h0 h rfl]
  simp
theorem pT_a {M : Nat → Nat → Int} {w : Nat} {s d : Int} {i : Nat} (hi : 1 ≤ i) : pT M w s d (pl M w d i) 0 = Dd M (Bd M s + ((i : Int) - 1) / M (14 + w) 4) * M (14 + w) 4 + (((i : Int) - 1) % M (14 + w) 4 + 1) := by
  unfold pT
  rw [wx_pl]
  have e : wh (M (14 + w) 4) (M (14 + w) 3 - M (14 + w) 2) (i : Int) 0 = ((i : Int) - 1) / M (14 + w) 4 := by
    unfold wh
    rw [if_neg (by simp; omega)]
  rw [e]
  have := Int.mul_ediv_add_emod ((i : Int) - 1) (M (14 + w) 4)
  rw [Int.mul_comm] at this
  omega
theorem pT_l {M : Nat → Nat → Int} {w : Nat} {s d : Int} {i : Nat} (hv : 1 ≤ M (14 + w) 4) (hi : 1 ≤ i) : pT M w s d (pl M w d i) 1 = if ((i : Int) - 1) % M (14 + w) 4 + 1 = M (14 + w) 4 ∧ (i : Int) < M (14 + w) 3 - M (14 + w) 2 then Dd M (Bd M s + (((i : Int) - 1) / M (14 + w) 4 + 1)) * M (14 + w) 4 else Dd M (Bd M s + ((i : Int) - 1) / M (14 + w) 4) * M (14 + w) 4 + (((i : Int) - 1) % M (14 + w) 4 + 1) := by
  have h1 := Int.mul_ediv_add_emod ((i : Int) - 1) (M (14 + w) 4)
  rw [Int.mul_comm] at h1
  have h2 := Int.mul_ediv_add_emod (i : Int) (M (14 + w) 4)
  rw [Int.mul_comm] at h2
  by_cases q : (i : Int) < M (14 + w) 3 - M (14 + w) 2
  · have e : wh (M (14 + w) 4) (M (14 + w) 3 - M (14 + w) 2) (i : Int) 1 = (i : Int) / M (14 + w) 4 := by
      unfold wh
      rw [if_pos (by right; exact ⟨by decide, q⟩)]
    unfold pT
    rw [wx_pl, e]
    by_cases q2 : ((i : Int) - 1) % M (14 + w) 4 + 1 = M (14 + w) 4
    · rw [if_pos ⟨q2, q⟩]
      have e2 : (i : Int) = (((i : Int) - 1) / M (14 + w) 4 + 1) * M (14 + w) 4 := by rw [Int.add_mul, Int.one_mul]; omega
      have e3 : (i : Int) / M (14 + w) 4 = ((i : Int) - 1) / M (14 + w) 4 + 1 := by
        have := Int.mul_ediv_cancel (((i : Int) - 1) / M (14 + w) 4 + 1) (show M (14 + w) 4 ≠ 0 by omega)
        rw [← e2] at this
        exact this
      rw [e3, ← e2]
      omega
    · rw [if_neg (fun k => q2 k.1)]
      have h3 := Int.emod_lt_of_pos ((i : Int) - 1) (show 0 < M (14 + w) 4 by omega)
      have h4 := Int.emod_nonneg ((i : Int) - 1) (show M (14 + w) 4 ≠ 0 by omega)
      have e3 : (i : Int) / M (14 + w) 4 = ((i : Int) - 1) / M (14 + w) 4 := by
        have e4 : (i : Int) = (((i : Int) - 1) % M (14 + w) 4 + 1) + ((i : Int) - 1) / M (14 + w) 4 * M (14 + w) 4 := by omega
        have e5 := Int.add_mul_ediv_right (((i : Int) - 1) % M (14 + w) 4 + 1) (((i : Int) - 1) / M (14 + w) 4) (show M (14 + w) 4 ≠ 0 by omega)
        rw [← e4] at e5
        have e6 : (((i : Int) - 1) % M (14 + w) 4 + 1) / M (14 + w) 4 = 0 := Int.ediv_eq_zero_of_lt (by omega) (by omega)
        omega
      rw [e3]
      omega
  · rw [if_neg (fun k => q k.2)]
    have e : wh (M (14 + w) 4) (M (14 + w) 3 - M (14 + w) 2) (i : Int) 1 = ((i : Int) - 1) / M (14 + w) 4 := by
      unfold wh
      rw [if_neg (by simp; omega)]
    unfold pT
    rw [wx_pl, e]
    omega
