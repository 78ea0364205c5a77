theorem pT_r {M : Nat → Nat → Int} {w : Nat} (hW : IW M w) {s d p lv : Int} (hs : 0 ≤ s ∧ s ≤ 1000) (hx : 0 ≤ wx M w p d ∧ wx M w p d ≤ 200) : 0 ≤ pT M w s d p lv ∧ pT M w s d p lv ≤ 70050 := by
  obtain ⟨q1, q2, q3, q4, q5, q6⟩ := hW
  have w1 := wh_r (len := M (14 + w) 3 - M (14 + w) 2) (lv := lv) hx.1 hx.2 q4
  have w2 := part_r (len := M (14 + w) 3 - M (14 + w) 2) (lv := lv) hx.1 q4
  have b1 := Bd_r M s
  have d1 := Dd_r M (Bd M s + wh (M (14 + w) 4) (M (14 + w) 3 - M (14 + w) 2) (wx M w p d) lv)
  unfold pT
  generalize Dd M (Bd M s + wh (M (14 + w) 4) (M (14 + w) 3 - M (14 + w) 2) (wx M w p d) lv) = D at *
  generalize wh (M (14 + w) 4) (M (14 + w) 3 - M (14 + w) 2) (wx M w p d) lv = W at *
  have m1 := mulr (a := D) (b := M (14 + w) 4) (A := 1400) (B := 50) (by omega) (by omega) (by omega) (by omega)
  have m2 := Int.mul_nonneg d1.1 (show 0 ≤ M (14 + w) 4 by omega)
  generalize W * M (14 + w) 4 = Z at *
  omega
/-- what the days told between another work and this one ask of the start -/
def fI (M : Nat → Nat → Int) (o w : Nat) : Int := if M (14 + o) 2 < M (14 + w) 2 then M (14 + w) 2 else M (14 + o) 2
def lA (M : Nat → Nat → Int) (o w : Nat) : Int := if M (14 + w) 3 < M (14 + o) 3 then M (14 + w) 3 else M (14 + o) 3
noncomputable def gL (M : Nat → Nat → Int) (b c o w : Nat) (way q : Int) : Int := fS M w (wx M w q way) (pT M o (M b o) (M c o) q 1 + M 9 (6 * o + w) * M (14 + o) 4) (M (14 + o) 4)
noncomputable def gG (M : Nat → Nat → Int) (b c o w : Nat) (way q : Int) : Int := lS M w (wx M w q way) (pT M o (M b o) (M c o) q 0 - M 9 (6 * w + o) * M (14 + o) 4) (M (14 + o) 4)
def kL (M : Nat → Nat → Int) (b c o w : Nat) (way n : Int) : Prop := M 9 (6 * o + w) = -1 ∨ ∀ q, fI M o w ≤ q → q ≤ lA M o w → gL M b c o w way q ≤ n
def kG (M : Nat → Nat → Int) (b c o w : Nat) (way n : Int) : Prop := M 9 (6 * w + o) = -1 ∨ ∀ q, fI M o w ≤ q → q ≤ lA M o w → n ≤ gG M b c o w way q
theorem wx_in {M : Nat → Nat → Int} {w : Nat} (hW : IW M w) {q d : Int} (h1 : M (14 + w) 2 ≤ q) (h2 : q ≤ M (14 + w) 3) : 0 ≤ wx M w q d ∧ wx M w q d ≤ 200 := by
  obtain ⟨q1, q2, q3, q4, q5, q6⟩ := hW
  unfold wx
  split <;> omega
theorem fI_le {M : Nat → Nat → Int} {o w : Nat} {q : Int} (h : fI M o w ≤ q) : M (14 + o) 2 ≤ q ∧ M (14 + w) 2 ≤ q := by
  unfold fI at h
  split at h <;> omega
theorem lA_le {M : Nat → Nat → Int} {o w : Nat} {q : Int} (h : q ≤ lA M o w) : q ≤ M (14 + o) 3 ∧ q ≤ M (14 + w) 3 := by
  unfold lA at h
  split at h <;> omega
theorem up_r {M : Nat → Nat → Int} {o : Nat} (hO : IW M o) {s d q lv g : Int} (hs : 0 ≤ s ∧ s ≤ 1000) (h1 : M (14 + o) 2 ≤ q) (h2 : q ≤ M (14 + o) 3) (hg : -1 ≤ g ∧ g ≤ 30) : (-100000 ≤ pT M o s d q lv + g * M (14 + o) 4 ∧ pT M o s d q lv + g * M (14 + o) 4 ≤ 100000) ∧ (-100000 ≤ pT M o s d q lv - g * M (14 + o) 4 ∧ pT M o s d q lv - g * M (14 + o) 4 ≤ 100000) := by
  have p1 := pT_r hO (s := s) (d := d) (p := q) (lv := lv) hs (wx_in hO h1 h2)
  obtain ⟨q1, q2, q3, q4, q5, q6⟩ := hO
  have m1 := mulr (a := g) (b := M (14 + o) 4) (A := 30) (B := 50) (by omega) (by omega) (by omega) (by omega)
  omega
