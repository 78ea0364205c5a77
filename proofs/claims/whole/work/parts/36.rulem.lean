theorem sx_xor_ge {x z : Int} (hx : sx_r x) (hz : sx_r z) (h0 : 0 < z) : 0 ≤ (Int32.ofInt x ^^^ Int32.ofInt z).toInt ↔ 0 ≤ x := by
  have e1 : ∀ y : Int32, y.toBitVec.msb = decide (y.toInt < 0) := fun y => BitVec.msb_eq_toInt
  have e2 : (Int32.ofInt x ^^^ Int32.ofInt z).toBitVec = (Int32.ofInt x).toBitVec ^^^ (Int32.ofInt z).toBitVec := rfl
  have e3 := e1 (Int32.ofInt x ^^^ Int32.ofInt z)
  rw [e2, BitVec.msb_xor, e1, e1, sx_ti hx, sx_ti hz, show decide (z < 0) = false by simp; omega] at e3
  simp only [Bool.xor_false, decide_eq_decide] at e3
  omega
theorem sx_fdiv {x z : Int} (h0 : 0 < z) : x / z = if 0 ≤ x then x.tdiv z else if x.tdiv z * z = x then x.tdiv z else x.tdiv z - 1 := by
  split
  · rename_i h
    rw [Int.tdiv_eq_ediv_of_nonneg h]
  · rename_i h
    have e1 : x.tdiv z = -((-x) / z) := by
      rw [← Int.tdiv_eq_ediv_of_nonneg (show 0 ≤ -x by omega), Int.neg_tdiv, Int.neg_neg]
    rw [e1]
    have d1 := Int.mul_ediv_add_emod x z
    have d2 := Int.mul_ediv_add_emod (-x) z
    have m1 := Int.emod_nonneg x (show z ≠ 0 by omega)
    have m2 := Int.emod_nonneg (-x) (show z ≠ 0 by omega)
    have m3 := Int.emod_lt_of_pos x h0
    have m4 := Int.emod_lt_of_pos (-x) h0
    generalize x / z = q at *
    generalize (-x) / z = p at *
    generalize x % z = r at *
    generalize (-x) % z = t at *
    have e : z * (q + p) = -(r + t) := by rw [Int.mul_add]; omega
    have hqp : q + p = 0 ∨ q + p = -1 := by
      rcases Int.lt_trichotomy (q + p) 0 with a | a | a
      · right
        rcases Int.lt_or_le (q + p) (-1) with c | c
        · have : z * (q + p) ≤ z * (-2) := Int.mul_le_mul_of_nonneg_left (by omega) (by omega)
          omega
        · omega
      · exact Or.inl a
      · have : z * 1 ≤ z * (q + p) := Int.mul_le_mul_of_nonneg_left (by omega) (by omega)
        omega
    split
    · rename_i h2
      have h3 : z * p = -x := by rw [← h2, Int.neg_mul, Int.neg_neg, Int.mul_comm]
      rcases hqp with c | c
      · omega
      · rw [c] at e
        omega
    · rename_i h2
      rcases hqp with c | c
      · exfalso
        rw [c] at e
        apply h2
        rw [show -p = q by omega, Int.mul_comm]
        omega
      · omega
theorem sx_tdr {x z : Int} (hx : sx_r x) (h0 : 0 < z) : sx_r (x.tdiv z * z) := by
  rcases Int.lt_or_le x 0 with q | q
  · have e1 : x.tdiv z = -((-x) / z) := by
      rw [← Int.tdiv_eq_ediv_of_nonneg (show 0 ≤ -x by omega), Int.neg_tdiv, Int.neg_neg]
    have d2 := Int.mul_ediv_add_emod (-x) z
    have m2 := Int.emod_nonneg (-x) (show z ≠ 0 by omega)
    have m5 := Int.mul_nonneg (show 0 ≤ z by omega) (Int.ediv_nonneg (show 0 ≤ -x by omega) (show 0 ≤ z by omega))
    rw [e1, Int.neg_mul, Int.mul_comm]
    constructor <;> omega
  · rw [Int.tdiv_eq_ediv_of_nonneg q]
    have d2 := Int.mul_ediv_add_emod x z
    have m2 := Int.emod_nonneg x (show z ≠ 0 by omega)
    have m5 := Int.mul_nonneg (show 0 ≤ z by omega) (Int.ediv_nonneg q (show 0 ≤ z by omega))
    rw [Int.mul_comm]
    constructor <;> omega
theorem mulr {a b A B : Int} (h1 : -A ≤ a) (h2 : a ≤ A) (h3 : 0 ≤ b) (h4 : b ≤ B) : -(A * B) ≤ a * b ∧ a * b ≤ A * B := by
  have hA : 0 ≤ A := by omega
  have k1 : a * b ≤ A * b := Int.mul_le_mul_of_nonneg_right h2 h3
  have k2 : -A * b ≤ a * b := Int.mul_le_mul_of_nonneg_right h1 h3
  have k3 : A * b ≤ A * B := Int.mul_le_mul_of_nonneg_left h4 hA
  rw [Int.neg_mul] at k2
  omega
theorem part_r {v len x lv : Int} (h0 : 0 ≤ x) (h3 : 1 ≤ v) : 0 ≤ x - wh v len x lv * v ∧ x - wh v len x lv * v ≤ v := by
  have key : ∀ z : Int, 0 ≤ z → 0 ≤ z - z / v * v ∧ z - z / v * v < v := fun z h => by
    have d1 := Int.mul_ediv_add_emod z v
    have m1 := Int.emod_nonneg z (show v ≠ 0 by omega)
    have m3 := Int.emod_lt_of_pos z (show 0 < v by omega)
    rw [Int.mul_comm] at d1
    omega
  unfold wh
  split
  · have := key x h0
    omega
  · have := key (x - 1) (by omega)
    omega
theorem div_r {a b A : Int} (hb : 1 ≤ b) (h1 : -A ≤ a) (h2 : a ≤ A) : -A ≤ a / b ∧ a / b ≤ A := by
  have hA : 0 ≤ A := by omega
  constructor
  · rw [Int.le_ediv_iff_mul_le (by omega)]
    have : -A * b ≤ -A * 1 := by
      rw [Int.neg_mul, Int.neg_mul]
      have := Int.mul_le_mul_of_nonneg_left hb hA
      omega
    omega
  · have : a / b < A + 1 := by
      rw [Int.ediv_lt_iff_lt_mul (by omega)]
      have := Int.mul_le_mul_of_nonneg_left hb (show 0 ≤ A + 1 by omega)
      omega
    omega
/-- the first start (as a number of working days) with which a work arrives at a distance not before up / lo -/
def fS (M : Nat → Nat → Int) (w : Nat) (x up lo : Int) : Int :=
  Bd M (-(((x - wh (M (14 + w) 4) (M (14 + w) 3 - M (14 + w) 2) x 0 * M (14 + w) 4) * lo - up * M (14 + w) 4) / (lo * M (14 + w) 4))) - wh (M (14 + w) 4) (M (14 + w) 3 - M (14 + w) 2) x 0
def lS (M : Nat → Nat → Int) (w : Nat) (x up lo : Int) : Int :=
  Bd M ((up * M (14 + w) 4 - (x - wh (M (14 + w) 4) (M (14 + w) 3 - M (14 + w) 2) x 1 * M (14 + w) 4) * lo) / (lo * M (14 + w) 4) + 1) - 1 - wh (M (14 + w) 4) (M (14 + w) 3 - M (14 + w) 2) x 1
/-- the numbers of firstStart and lastStart stay small -/
theorem num_r {v len x lv up lo : Int} (h0 : 0 ≤ x) (hv : 1 ≤ v ∧ v ≤ 50) (hl : 1 ≤ lo ∧ lo ≤ 50) (hu : -100000 ≤ up ∧ up ≤ 100000) :
    (1 ≤ lo * v ∧ lo * v ≤ 2500) ∧ (-2500 ≤ (x - wh v len x lv * v) * lo ∧ (x - wh v len x lv * v) * lo ≤ 2500) ∧ (-5000000 ≤ up * v ∧ up * v ≤ 5000000) ∧ (-5002500 ≤ ((x - wh v len x lv * v) * lo - up * v) / (lo * v) ∧ ((x - wh v len x lv * v) * lo - up * v) / (lo * v) ≤ 5002500) ∧ (-5002500 ≤ (up * v - (x - wh v len x lv * v) * lo) / (lo * v) ∧ (up * v - (x - wh v len x lv * v) * lo) / (lo * v) ≤ 5002500) := by
  have p := part_r (len := len) (lv := lv) h0 hv.1
  have a1 : 1 ≤ lo * v := by
    have := Int.mul_le_mul_of_nonneg_left hv.1 (show 0 ≤ lo by omega)
    omega
  have a2 := mulr (a := lo) (b := v) (A := 50) (B := 50) (by omega) (by omega) (by omega) (by omega)
  have a3 := mulr (a := x - wh v len x lv * v) (b := lo) (A := 50) (B := 50) (by omega) (by omega) (by omega) (by omega)
  have a4 := mulr (a := up) (b := v) (A := 100000) (B := 50) (by omega) (by omega) (by omega) (by omega)
  refine ⟨⟨a1, by omega⟩, by omega, by omega, ?_, ?_⟩
  · exact div_r a1 (by omega) (by omega)
  · exact div_r a1 (by omega) (by omega)
/-- only the cell u may differ -/
def fr (u : Nat) (M M1 : Nat → Nat → Int) : Prop := ∀ a k, a ≠ u → M1 a k = M a k
theorem fr.rf (u : Nat) (M : Nat → Nat → Int) : fr u M M := fun _ _ _ => rfl
theorem fr.u {u : Nat} {M M1 : Nat → Nat → Int} (h : fr u M M1) (k : Nat) (z : Int) : fr u M (sx_u M1 u k z) := fun a j ha => by
  rw [sx_u_ne ha]; exact h a j ha
theorem fr.tr {u : Nat} {M M1 M2 : Nat → Nat → Int} (h : fr u M M1) (h2 : fr u M1 M2) : fr u M M2 := fun a k ha => (h2 a k ha).trans (h a k ha)
section FR
variable {u : Nat} {M M1 : Nat → Nat → Int}
theorem fr_dr (h : fr u M M1) (hu : 20 < u) : dr M1 = dr M := by funext d; simp only [dr, h 4 d (by omega)]
theorem fr_Bd (h : fr u M M1) (hu : 20 < u) : Bd M1 = Bd M := by funext d; simp only [Bd, fr_dr h hu]
theorem fr_Dd (h : fr u M M1) (hu : 20 < u) : Dd M1 = Dd M := by funext d; simp only [Dd, fr_dr h hu]
theorem fr_IDy (h : fr u M M1) (hu : 20 < u) (hI : IDy M) : IDy M1 := by
  unfold IDy
  rw [fr_dr h hu]
  exact ⟨fun d hd => by rw [h 4 d (by omega)]; exact hI.1 d hd, fun d hd => by rw [h 5 d (by omega)]; exact hI.2.1 d hd, fun n hn => by rw [h 6 n (by omega)]; exact hI.2.2.1 n hn, by rw [h 3 3 (by omega)]; exact hI.2.2.2⟩
theorem fr_wk (h : fr u M M1) (hu : 20 < u) {w : Nat} (hw : w < 6) (k : Nat) : M1 (14 + w) k = M (14 + w) k := h _ _ (by omega)
theorem fr_IW (h : fr u M M1) (hu : 20 < u) {w : Nat} (hw : w < 6) (hI : IW M w) : IW M1 w := by
  unfold IW
  simp only [fr_wk h hu hw]
  exact hI
theorem fr_wx (h : fr u M M1) (hu : 20 < u) {w : Nat} (hw : w < 6) : wx M1 w = wx M w := by
  funext p d; simp only [wx, fr_wk h hu hw]
theorem fr_pT (h : fr u M M1) (hu : 20 < u) {w : Nat} (hw : w < 6) : pT M1 w = pT M w := by
  funext s d p lv; simp only [pT, fr_wk h hu hw, fr_Bd h hu, fr_Dd h hu, fr_wx h hu hw]
theorem fr_eT (h : fr u M M1) (hu : 20 < u) {w : Nat} (hw : w < 6) : eT M1 w = eT M w := by
  funext s; simp only [eT, fr_wk h hu hw, fr_Bd h hu, fr_Dd h hu]
theorem fr_fS (h : fr u M M1) (hu : 20 < u) {w : Nat} (hw : w < 6) : fS M1 w = fS M w := by
  funext x up lo; simp only [fS, fr_wk h hu hw, fr_Bd h hu]
theorem fr_lS (h : fr u M M1) (hu : 20 < u) {w : Nat} (hw : w < 6) : lS M1 w = lS M w := by
  funext x up lo; simp only [lS, fr_wk h hu hw, fr_Bd h hu]
end FR
theorem fS_r {M : Nat → Nat → Int} {w : Nat} (hW : IW M w) {x up lo : Int} (hx : 0 ≤ x ∧ x ≤ 200) (hl : 1 ≤ lo ∧ lo ≤ 50) (hu : -100000 ≤ up ∧ up ≤ 100000) : sx_r (fS M w x up lo) ∧ sx_r (lS M w x up lo) := by
  obtain ⟨q1, q2, q3, q4, q5, q6⟩ := hW
  have n0 := num_r (len := M (14 + w) 3 - M (14 + w) 2) (lv := 0) hx.1 ⟨q4, q5⟩ hl hu
  have n1 := num_r (len := M (14 + w) 3 - M (14 + w) 2) (lv := 1) hx.1 ⟨q4, q5⟩ hl hu
  have w0 := wh_r (len := M (14 + w) 3 - M (14 + w) 2) (lv := 0) hx.1 hx.2 q4
  have w1 := wh_r (len := M (14 + w) 3 - M (14 + w) 2) (lv := 1) hx.1 hx.2 q4
  unfold fS lS
  have b0 := Bd_r M (-(((x - wh (M (14 + w) 4) (M (14 + w) 3 - M (14 + w) 2) x 0 * M (14 + w) 4) * lo - up * M (14 + w) 4) / (lo * M (14 + w) 4)))
  have b1 := Bd_r M ((up * M (14 + w) 4 - (x - wh (M (14 + w) 4) (M (14 + w) 3 - M (14 + w) 2) x 1 * M (14 + w) 4) * lo) / (lo * M (14 + w) 4) + 1)
  constructor
  · constructor <;> omega
  · constructor <;> omega
