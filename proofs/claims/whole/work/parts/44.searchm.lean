/-- what was told, the days and the plan are the same -/
def lo (M M1 : Nat → Nat → Int) : Prop := ∀ a k, a < 25 → M1 a k = M a k
section LO
variable {M M1 : Nat → Nat → Int}
theorem lo_dr (h : lo M M1) : dr M1 = dr M := by funext d; simp only [dr, h 4 d (by omega)]
theorem lo_Bd (h : lo M M1) : Bd M1 = Bd M := by funext d; simp only [Bd, lo_dr h]
theorem lo_Dd (h : lo M M1) : Dd M1 = Dd M := by funext d; simp only [Dd, lo_dr h]
theorem lo_IDy (h : lo M M1) (hI : IDy M) : IDy M1 := by
  unfold IDy
  rw [lo_dr h]
  exact ⟨fun d hd => by rw [h 4 d (by omega)]; exact hI.1 d hd, fun d hd => by rw [h 5 d (by omega)]; exact hI.2.1 d hd, fun n hn => by rw [h 6 n (by omega)]; exact hI.2.2.1 n hn, by rw [h 3 3 (by omega)]; exact hI.2.2.2⟩
theorem lo_wk (h : lo M M1) {w : Nat} (hw : w < 6) (k : Nat) : M1 (14 + w) k = M (14 + w) k := h _ _ (by omega)
theorem lo_IW (h : lo M M1) {w : Nat} (hw : w < 6) (hI : IW M w) : IW M1 w := by unfold IW; simp only [lo_wk h hw]; exact hI
theorem lo_IS (h : lo M M1) {w : Nat} (hw : w < 6) (hI : IS M w) : IS M1 w := by unfold IS; simp only [lo_wk h hw]; exact hI
theorem lo_wx (h : lo M M1) {w : Nat} (hw : w < 6) : wx M1 w = wx M w := by funext p d; simp only [wx, lo_wk h hw]
theorem lo_pT (h : lo M M1) {w : Nat} (hw : w < 6) : pT M1 w = pT M w := by funext s d p lv; simp only [pT, lo_wk h hw, lo_Bd h, lo_Dd h, lo_wx h hw]
theorem lo_eT (h : lo M M1) {w : Nat} (hw : w < 6) : eT M1 w = eT M w := by funext s; simp only [eT, lo_wk h hw, lo_Bd h, lo_Dd h]
theorem lo_fS (h : lo M M1) {w : Nat} (hw : w < 6) : fS M1 w = fS M w := by funext x up lo; simp only [fS, lo_wk h hw, lo_Bd h]
theorem lo_lS (h : lo M M1) {w : Nat} (hw : w < 6) : lS M1 w = lS M w := by funext x up lo; simp only [lS, lo_wk h hw, lo_Bd h]
theorem lo_oL (h : lo M M1) {w : Nat} (hw : w < 6) : oL M1 w = oL M w := by
  funext way nb n
  have e11 : ∀ k, M1 11 k = M 11 k := fun k => h 11 k (by omega)
  have e12 : ∀ k, M1 12 k = M 12 k := fun k => h 12 k (by omega)
  have e13 : ∀ k, M1 13 k = M 13 k := fun k => h 13 k (by omega)
  simp only [oL, lo_Bd h, lo_wk h hw, e11, e12, e13, lo_fS h hw, lo_wx h hw]
theorem lo_oG (h : lo M M1) {w : Nat} (hw : w < 6) : oG M1 w = oG M w := by funext n; simp only [oG, lo_Bd h, lo_wk h hw]
theorem lo_IB (h : lo M M1) {w : Nat} (hw : w < 6) {nb : Nat} {way : Int} (hB : IB M nb w way) : IB M1 nb w way := by
  intro k hk
  rw [h 11 k (by omega), h 12 k (by omega), h 13 k (by omega), lo_wx h hw]
  exact hB k hk
end LO
noncomputable def gLs (M : Nat → Nat → Int) (S D : Nat → Int) (o w : Nat) (way q : Int) : Int := fS M w (wx M w q way) (pT M o (S o) (D o) q 1 + M 9 (6 * o + w) * M (14 + o) 4) (M (14 + o) 4)
noncomputable def gGs (M : Nat → Nat → Int) (S D : Nat → Int) (o w : Nat) (way q : Int) : Int := lS M w (wx M w q way) (pT M o (S o) (D o) q 0 - M 9 (6 * w + o) * M (14 + o) 4) (M (14 + o) 4)
def kLs (M : Nat → Nat → Int) (S D : Nat → Int) (o w : Nat) (way n : Int) : Prop := M 9 (6 * o + w) = -1 ∨ ∀ q, fI M o w ≤ q → q ≤ lA M o w → gLs M S D o w way q ≤ n
def kGs (M : Nat → Nat → Int) (S D : Nat → Int) (o w : Nat) (way n : Int) : Prop := M 9 (6 * w + o) = -1 ∨ ∀ q, fI M o w ≤ q → q ≤ lA M o w → n ≤ gGs M S D o w way q
theorem kLs_c {M M1 : Nat → Nat → Int} (h : lo M M1) {S D S1 D1 : Nat → Int} {o w : Nat} (ho : o < 6) (hw : w < 6) (h1 : S1 o = S o) (h2 : D1 o = D o) (way n : Int) : kLs M1 S1 D1 o w way n ↔ kLs M S D o w way n := by
  simp only [kLs, gLs, fI, lA, h1, h2, lo_wk h ho, lo_wk h hw, lo_fS h hw, lo_wx h hw, lo_pT h ho, h 9 _ (show 9 < 25 by decide)]
theorem kGs_c {M M1 : Nat → Nat → Int} (h : lo M M1) {S D S1 D1 : Nat → Int} {o w : Nat} (ho : o < 6) (hw : w < 6) (h1 : S1 o = S o) (h2 : D1 o = D o) (way n : Int) : kGs M1 S1 D1 o w way n ↔ kGs M S D o w way n := by
  simp only [kGs, gGs, fI, lA, h1, h2, lo_wk h ho, lo_wk h hw, lo_lS h hw, lo_wx h hw, lo_pT h ho, h 9 _ (show 9 < 25 by decide)]
def cfs (M : Nat → Nat → Int) (S : Nat → Int) (w : Nat) (n : Int) (o : Nat) : Int := if o ≠ w ∧ M (14 + o) 1 = M (14 + w) 1 ∧ Bd M (S o) ≤ n ∧ n < Bd M (S o) + M (14 + o) 5 then 1 else 0
def cns (M : Nat → Nat → Int) (S : Nat → Int) (w : Nat) (n : Int) (m : Nat) : Int := 1 + sm (cfs M S w n) m
theorem sm_c {f g : Nat → Int} (m : Nat) (h : ∀ i, i < m → f i = g i) : sm f m = sm g m := by
  induction m with
  | zero => rfl
  | succ m ih => simp only [sm, ih (fun i hi => h i (by omega)), h m (by omega)]
theorem cns_c {M M1 : Nat → Nat → Int} (h : lo M M1) {S S1 : Nat → Int} {w m : Nat} (hw : w < 6) (hm : m ≤ 6) (h1 : ∀ o, o < m → S1 o = S o) (n : Int) : cns M1 S1 w n m = cns M S w n m := by
  unfold cns
  rw [sm_c m (fun i hi => ?_)]
  simp only [cfs, lo_Bd h, lo_wk h hw, lo_wk h (show i < 6 by omega), h1 i hi]
def hRs (M : Nat → Nat → Int) (S : Nat → Int) (w : Nat) (s : Int) (m : Nat) : Prop := cns M S w (Bd M s) m ≤ M 10 (M (14 + w) 1).toNat ∧ ∀ o, o < m → o ≠ w → Bd M s < Bd M (S o) + M (14 + o) 5 → Bd M (S o) < Bd M s + M (14 + w) 5 → M (14 + o) 0 ≠ M (14 + w) 0 ∧ (Bd M s < Bd M (S o) → cns M S w (Bd M (S o)) m ≤ M 10 (M (14 + w) 1).toNat)
theorem hRs_c {M M1 : Nat → Nat → Int} (h : lo M M1) {S S1 : Nat → Int} {w m : Nat} (hw : w < 6) (hm : m ≤ 6) (h1 : ∀ o, o < m → S1 o = S o) (s : Int) : hRs M1 S1 w s m ↔ hRs M S w s m := by
  unfold hRs
  simp only [cns_c h hw hm h1, lo_Bd h, lo_wk h hw, h 10 _ (show 10 < 25 by decide)]
  refine and_congr Iff.rfl ⟨fun q o a1 a2 => ?_, fun q o a1 a2 => ?_⟩
  · have := q o a1 a2
    rw [h1 o a1, lo_wk h (show o < 6 by omega), lo_wk h (show o < 6 by omega)] at this
    exact this
  · have := q o a1 a2
    rw [h1 o a1, lo_wk h (show o < 6 by omega), lo_wk h (show o < 6 by omega)]
    exact this
/-- the rules of a try, by the class's reckoning -/
def cR (M : Nat → Nat → Int) (nb l : Nat) (S D : Nat → Int) : Prop := dr M (S l).toNat = false ∧ (oL M l (D l) nb (Bd M (S l)) ∧ ∀ o, o < l → kLs M S D o l (D l) (Bd M (S l))) ∧ (oG M l (Bd M (S l)) ∧ ∀ o, o < l → kGs M S D o l (D l) (Bd M (S l))) ∧ hRs M S l (S l) l
/-- the greatest end; how many are moved -/
noncomputable def gE (M : Nat → Nat → Int) (S : Nat → Int) : Nat → Int
  | 0 => 0
  | n + 1 => if eT M n (S n) < gE M S n then gE M S n else eT M n (S n)
def gV (M : Nat → Nat → Int) (ag : Int) (S D : Nat → Int) : Nat → Int
  | 0 => 0
  | n + 1 => gV M ag S D n + (if ag ≠ 0 ∧ ¬ (M 23 n = S n ∧ M 24 n = D n) then 1 else 0)
theorem gE_c {M : Nat → Nat → Int} {S S1 : Nat → Int} (n : Nat) (h : ∀ i, i < n → S1 i = S i) : gE M S1 n = gE M S n := by
  induction n with
  | zero => rfl
  | succ n ih => simp only [gE, ih (fun i hi => h i (by omega)), h n (by omega)]
theorem gV_c {M : Nat → Nat → Int} {ag : Int} {S D S1 D1 : Nat → Int} (n : Nat) (h : ∀ i, i < n → S1 i = S i) (h2 : ∀ i, i < n → D1 i = D i) : gV M ag S1 D1 n = gV M ag S D n := by
  induction n with
  | zero => rfl
  | succ n ih => simp only [gV, ih (fun i hi => h i (by omega)) (fun i hi => h2 i (by omega)), h n (by omega), h2 n (by omega)]
theorem gV_r (M : Nat → Nat → Int) (ag : Int) (S D : Nat → Int) (n : Nat) : 0 ≤ gV M ag S D n ∧ gV M ag S D n ≤ n := by
  induction n with
  | zero => exact ⟨Int.le_refl _, Int.le_refl _⟩
  | succ n ih =>
    simp only [gV]
    split <;> omega
abbrev sB : Type := Option ((Nat → Int) × (Nat → Int))
def bt (M : Nat → Nat → Int) (ag : Int) (nw l : Nat) (S D : Nat → Int) : sB → Prop
  | none => True
  | some q => gV M ag S D (l + 1) < gV M ag q.1 q.2 nw ∨ (gV M ag S D (l + 1) = gV M ag q.1 q.2 nw ∧ gE M S (l + 1) < gE M q.1 nw)
noncomputable def tf (P : Prop) : Bool := @decide P (Classical.propDecidable P)
theorem tf_t {P : Prop} (h : P) : tf P = true := by unfold tf; exact @decide_eq_true P (Classical.propDecidable P) h
theorem tf_f {P : Prop} (h : ¬ P) : tf P = false := by unfold tf; exact @decide_eq_false P (Classical.propDecidable P) h
noncomputable def GG (M : Nat → Nat → Int) (ag : Int) (nw nb l : Nat) (S D : Nat → Int) (b : sB) : Bool := tf (bt M ag nw l S D b ∧ cR M nb l S D)
/-- the search as a function: one try, the tries of a level, all levels -/
def one (g : Int) (G : (Nat → Int) → (Nat → Int) → sB → Bool) (deep : (Nat → Int) → (Nat → Int) → Int × sB → (Int × sB) × Bool) (l : Nat) (c : Int × Int) (S D : Nat → Int) (a : Int × sB) : (Int × sB) × Bool :=
  if g ≤ a.1 then (a, true) else if G (va_up S l c.1) (va_up D l c.2) a.2 = true then deep (va_up S l c.1) (va_up D l c.2) (a.1 + 1, a.2) else ((a.1 + 1, a.2), false)
def lv (g : Int) (G : (Nat → Int) → (Nat → Int) → sB → Bool) (deep : (Nat → Int) → (Nat → Int) → Int × sB → (Int × sB) × Bool) (l : Nat) (S D : Nat → Int) : List (Int × Int) → (Int × sB) × Bool → (Int × sB) × Bool
  | [], r => r
  | c :: t, r => if r.2 = true then r else lv g G deep l S D t (one g G deep l c S D r.1)
theorem lv_cut {g : Int} {G : (Nat → Int) → (Nat → Int) → sB → Bool} {deep : (Nat → Int) → (Nat → Int) → Int × sB → (Int × sB) × Bool} {l : Nat} {S D : Nat → Int} (t : List (Int × Int)) {r : (Int × sB) × Bool} (h : r.2 = true) : lv g G deep l S D t r = r := by
  cases t with
  | nil => rfl
  | cons c t => simp [lv, h]
theorem lv_go {g : Int} {G : (Nat → Int) → (Nat → Int) → sB → Bool} {deep : (Nat → Int) → (Nat → Int) → Int × sB → (Int × sB) × Bool} {l : Nat} {S D : Nat → Int} (c : Int × Int) (t : List (Int × Int)) {r : (Int × sB) × Bool} (h : r.2 = false) : lv g G deep l S D (c :: t) r = lv g G deep l S D t (one g G deep l c S D r.1) := by
  simp [lv, h]
def fs (g : Int) (G : Nat → (Nat → Int) → (Nat → Int) → sB → Bool) (C : Nat → List (Int × Int)) : Nat → Nat → (Nat → Int) → (Nat → Int) → Int × sB → (Int × sB) × Bool
  | 0, _ => fun S D a => ((a.1, some (S, D)), false)
  | j + 1, l => fun S D a => lv g (G l) (fs g G C j (l + 1)) l S D (C l) (a, false)
/-- the tries of a level, in their order -/
def wy (d lw s : Int) : List (Int × Int) := if lw < d then [] else if lw = d then [(s, d)] else [(s, d), (s, d + 1)]
def ol (fw lw : Int) : Nat → Int → List (Int × Int)
  | 0, _ => []
  | n + 1, s => wy fw lw s ++ ol fw lw n (s + 1)
def CC (M : Nat → Nat → Int) (l : Nat) : List (Int × Int) := if M (14 + l) 10 = 0 then ol 0 (if M (14 + l) 6 = 0 then 0 else 1) 100 0 else ol (M 24 l) (M 24 l) 1 (M 23 l)
/-- the problem is sound -/
def PH (M : Nat → Nat → Int) (nw nb : Nat) : Prop := IDy M ∧ IR M ∧ M 2 9 = (nw : Int) ∧ nw ≤ 6 ∧ M 2 10 = (nb : Int) ∧ nb ≤ 8 ∧ (∀ w, w < nw → IW M w ∧ IS M w ∧ (∀ d, IB M nb w d) ∧ (0 ≤ M (14 + w) 1 ∧ M (14 + w) 1 ≤ 3) ∧ (M (14 + w) 6 = 0 ∨ M (14 + w) 6 = 1) ∧ (M (14 + w) 10 = 0 ∨ M (14 + w) 10 = 1) ∧ (M (14 + w) 10 = 1 → 0 ≤ M 23 w ∧ M 23 w ≤ 99 ∧ (M 24 w = 0 ∨ M 24 w = 1))) ∧ ∀ j, j < 36 → -1 ≤ M 9 j ∧ M 9 j ≤ 30
/-- the memory at a point of the search -/
def sfr (M M1 : Nat → Nat → Int) : Prop := ∀ a k, (a < 25 ∨ 46 < a) → M1 a k = M a k
theorem sfr.lo {M M1 : Nat → Nat → Int} (h : sfr M M1) : lo M M1 := fun a k ha => h a k (Or.inl ha)
def eb (M : Nat → Nat → Int) (ag : Int) (nw : Nat) (M1 : Nat → Nat → Int) : sB → Prop
  | none => M1 25 12 = 0
  | some q => M1 25 12 = 1 ∧ M1 25 13 = gE M q.1 nw ∧ M1 25 14 = gV M ag q.1 q.2 nw ∧ ∀ i, i < nw → M1 30 i = q.1 i ∧ M1 31 i = q.2 i
def ST (M : Nat → Nat → Int) (ag g : Int) (nw l : Nat) (S D : Nat → Int) (r : (Int × sB) × Bool) (M1 : Nat → Nat → Int) : Prop :=
  sfr M M1 ∧ IR M1 ∧ M1 25 8 = ag ∧ M1 25 9 = g ∧ M1 25 10 = r.1.1 ∧ M1 25 11 = (if r.2 = true then 1 else 0) ∧ eb M ag nw M1 r.1.2 ∧ ∀ i, i < l → M1 27 i = S i ∧ M1 28 i = D i ∧ M1 33 i = gE M S (i + 1) ∧ M1 34 i = gV M ag S D (i + 1)
def wfr (l : Nat) (M1 M2 : Nat → Nat → Int) : Prop := ∀ j k, j < 2 * l → M2 (35 + j) k = M1 (35 + j) k
