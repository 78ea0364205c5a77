def VS (M : Nat → Nat → Int) (l : Nat) (S D : Nat → Int) : Prop := ∀ j, j < l → (0 ≤ S j ∧ S j ≤ 99) ∧ (D j = 0 ∨ D j = 1) ∧ dr M (S j).toNat = false
def SLt (M : Nat → Nat → Int) (l : Nat) (S D : Nat → Int) (M2 : Nat → Nat → Int) : Prop := ∀ j, j < l → laid M j j (S j) (D j) M2
def eb2 (M : Nat → Nat → Int) (ag : Int) (nw : Nat) (M1 : Nat → Nat → Int) : sB → Prop
  | none => M1 51 33 = 0
  | some q => M1 51 33 = 1 ∧ M1 51 34 = gE M q.1 nw ∧ M1 51 35 = gV M ag q.1 q.2 nw ∧ (∀ i, i < nw → M1 78 i = q.1 i ∧ M1 79 i = q.2 i) ∧ VS M nw q.1 q.2
def cnd (M : Nat → Nat → Int) (l k : Nat) : Int × Int := if M (14 + l) 10 = 0 then (if M (14 + l) 6 = 0 then ((k : Int), 0) else (((k / 2 : Nat) : Int), ((k % 2 : Nat) : Int))) else (M 23 l, M 24 l)
def trs (M : Nat → Nat → Int) (l : Nat) : Nat := if M (14 + l) 10 = 0 then (if M (14 + l) 6 = 0 then 100 else 200) else 1
theorem wy_0 (s : Int) : wy 0 0 s = [(s, 0)] := by unfold wy; rw [if_neg (by omega), if_pos rfl]
theorem wy_1 (s : Int) : wy 0 1 s = [(s, 0), (s, 1)] := by unfold wy; rw [if_neg (by omega), if_neg (by omega)]; rfl
theorem wy_d (d s : Int) : wy d d s = [(s, d)] := by unfold wy; rw [if_neg (by omega), if_pos rfl]
theorem ol0_at (k n : Nat) (s : Int) (h : k < n) : (ol 0 0 n s).drop k = (s + (k : Int), 0) :: (ol 0 0 n s).drop (k + 1) := by
  induction k generalizing n s with
  | zero =>
    cases n with
    | zero => omega
    | succ n => simp [ol, wy_0]
  | succ k ih =>
    cases n with
    | zero => omega
    | succ n =>
      have := ih n (s + 1) (by omega)
      simp only [ol, wy_0, List.cons_append, List.nil_append, List.drop_succ_cons]
      rw [this]
      simp
      omega
theorem ol0_end (n : Nat) (s : Int) : (ol 0 0 n s).drop n = [] := by
  induction n generalizing s with
  | zero => rfl
  | succ n ih => simp only [ol, wy_0, List.cons_append, List.nil_append, List.drop_succ_cons]; exact ih (s + 1)
theorem ol1_at (n : Nat) : ∀ (k : Nat) (s : Int), k < 2 * n → (ol 0 1 n s).drop k = (s + ((k / 2 : Nat) : Int), ((k % 2 : Nat) : Int)) :: (ol 0 1 n s).drop (k + 1) := by
  induction n with
  | zero => intro k s h; omega
  | succ n ih =>
    intro k s h
    match k, h with
    | 0, _ => simp [ol, wy_1]
    | 1, _ => simp [ol, wy_1]
    | k + 2, h =>
      have := ih k (s + 1) (by omega)
      simp only [ol, wy_1, List.cons_append, List.nil_append, List.drop_succ_cons]
      rw [this, show (k + 2) / 2 = k / 2 + 1 by omega, show (k + 2) % 2 = k % 2 by omega]
      congr 2
      omega
theorem ol1_end (n : Nat) (s : Int) : (ol 0 1 n s).drop (2 * n) = [] := by
  induction n generalizing s with
  | zero => rfl
  | succ n ih => rw [show 2 * (n + 1) = 2 * n + 1 + 1 by omega]; simp only [ol, wy_1, List.cons_append, List.nil_append, List.drop_succ_cons]; exact ih (s + 1)
theorem CC_at {M : Nat → Nat → Int} {l k : Nat} (h : k < trs M l) : (CC M l).drop k = cnd M l k :: (CC M l).drop (k + 1) := by
  unfold CC cnd
  unfold trs at h
  by_cases q : M (14 + l) 10 = 0
  · rw [if_pos q] at h
    rw [if_pos q, if_pos q]
    by_cases q2 : M (14 + l) 6 = 0
    · rw [if_pos q2] at h
      rw [if_pos q2, if_pos q2, ol0_at k 100 0 h, Int.zero_add]
    · rw [if_neg q2] at h
      rw [if_neg q2, if_neg q2, ol1_at 100 k 0 (by omega), Int.zero_add]
  · rw [if_neg q] at h
    rw [if_neg q, if_neg q, show k = 0 by omega]
    simp [ol, wy_d]
theorem CC_end (M : Nat → Nat → Int) (l : Nat) : (CC M l).drop (trs M l) = [] := by
  unfold CC trs
  by_cases q : M (14 + l) 10 = 0
  · rw [if_pos q, if_pos q]
    by_cases q2 : M (14 + l) 6 = 0
    · rw [if_pos q2, if_pos q2]; exact ol0_end 100 0
    · rw [if_neg q2, if_neg q2]; exact ol1_end 100 0
  · rw [if_neg q, if_neg q]
    simp [ol, wy_d]
theorem gV_0 (M : Nat → Nat → Int) (S D : Nat → Int) (n : Nat) : gV M 0 S D n = 0 := by
  induction n with
  | zero => rfl
  | succ n ih => simp [gV, ih]
theorem tf_iff (P : Prop) : tf P = true ↔ P := ⟨fun h => by by_cases q : P; exact q; rw [tf_f q] at h; exact absurd h (by decide), tf_t⟩
theorem GG_iff {M : Nat → Nat → Int} {nw nb l : Nat} {ag : Int} (h6 : nw ≤ 6) (hws : WKs M nw nb) (hgp : ∀ j, j < 36 → -1 ≤ M 9 j ∧ M 9 j ≤ 30) (hl : l < nw) {S D : Nat → Int} (hV : VS M l S D) {s d : Int} (hs : 0 ≤ s ∧ s ≤ 99) (b : sB) : GG M ag nw nb l (va_up S l s) (va_up D l d) b = true ↔ dr M s.toNat = false ∧ mA M nb l l (va_up S l s) (va_up D l d) s d ∧ bt M ag nw l (va_up S l s) (va_up D l d) b := by
  unfold GG
  rw [tf_iff]
  unfold cR
  rw [up_at, up_at]
  have key : ∀ hsw : dr M s.toNat = false, _ := fun hsw => rules_iff (S := va_up S l s) (D := va_up D l d) (cnt := l) h6 hws hgp hl (by omega) (fun o ho _ => by rw [up_lt ho]; exact ⟨(hV o ho).1.1, (hV o ho).2.2⟩) (d := d) hs hsw
  constructor
  · rintro ⟨h1, h2, h3, h4, h5⟩
    exact ⟨h2, (key h2).mp ⟨⟨h3.1, fun o ho _ => h3.2 o ho⟩, ⟨h4.1, fun o ho _ => h4.2 o ho⟩, h5⟩, h1⟩
  · rintro ⟨h2, h3, h1⟩
    obtain ⟨k1, k2, k3⟩ := (key h2).mpr h3
    exact ⟨h1, h2, ⟨k1.1, fun o ho => k1.2 o ho (by omega)⟩, ⟨k2.1, fun o ho => k2.2 o ho (by omega)⟩, k3⟩
/-- the base of a level: the choices of the levels before it -/
def sb (S0 cs : Nat → Int) : Nat → Nat → Int
  | 0 => S0
  | l + 1 => va_up (sb S0 cs l) l (cs l)
theorem sb_c {S0 cs cs2 : Nat → Int} (l : Nat) (h : ∀ j, j < l → cs2 j = cs j) : sb S0 cs2 l = sb S0 cs l := by
  induction l with
  | zero => rfl
  | succ l ih => simp only [sb, ih (fun j hj => h j (by omega)), h l (by omega)]
theorem sb_lt {S0 cs : Nat → Int} {l j : Nat} (h : j < l) : sb S0 cs l j = cs j := by
  induction l with
  | zero => omega
  | succ l ih =>
    simp only [sb]
    by_cases q : j = l
    · subst q; exact up_at
    · rw [up_lt (by omega)]; exact ih (by omega)
/-- what is left of the search: the rest of each level -/
def rsm (g : Int) (G : Nat → (Nat → Int) → (Nat → Int) → sB → Bool) (C : Nat → List (Int × Int)) (nw : Nat) (S0 D0 cs cd : Nat → Int) (nt : Nat → Nat) : Nat → (Int × sB) × Bool → (Int × sB) × Bool
  | 0 => fun r => r
  | l + 1 => fun r => rsm g G C nw S0 D0 cs cd nt l (lv g (G l) (fs g G C (nw - (l + 1)) (l + 1)) l (sb S0 cs l) (sb D0 cd l) ((C l).drop (nt l)) r)
section RSM
variable {g : Int} {G : Nat → (Nat → Int) → (Nat → Int) → sB → Bool} {C : Nat → List (Int × Int)} {nw : Nat} {S0 D0 cs cd cs2 cd2 : Nat → Int} {nt nt2 : Nat → Nat}
theorem rsm_cut (l : Nat) {r : (Int × sB) × Bool} (h : r.2 = true) : rsm g G C nw S0 D0 cs cd nt l r = r := by
  induction l with
  | zero => rfl
  | succ l ih => simp only [rsm, lv_cut _ h]; exact ih
theorem rsm_c (l : Nat) (h1 : ∀ j, j < l → cs2 j = cs j) (h2 : ∀ j, j < l → cd2 j = cd j) (h3 : ∀ j, j < l → nt2 j = nt j) (r : (Int × sB) × Bool) : rsm g G C nw S0 D0 cs2 cd2 nt2 l r = rsm g G C nw S0 D0 cs cd nt l r := by
  induction l generalizing r with
  | zero => rfl
  | succ l ih =>
    simp only [rsm]
    rw [sb_c l (fun j hj => h1 j (by omega)), sb_c l (fun j hj => h2 j (by omega)), h3 l (by omega)]
    exact ih (fun j hj => h1 j (by omega)) (fun j hj => h2 j (by omega)) (fun j hj => h3 j (by omega)) _
theorem rsm_pop (m : Nat) (h : (C m).drop (nt m) = []) (r : (Int × sB) × Bool) : rsm g G C nw S0 D0 cs cd nt (m + 1) r = rsm g G C nw S0 D0 cs cd nt m r := by
  simp only [rsm, h, lv]
theorem rsm_stop (m : Nat) {c : Int × Int} {t : List (Int × Int)} (h : (C m).drop (nt m) = c :: t) {x : Int} {b : sB} (hx : g ≤ x) : rsm g G C nw S0 D0 cs cd nt (m + 1) ((x, b), false) = ((x, b), true) := by
  simp only [rsm, h]
  rw [lv_go c t rfl]
  unfold one
  rw [if_pos hx, lv_cut t rfl, rsm_cut m rfl]
theorem rsm_no (m : Nat) {c : Int × Int} (h : (C m).drop (nt m) = c :: (C m).drop (nt m + 1)) {x : Int} {b : sB} (hx : ¬ g ≤ x) (hG : ¬ G m (va_up (sb S0 cs m) m c.1) (va_up (sb D0 cd m) m c.2) b = true) (h3 : ∀ j, j < m → nt2 j = nt j) (h4 : nt2 m = nt m + 1) : rsm g G C nw S0 D0 cs cd nt (m + 1) ((x, b), false) = rsm g G C nw S0 D0 cs cd nt2 (m + 1) ((x + 1, b), false) := by
  simp only [rsm, h, h4]
  rw [lv_go c _ rfl]
  unfold one
  rw [if_neg hx, if_neg hG]
  exact (rsm_c m (fun _ _ => rfl) (fun _ _ => rfl) h3 _).symm
theorem rsm_leaf (m : Nat) (hm : nw = m + 1) {c : Int × Int} (h : (C m).drop (nt m) = c :: (C m).drop (nt m + 1)) {x : Int} {b : sB} (hx : ¬ g ≤ x) (hG : G m (va_up (sb S0 cs m) m c.1) (va_up (sb D0 cd m) m c.2) b = true) (h3 : ∀ j, j < m → nt2 j = nt j) (h4 : nt2 m = nt m + 1) : rsm g G C nw S0 D0 cs cd nt (m + 1) ((x, b), false) = rsm g G C nw S0 D0 cs cd nt2 (m + 1) ((x + 1, some (va_up (sb S0 cs m) m c.1, va_up (sb D0 cd m) m c.2)), false) := by
  simp only [rsm, h, h4]
  rw [lv_go c _ rfl]
  unfold one
  rw [if_neg hx, if_pos hG]
  have e : nw - (m + 1) = 0 := by omega
  rw [rsm_c m (fun _ _ => rfl) (fun _ _ => rfl) h3 _, e]
  rfl
theorem rsm_deep (m : Nat) (hm : m + 1 < nw) {c : Int × Int} (h : (C m).drop (nt m) = c :: (C m).drop (nt m + 1)) {x : Int} {b : sB} (hx : ¬ g ≤ x) (hG : G m (va_up (sb S0 cs m) m c.1) (va_up (sb D0 cd m) m c.2) b = true) (h1 : ∀ j, j < m → cs2 j = cs j) (h2 : ∀ j, j < m → cd2 j = cd j) (h3 : ∀ j, j < m → nt2 j = nt j) (h4 : nt2 m = nt m + 1) (h5 : nt2 (m + 1) = 0) (h6 : cs2 m = c.1) (h7 : cd2 m = c.2) : rsm g G C nw S0 D0 cs cd nt (m + 1) ((x, b), false) = rsm g G C nw S0 D0 cs2 cd2 nt2 (m + 1 + 1) ((x + 1, b), false) := by
  have e : nw - (m + 1) = nw - (m + 1 + 1) + 1 := by omega
  have e2 : rsm g G C nw S0 D0 cs2 cd2 nt2 (m + 1 + 1) ((x + 1, b), false) = rsm g G C nw S0 D0 cs2 cd2 nt2 (m + 1) (fs g G C (nw - (m + 1)) (m + 1) (va_up (sb S0 cs m) m c.1) (va_up (sb D0 cd m) m c.2) (x + 1, b)) := by
    rw [e]
    simp only [rsm, fs, h5, List.drop_zero, sb, h6, h7, sb_c m h1, sb_c m h2]
  rw [e2]
  simp only [rsm, h, h4]
  rw [lv_go c _ rfl]
  unfold one
  rw [if_neg hx, if_pos hG, rsm_c m h1 h2 h3 _, sb_c m h1, sb_c m h2]
end RSM
