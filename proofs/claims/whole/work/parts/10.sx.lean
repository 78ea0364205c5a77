/-! A walk over pure states: values are whole numbers or numbers of cells, a heap is shapes, numbers, references. -/
abbrev sx_v : Type := Int ⊕ Option Nat ⊕ Int
abbrev sx_p (a : Nat) : sx_v := .inr (.inl (some a))
abbrev sx_l (z : Int) : sx_v := .inr (.inr z)
abbrev sx_h : Type := Nat × (Nat → Nat × Nat) × (Nat → Nat → Int) × (Nat → Nat → Option Nat)
def sx_ad (b base : Nat) : Nat → Nat
  | 0 => b
  | a + 1 => base + a
def sx_e (b base : Nat) : sx_v → Value
  | .inl z => .int (Int32.ofInt z)
  | .inr (.inl r) => va_rf (r.map (sx_ad b base))
  | .inr (.inr z) => .long (Int64.ofInt z)
/-- how many words a value takes -/
def sx_ct : sx_v → Nat
  | .inl _ => 1
  | .inr (.inl _) => 1
  | .inr (.inr _) => 2
theorem sx_e_ct (b base : Nat) (v : sx_v) : (sx_e b base v).category = sx_ct v := by
  rcases v with z | r | z
  · rfl
  · cases r <;> rfl
  · rfl
theorem sx_e_cat (b base : Nat) {v : sx_v} (h : sx_ct v = 1) : (sx_e b base v).category = 1 := (sx_e_ct b base v).trans h
theorem sx_sum (b base : Nat) (st : List sx_v) : ((st.map (sx_e b base)).map fun v => v.category).sum = (st.map sx_ct).sum := by
  induction st with
  | nil => rfl
  | cons a l ih => simp only [List.map_cons, List.sum_cons, ih, sx_e_ct]
/-- a field's value by its class and number -/
def sx_fv (b base : Nat) (h : sx_h) (t a k : Nat) : Value := if sx_isI t k = true then .int (Int32.ofInt (h.2.2.1 a k)) else va_rf ((h.2.2.2 a k).map (sx_ad b base))
def sx_cell (dA : Nat → ClassId) (b base : Nat) (h : sx_h) (a : Nat) : va_E :=
  if (h.2.1 a).1 < 100 then .inr ((h.2.1 a).1, (List.range (h.2.1 a).2).map (sx_fv b base h (h.2.1 a).1 a))
  else if (h.2.1 a).1 < 102 then .inl (dA ((h.2.1 a).1 - 100), (h.2.1 a).2, .inl (fun j => Int32.ofInt (h.2.2.1 a j)))
  else .inl (dA ((h.2.1 a).1 - 100), (h.2.1 a).2, .inr (.inr (.inr (.inr (fun j => (h.2.2.2 a j).map (sx_ad b base))))))
def sx_w (dA : Nat → ClassId) (b base : Nat) (h : sx_h) : va_W := (List.range h.1).map (fun a => (base + a, sx_cell dA b base h (a + 1)))
theorem sx_w_at {dA : Nat → ClassId} {b base : Nat} {h : sx_h} {a : Nat} (ha : a < h.1) : (sx_w dA b base h)[a]? = some (base + a, sx_cell dA b base h (a + 1)) := by
  simp [sx_w, List.getElem?_map, ha]
theorem sx_w_get {dA : Nat → ClassId} {b base : Nat} {h : sx_h} {k : Nat} {q : Nat × va_E} (hk : (sx_w dA b base h)[k]? = some q) : k < h.1 ∧ q = (base + k, sx_cell dA b base h (k + 1)) := by
  have hl := (List.getElem?_eq_some_iff.mp hk).1
  have hl : k < h.1 := by simpa [sx_w] using hl
  refine ⟨hl, ?_⟩
  rw [sx_w_at hl] at hk
  exact (Option.some.inj hk).symm
theorem sx_D (dA : Nat → ClassId) (b base : Nat) (h : sx_h) : va_D (fun q => base ≤ q) (sx_w dA b base h) := by
  refine ⟨fun i j p q hi hj e => ?_, fun k q hk => ?_⟩
  · obtain ⟨-, rfl⟩ := sx_w_get hi
    obtain ⟨-, rfl⟩ := sx_w_get hj
    have e : base + i = base + j := e
    omega
  · obtain ⟨-, rfl⟩ := sx_w_get hk
    exact Nat.le_add_right _ _
/-- the heap holds the pure one; behind base all cells are its -/
def sx_H (D : va_G) (dA : Nat → ClassId) (b base : Nat) (s : State) (H : Heap) (locs : List Loc) (h : sx_h) : Prop :=
  va_P D sx_cl (sx_w dA b base h) H ∧ H.size = base + h.1 ∧ va_S (fun q => base ≤ q) s.heap H locs
def sx_tys (dA : Nat → ClassId) : List (ClassId × FieldType) := (List.range sx_ty.length).map (fun i => (dA i, sx_ty.getD i .int))
theorem sx_tys_at {dA : Nat → ClassId} {i : Nat} (hi : i < sx_ty.length) : (sx_tys dA)[i]? = some (dA i, sx_ty.getD i .int) := by
  rw [sx_tys, List.getElem?_map, List.getElem?_range hi]
  rfl
/-- what is fixed in a method's body -/
def sx_C (y : sx_Y) (p : Program) (s : State) (m : MethodId) (args : Array Value) (meth : Method) (c : Code) (D : va_G) (dA : Nat → ClassId) (b base L : Nat) (xs : Nat → Int32) : Prop :=
  CallFix p m c y.2.1 y.2.2.1 s args sx_T y.1.cls ∧ meth.sig.returnType = y.2.2.2 ∧ meth.locks = false ∧ (y.1.name = "<init>" → meth.name = "<init>") ∧ va_K D sx_cl (sx_tys dA) s ∧ (∀ w ∈ sx_N, va_Nw w s) ∧ va_X b L xs s s.heap ∧ b < base ∧ base ≤ s.heap.size
def sx_L (b base : Nat) (ls : Array Slot) (nL : Nat) (l : List (Option sx_v)) : Prop :=
  ls.size = nL ∧ lv_wf ls ∧ ∀ (i : Nat) (v : sx_v), l[i]? = some (some v) → ls[i]? = some (.val (sx_e b base v))
def sx_ll (b base : Nat) (l : List (Option sx_v)) : List (Nat × Value) := (List.range l.length).filterMap (fun i => (l.getD i none).map (fun v => (i, sx_e b base v)))
theorem sx_ll_mem {b base : Nat} {l : List (Option sx_v)} {i : Nat} {w : Value} : (i, w) ∈ sx_ll b base l ↔ ∃ v, l[i]? = some (some v) ∧ w = sx_e b base v := by
  unfold sx_ll
  rw [List.mem_filterMap]
  constructor
  · rintro ⟨j, hj, hq⟩
    cases hv : l.getD j none with
    | none => rw [hv] at hq; cases hq
    | some v =>
      rw [hv] at hq
      cases hq
      refine ⟨v, ?_, rfl⟩
      have hj : i < l.length := List.mem_range.mp hj
      rw [List.getD_eq_getElem?_getD, List.getElem?_eq_getElem hj, Option.getD_some] at hv
      rw [List.getElem?_eq_getElem hj, hv]
  · rintro ⟨v, hv, rfl⟩
    refine ⟨i, List.mem_range.mpr (List.getElem?_eq_some_iff.mp hv).1, ?_⟩
    rw [List.getD_eq_getElem?_getD, hv]
    rfl
theorem sx_L.has {b base nL : Nat} {ls : Array Slot} {l : List (Option sx_v)} (h : sx_L b base ls nL l) : lv_has ls nL (sx_ll b base l) := by
  refine ⟨h.1, h.2.1, fun q hq => ?_⟩
  obtain ⟨i, w⟩ := q
  obtain ⟨v, hv, rfl⟩ := sx_ll_mem.mp hq
  exact h.2.2 i v hv
/-- no long stands just before slot i -/
def sx_nl (l : List (Option sx_v)) : Nat → Bool
  | 0 => true
  | i + 1 => match l[i]? with
    | some (some (.inr (.inr _))) => false
    | _ => true
theorem sx_nl_ne {b base : Nat} {l : List (Option sx_v)} {i j : Nat} {w : sx_v} (h : sx_nl l i = true) (hj : l[j]? = some (some w)) : (j + 1 == i && (sx_e b base w).category == 2) = false := by
  by_cases e : j + 1 = i
  · subst e
    have h2 : (sx_e b base w).category = 1 := by
      refine sx_e_cat b base ?_
      rcases w with z | r | z
      · rfl
      · rfl
      · simp [sx_nl, hj] at h
    rw [h2]
    simp
  · have : (j + 1 == i) = false := by simpa using e
    rw [this]
    rfl
theorem sx_L.set {b base nL i : Nat} {ls : Array Slot} {l : List (Option sx_v)} {v : sx_v} (hn : sx_nl l i = true) (h : lv_has ls nL ((i, sx_e b base v) :: (sx_ll b base l).filter (fun q => !(q.1 == i) && !(q.1 + 1 == i && q.2.category == 2)))) : sx_L b base ls nL (l.set i (some v)) := by
  refine ⟨h.1, h.2.1, fun j w hj => ?_⟩
  by_cases hij : i = j
  · subst hij
    have hl : i < l.length := by
      have := (List.getElem?_eq_some_iff.mp hj).1
      simpa using this
    rw [List.getElem?_set_self hl] at hj
    cases hj
    exact h.2.2 (i, sx_e b base v) List.mem_cons_self
  · rw [List.getElem?_set_ne hij] at hj
    refine h.2.2 (j, sx_e b base w) (List.mem_cons_of_mem _ (List.mem_filter.mpr ⟨sx_ll_mem.mpr ⟨w, hj, rfl⟩, ?_⟩))
    have h1 : (j == i) = false := by simp; omega
    have h2 := sx_nl_ne (b := b) (base := base) hn hj
    simp only [h1, h2, Bool.not_false, Bool.and_self]
theorem sx_L.set2 {b base nL i : Nat} {ls : Array Slot} {l : List (Option sx_v)} {v : sx_v} (hn : sx_nl l i = true) (h : lv_has ls nL ((i, sx_e b base v) :: (sx_ll b base l).filter (fun q => !(q.1 == i) && (!(q.1 == i + 1) && !(q.1 + 1 == i && q.2.category == 2))))) : sx_L b base ls nL ((l.set i (some v)).set (i + 1) none) := by
  refine ⟨h.1, h.2.1, fun j w hj => ?_⟩
  by_cases hij1 : i + 1 = j
  · subst hij1
    by_cases hl : i + 1 < l.length
    · rw [List.getElem?_set_self (by simpa using hl)] at hj
      cases hj
    · rw [List.getElem?_eq_none (by simp; omega)] at hj
      cases hj
  rw [List.getElem?_set_ne hij1] at hj
  by_cases hij : i = j
  · subst hij
    have hl : i < l.length := by
      have := (List.getElem?_eq_some_iff.mp hj).1
      simpa using this
    rw [List.getElem?_set_self hl] at hj
    cases hj
    exact h.2.2 (i, sx_e b base v) List.mem_cons_self
  · rw [List.getElem?_set_ne hij] at hj
    refine h.2.2 (j, sx_e b base w) (List.mem_cons_of_mem _ (List.mem_filter.mpr ⟨sx_ll_mem.mpr ⟨w, hj, rfl⟩, ?_⟩))
    have h1 : (j == i) = false := by simp; omega
    have h3 : (j == i + 1) = false := by simp; omega
    have h2 := sx_nl_ne (b := b) (base := base) hn hj
    simp only [h1, h2, h3, Bool.not_false, Bool.and_self]
/-- a return's instruction fits the answer -/
def sx_ret (y : sx_Y) (pc : Nat) : Option sx_v → Prop
  | none => decode y.2.1 pc = .ok (.return_, 1) ∧ y.2.2.2 = none
  | some (.inl z) => decode y.2.1 pc = .ok (.ireturn, 1) ∧ (y.2.2.2 = some .int ∨ (y.2.2.2 = some .boolean ∧ (z = 0 ∨ z = 1)))
  | some (.inr _) => False
/-- the machine, at this pure state of method y's body, comes to a return with 'post' -/
def sx_V (y : sx_Y) (k : Nat × Nat × Nat) (L : Nat) (xs : Nat → Int32) (cs : Nat × Nat) (pc : Nat) (l : List (Option sx_v)) (st : List sx_v) (h : sx_h) (post : Option sx_v → sx_h → Prop) : Prop :=
  ∀ (p : Program) (lc : Launch) (e : Env) (R : Room) (s : State) (m : MethodId) (args : Array Value) (below : List Frame) (meth : Method) (c : Code) (D : va_G) (dA : Nat → ClassId) (b base : Nat) (Q : State → Prop),
    sx_C y p s m args meth c D dA b base L xs → (k.1 ≤ R.frames ∧ 64 * k.1 ≤ R.locals ∧ k.2.1 ≤ R.cells ∧ k.2.2 ≤ R.slots) →
    (∀ (pcR : Nat) (lsR : Array Slot) (H : Heap) (locs : List Loc) (v : Option sx_v) (h' : sx_h), post v h' → sx_H D dA b base s H locs h' → sx_ret y pcR v → W p lc e R s m args below meth c H locs k.2.1 k.2.2 Q (F0 m pcR lsR (v.toList.map (sx_e b base)))) →
    ∀ (H : Heap) (locs : List Loc) (ls : Array Slot), sx_H D dA b base s H locs h → sx_L b base ls y.2.2.1 l → W p lc e R s m args below meth c H locs cs.1 cs.2 Q (F0 m pc ls (st.map (sx_e b base)))
/-- a method's start and end by pure heaps -/
def sx_B (D : va_G) (dA : Nat → ClassId) (b base L : Nat) (xs : Nat → Int32) (h : sx_h) (U : State) : Prop :=
  va_P D sx_cl (sx_w dA b base h) U.heap ∧ U.heap.size = base + h.1 ∧ va_K D sx_cl (sx_tys dA) U ∧ (∀ w ∈ sx_N, va_Nw w U) ∧ va_X b L xs U U.heap ∧ b < base
def sx_Q (D : va_G) (dA : Nat → ClassId) (b base : Nat) (post : Option sx_v → sx_h → Prop) : Array Value → State → Outcome → State → Prop := fun _ st oc t =>
  ∃ (v : Option sx_v) (h' : sx_h), oc = .returned (v.map (sx_e b base)) ∧ post v h' ∧ va_P D sx_cl (sx_w dA b base h') t.heap ∧ t.heap.size = base + h'.1 ∧ va_F (fun q => base ≤ q) st t
def sx_ws (y : sx_Y) : List Cond := Cond.code y.1 y.2.1 y.2.2.1 y.2.2.2 :: sx_T
def sx_rm (k : Nat × Nat × Nat) : Room := { frames := k.1, cells := k.2.1, slots := k.2.2, locals := 64 * k.1 }
/-- method y's contract: from these arguments and this heap it returns with 'post' -/
def sx_R (y : sx_Y) (k : Nat × Nat × Nat) (L : Nat) (xs : Nat → Int32) (av : List sx_v) (h : sx_h) (post : Option sx_v → sx_h → Prop) : Prop :=
  ∀ (lc : Launch) (D : va_G) (dA : Nat → ClassId) (b base : Nat), Met lc y.1 (sx_ws y) (sx_rm k) (va_Pc (av.map (sx_e b base)) (sx_B D dA b base L xs h)) (sx_Q D dA b base post) k.2.1 k.2.2 (fun q => base ≤ q)
theorem sx_lg (b base : Nat) (av : List sx_v) (h : ∀ v ∈ av, sx_ct v = 1) : lg_sl (av.map (sx_e b base)) = av.map (fun v => Slot.val (sx_e b base v)) := by
  induction av with
  | nil => rfl
  | cons a l ih =>
    have e : lg_sl ((a :: l).map (sx_e b base)) = (if (sx_e b base a).category = 2 then [Slot.val (sx_e b base a), .second] else [Slot.val (sx_e b base a)]) ++ lg_sl (l.map (sx_e b base)) := rfl
    rw [e, sx_e_cat b base (h a List.mem_cons_self), ih (fun v hv => h v (List.mem_cons_of_mem _ hv)), if_neg (by decide)]
    rfl
theorem sx_enter {y : sx_Y} {k : Nat × Nat × Nat} {L : Nat} {xs : Nat → Int32} {av : List sx_v} {h : sx_h} {post : Option sx_v → sx_h → Prop} (hy : plainFor y.1 = true) (hn : av.length ≤ y.2.2.1) (hct : (av.map sx_ct).all (fun n => n == 1) = true)
    (body : sx_V y k L xs (0, 0) 0 (av.map some ++ List.replicate (y.2.2.1 - av.length) none) [] h post) : sx_R y k L xs av h post := by
  intro lc D dA b base
  have hct : ∀ v ∈ av, sx_ct v = 1 := fun v hv => by
    have := List.all_eq_true.mp hct (sx_ct v) (List.mem_map.mpr ⟨v, hv, rfl⟩)
    simpa using this
  refine va_MetF (cc := y.2.1) (maxL := y.2.2.1) (ret := y.2.2.2) hy rfl ?_
  intro p e s m args below meth c s₁ B hml hv
  obtain ⟨rfl, hP, hsz, hK, hN, hX, hb⟩ := hv
  have hts := atoms_spec (ws := sx_ws y) B.pre
  have hr := B.returns
  have hlk := B.notSynchronized
  have hl := lv_entry (av.map (sx_e b base)) (n := y.2.2.1) (by rw [sx_lg b base av hct, List.length_map]; exact hn)
  rw [lg_entry_eq]
  refine body p lc e _ s m _ below meth c D dA b base _ ⟨⟨B.exec, B.bytes, hml, findClass_of_methodNamed B.named, fun w hw => hts w (List.mem_cons_of_mem _ hw)⟩, hr, hlk, fun e9 => (name_of_methodNamed B.named B.method).1.trans e9, hK, hN, hX, hb, by omega⟩ ⟨Nat.le_refl _, Nat.le_refl _, Nat.le_refl _, Nat.le_refl _⟩ ?_ s.heap [] _ ⟨hP, hsz, va_S.rf⟩ ⟨hl.1, hl.2.1, ?_⟩
  · intro pcR lsR H locs v h' hp hH hret
    have key : ∀ (oc : Option Value), oc = v.map (sx_e b base) → ∀ t : State, t.heap = H → s.WarmedH t.vm → sx_Q D dA b base post (av.map (sx_e b base)).toArray s (.returned oc) t := by
      intro oc hoc t ht _
      exact ⟨v, h', by rw [hoc], hp, by rw [ht]; exact hH.1, by rw [ht]; exact hH.2.1, hH.2.2.F ht⟩
    match v, hret, key with
    | none, hret, key => exact W.vret B.exec B.bytes (hr.trans hret.2) (key none rfl) hH.2.2.2.2 hret.1
    | some (.inl z), hret, key =>
      rcases hret.2 with h1 | ⟨h1, h2⟩
      · exact W.iret B.exec B.bytes (hr.trans h1) (key _ rfl) hH.2.2.2.2 hret.1
      · exact W.zret B.exec B.bytes (hr.trans h1) (by rcases h2 with rfl | rfl <;> rfl) (key _ rfl) hH.2.2.2.2 hret.1
    | some (.inr r), hret, key => exact absurd hret id
  · intro i v hv
    have hi : i < av.length := by
      rcases Nat.lt_or_ge i av.length with q | q
      · exact q
      · rw [List.getElem?_append_right (by simpa using q)] at hv
        have := List.mem_of_getElem? hv
        rw [List.mem_replicate] at this
        cases this.2
    rw [List.getElem?_append_left (by simpa using hi), List.getElem?_map] at hv
    have hv : av[i]? = some v := by
      cases ha : av[i]? with
      | none => rw [ha] at hv; cases hv
      | some u => rw [ha] at hv; cases hv; rfl
    rw [sx_lg b base av hct, List.getElem?_toArray, List.getElem?_append_left (by simpa using hi), List.getElem?_map, hv]
    rfl
