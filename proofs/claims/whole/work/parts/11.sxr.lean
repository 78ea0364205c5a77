abbrev sx_r (z : Int) : Prop := -2147483648 ≤ z ∧ z ≤ 2147483647
theorem sx_ti {z : Int} (h : sx_r z) : (Int32.ofInt z).toInt = z := Int32.toInt_ofInt_of_le (by have := h.1; omega) (by have := h.2; omega)
theorem sx_i32 (x : Int32) : sx_r x.toInt := ⟨x.le_toInt, by have := x.toInt_lt; omega⟩
theorem sx_lt {x y : Int} (hx : sx_r x) (hy : sx_r y) : Int32.ofInt x < Int32.ofInt y ↔ x < y := by rw [Int32.lt_iff_toInt_lt, sx_ti hx, sx_ti hy]
theorem sx_le {x y : Int} (hx : sx_r x) (hy : sx_r y) : Int32.ofInt x ≤ Int32.ofInt y ↔ x ≤ y := by rw [Int32.le_iff_toInt_le, sx_ti hx, sx_ti hy]
theorem sx_eq {x y : Int} (hx : sx_r x) (hy : sx_r y) : Int32.ofInt x = Int32.ofInt y ↔ x = y := by rw [← Int32.toInt_inj, sx_ti hx, sx_ti hy]
theorem sx_r0 : sx_r 0 := ⟨by decide, by decide⟩
theorem sx_div {x y : Int} (hx : sx_r x) (hy : sx_r y) : Int32.ofInt x / Int32.ofInt y = Int32.ofInt (x.tdiv y) := by
  rw [← Int32.toInt_inj, Int32.toInt_div, sx_ti hx, sx_ti hy, Int32.toInt_ofInt]
theorem sx_in {i : Int} {n : Nat} (h0 : 0 ≤ i) (h1 : i < n) (hn : n ≤ 2147483647) : vp_in (Int32.ofInt i) n ∧ (Int32.ofInt i).toNatClampNeg = i.toNat := by
  have hr : sx_r i := ⟨by omega, by omega⟩
  have e : (Int32.ofInt i).toNatClampNeg = i.toNat := Int32.toNatClampNeg_ofInt_of_le (by have := hr.1; omega) (by have := hr.2; omega)
  refine ⟨?_, e⟩
  rintro (q | q)
  · have q : Int32.ofInt i < Int32.ofInt 0 := q
    rw [sx_lt hr sx_r0] at q
    omega
  · rw [e] at q
    omega
def sx_u (I : Nat → Nat → Int) (a k : Nat) (z : Int) : Nat → Nat → Int := fun a' k' => if a' = a ∧ k' = k then z else I a' k'
def sx_ur (I : Nat → Nat → Option Nat) (a k : Nat) (z : Option Nat) : Nat → Nat → Option Nat := fun a' k' => if a' = a ∧ k' = k then z else I a' k'
/-- the same cells with other numbers -/
def sx_m (h : sx_h) (M : Nat → Nat → Int) : sx_h := (h.1, h.2.1, M, h.2.2.2)
theorem sx_us {I : Nat → Nat → Int} {a k : Nat} {z : Int} : sx_u I a k z a k = z := if_pos ⟨rfl, rfl⟩
theorem sx_u_ne {I : Nat → Nat → Int} {a k a' : Nat} {z : Int} (h : a' ≠ a) (j : Nat) : sx_u I a k z a' j = I a' j := if_neg (fun q => h q.1)
theorem sx_ur_ne {I : Nat → Nat → Option Nat} {a k a' : Nat} {z : Option Nat} (h : a' ≠ a) (j : Nat) : sx_ur I a k z a' j = I a' j := if_neg (fun q => h q.1)
theorem sx_cell_congr {dA : Nat → ClassId} {b base : Nat} {h h' : sx_h} {a : Nat} (h1 : h'.2.1 a = h.2.1 a) (h2 : ∀ j, h'.2.2.1 a j = h.2.2.1 a j) (h3 : ∀ j, h'.2.2.2 a j = h.2.2.2 a j) : sx_cell dA b base h' a = sx_cell dA b base h a := by
  have e : ∀ t, sx_fv b base h' t a = sx_fv b base h t a := fun t => funext fun k => by simp only [sx_fv, h2, h3]
  simp only [sx_cell, h1, h2, h3, e]
theorem sx_H.put {D : va_G} {dA : Nat → ClassId} {b base : Nat} {s : State} {H H1 : Heap} {locs : List Loc} {h h' : sx_h} {j k' : Nat} (hH : sx_H D dA b base s H locs h) (h1 : h'.1 = h.1) (hj : j < h.1) (hat : va_at D sx_cl (base + j, sx_cell dA b base h' (j + 1)) H1)
    (ho : ∀ a, a ≠ j + 1 → sx_cell dA b base h' a = sx_cell dA b base h a) (z : H1.size = H.size) (oq : ∀ q : Nat, q ≠ base + j → H1[q]? = H[q]?) : sx_H D dA b base s H1 (locs ++ [⟨base + j, k'⟩]) h' := by
  refine ⟨fun i q hq => ?_, by rw [z, hH.2.1, h1], hH.2.2.put z oq (Nat.le_add_right _ _)⟩
  obtain ⟨hi, rfl⟩ := sx_w_get hq
  rw [h1] at hi
  by_cases hij : i = j
  · subst hij
    exact hat
  · have h2 := hH.1 i _ (sx_w_at hi)
    rw [← ho (i + 1) (by omega)] at h2
    exact h2.kept (oq _ (by show base + i ≠ base + j; omega))
/-- a cell of the pure heap -/
def sx_o (h : sx_h) (a t n : Nat) : Prop := a ≠ 0 ∧ a ≤ h.1 ∧ h.2.1 a = (t, n)
theorem sx_o.obj {dA : Nat → ClassId} {b base : Nat} {h : sx_h} {a t n : Nat} (ho : sx_o h a t n) (ht : t < 100) : (sx_w dA b base h)[a - 1]? = some (sx_ad b base a, .inr (t, (List.range n).map (sx_fv b base h t a))) := by
  obtain ⟨h0, h1, h2⟩ := ho
  obtain ⟨j, rfl⟩ : ∃ j, a = j + 1 := ⟨a - 1, by omega⟩
  rw [Nat.add_sub_cancel, sx_w_at (by omega)]
  simp only [sx_cell, h2, if_pos ht]
  rfl
theorem sx_o.ints {dA : Nat → ClassId} {b base : Nat} {h : sx_h} {a t n : Nat} (ho : sx_o h a t n) (h3 : ¬ t < 100) (h4 : t < 102) : (sx_w dA b base h)[a - 1]? = some (sx_ad b base a, .inl (dA (t - 100), n, .inl (fun j => Int32.ofInt (h.2.2.1 a j)))) := by
  obtain ⟨h0, h1, h2⟩ := ho
  obtain ⟨j, rfl⟩ : ∃ j, a = j + 1 := ⟨a - 1, by omega⟩
  rw [Nat.add_sub_cancel, sx_w_at (by omega)]
  simp only [sx_cell, h2, if_neg h3, if_pos h4]
  rfl
theorem sx_o.refs {dA : Nat → ClassId} {b base : Nat} {h : sx_h} {a t n : Nat} (ho : sx_o h a t n) (h4 : ¬ t < 102) : (sx_w dA b base h)[a - 1]? = some (sx_ad b base a, .inl (dA (t - 100), n, .inr (.inr (.inr (.inr (fun j => (h.2.2.2 a j).map (sx_ad b base))))))) := by
  obtain ⟨h0, h1, h2⟩ := ho
  obtain ⟨j, rfl⟩ : ∃ j, a = j + 1 := ⟨a - 1, by omega⟩
  rw [Nat.add_sub_cancel, sx_w_at (by omega)]
  simp only [sx_cell, h2, if_neg (show ¬ t < 100 by omega), if_neg h4]
  rfl
section SXA
variable {y : sx_Y} {k : Nat × Nat × Nat} {L : Nat} {xs : Nat → Int32} {cs : Nat × Nat} {pc : Nat} {l : List (Option sx_v)} {st : List sx_v} {h : sx_h} {post : Option sx_v → sx_h → Prop}
theorem sx_iconst {n : Int} (hd : decode y.2.1 pc = .ok (.iconst n, 1)) (kk : sx_V y k L xs cs (pc + 1) l (.inl n :: st) h post) : sx_V y k L xs cs pc l st h post := by
  intro p lc e R s m args below meth c D dA b base Q hC hR hk H locs ls hH hL
  exact lv_iconst hC.1.1 hC.1.2.1 hd rfl (kk p lc e R s m args below meth c D dA b base Q hC hR hk H locs ls hH hL)
theorem sx_bipush {n : Int} (hd : decode y.2.1 pc = .ok (.bipush n, 2)) (hn : (Int8.ofInt n).toInt32 = Int32.ofInt n) (kk : sx_V y k L xs cs (pc + 2) l (.inl n :: st) h post) : sx_V y k L xs cs pc l st h post := by
  intro p lc e R s m args below meth c D dA b base Q hC hR hk H locs ls hH hL
  exact lv_bipush hC.1.1 hC.1.2.1 hd hn (kk p lc e R s m args below meth c D dA b base Q hC hR hk H locs ls hH hL)
theorem sx_sipush {n : Int} (hd : decode y.2.1 pc = .ok (.sipush n, 3)) (hn : (Int16.ofInt n).toInt32 = Int32.ofInt n) (kk : sx_V y k L xs cs (pc + 3) l (.inl n :: st) h post) : sx_V y k L xs cs pc l st h post := by
  intro p lc e R s m args below meth c D dA b base Q hC hR hk H locs ls hH hL
  exact lv_sipush hC.1.1 hC.1.2.1 hd hn (kk p lc e R s m args below meth c D dA b base Q hC hR hk H locs ls hH hL)
theorem sx_ldc {n : Int} {idx : Nat} (hd : decode y.2.1 pc = .ok (.ldc idx, 2)) (hw : Cond.constant y.1.cls idx (Int32.ofInt n) ∈ sx_T) (kk : sx_V y k L xs cs (pc + 2) l (.inl n :: st) h post) : sx_V y k L xs cs pc l st h post := by
  intro p lc e R s m args below meth c D dA b base Q hC hR hk H locs ls hH hL
  exact lv_ldc hC.1.1 hC.1.2.1 hC.1.2.2.2.1 (hC.1.2.2.2.2 _ hw) hd (kk p lc e R s m args below meth c D dA b base Q hC hR hk H locs ls hH hL)
theorem sx_iload_n {i : Fin 4} {z : Int} (hd : decode y.2.1 pc = .ok (.iload_n i, 1)) (hl : l[(i : Nat)]? = some (some (.inl z))) (kk : sx_V y k L xs cs (pc + 1) l (.inl z :: st) h post) : sx_V y k L xs cs pc l st h post := by
  intro p lc e R s m args below meth c D dA b base Q hC hR hk H locs ls hH hL
  exact lv_iload_n hC.1.1 hC.1.2.1 hd rfl (hL.2.2 _ _ hl) (kk p lc e R s m args below meth c D dA b base Q hC hR hk H locs ls hH hL)
theorem sx_iload {i : Nat} {z : Int} (hd : decode y.2.1 pc = .ok (.iload i, 2)) (hl : l[i]? = some (some (.inl z))) (kk : sx_V y k L xs cs (pc + 2) l (.inl z :: st) h post) : sx_V y k L xs cs pc l st h post := by
  intro p lc e R s m args below meth c D dA b base Q hC hR hk H locs ls hH hL
  exact lv_iload hC.1.1 hC.1.2.1 hd (hL.2.2 _ _ hl) (kk p lc e R s m args below meth c D dA b base Q hC hR hk H locs ls hH hL)
theorem sx_aload_n {i : Fin 4} {a : Nat} (hd : decode y.2.1 pc = .ok (.aload_n i, 1)) (hl : l[(i : Nat)]? = some (some (sx_p a))) (kk : sx_V y k L xs cs (pc + 1) l (sx_p a :: st) h post) : sx_V y k L xs cs pc l st h post := by
  intro p lc e R s m args below meth c D dA b base Q hC hR hk H locs ls hH hL
  exact lv_aload_n hC.1.1 hC.1.2.1 hd rfl (hL.2.2 _ _ hl) (kk p lc e R s m args below meth c D dA b base Q hC hR hk H locs ls hH hL)
theorem sx_aload {i : Nat} {a : Nat} (hd : decode y.2.1 pc = .ok (.aload i, 2)) (hl : l[i]? = some (some (sx_p a))) (kk : sx_V y k L xs cs (pc + 2) l (sx_p a :: st) h post) : sx_V y k L xs cs pc l st h post := by
  intro p lc e R s m args below meth c D dA b base Q hC hR hk H locs ls hH hL
  exact lv_aload hC.1.1 hC.1.2.1 hd (hL.2.2 _ _ hl) (kk p lc e R s m args below meth c D dA b base Q hC hR hk H locs ls hH hL)
theorem sx_istore_n {i : Fin 4} {z : Int} (hd : decode y.2.1 pc = .ok (.istore_n i, 1)) (hi : (i : Nat) < y.2.2.1) (hnl : sx_nl l i = true) {l' : List (Option sx_v)} (hl : l.set i (some (.inl z)) = l') (kk : sx_V y k L xs cs (pc + 1) l' st h post) : sx_V y k L xs cs pc l (.inl z :: st) h post := by
  intro p lc e R s m args below meth c D dA b base Q hC hR hk H locs ls hH hL
  subst hl
  exact lv_istore_n hC.1.1 hC.1.2.1 hd rfl hL.has hi rfl (fun ls' hl' => kk p lc e R s m args below meth c D dA b base Q hC hR hk H locs ls' hH (sx_L.set (v := .inl z) hnl hl'))
theorem sx_istore {i : Nat} {z : Int} (hd : decode y.2.1 pc = .ok (.istore i, 2)) (hi : i < y.2.2.1) (hnl : sx_nl l i = true) {l' : List (Option sx_v)} (hl : l.set i (some (.inl z)) = l') (kk : sx_V y k L xs cs (pc + 2) l' st h post) : sx_V y k L xs cs pc l (.inl z :: st) h post := by
  intro p lc e R s m args below meth c D dA b base Q hC hR hk H locs ls hH hL
  subst hl
  exact lv_istore hC.1.1 hC.1.2.1 hd hL.has hi rfl (fun ls' hl' => kk p lc e R s m args below meth c D dA b base Q hC hR hk H locs ls' hH (sx_L.set (v := .inl z) hnl hl'))
theorem sx_astore_n {i : Fin 4} {a : Nat} (hd : decode y.2.1 pc = .ok (.astore_n i, 1)) (hi : (i : Nat) < y.2.2.1) (hnl : sx_nl l i = true) {l' : List (Option sx_v)} (hl : l.set i (some (sx_p a)) = l') (kk : sx_V y k L xs cs (pc + 1) l' st h post) : sx_V y k L xs cs pc l (sx_p a :: st) h post := by
  intro p lc e R s m args below meth c D dA b base Q hC hR hk H locs ls hH hL
  subst hl
  exact lv_astore_n hC.1.1 hC.1.2.1 hd rfl hL.has hi rfl (fun ls' hl' => kk p lc e R s m args below meth c D dA b base Q hC hR hk H locs ls' hH (sx_L.set (v := sx_p a) hnl hl'))
theorem sx_astore {i : Nat} {a : Nat} (hd : decode y.2.1 pc = .ok (.astore i, 2)) (hi : i < y.2.2.1) (hnl : sx_nl l i = true) {l' : List (Option sx_v)} (hl : l.set i (some (sx_p a)) = l') (kk : sx_V y k L xs cs (pc + 2) l' st h post) : sx_V y k L xs cs pc l (sx_p a :: st) h post := by
  intro p lc e R s m args below meth c D dA b base Q hC hR hk H locs ls hH hL
  subst hl
  exact lv_astore hC.1.1 hC.1.2.1 hd hL.has hi rfl (fun ls' hl' => kk p lc e R s m args below meth c D dA b base Q hC hR hk H locs ls' hH (sx_L.set (v := sx_p a) hnl hl'))
theorem sx_iinc {i : Nat} {n z : Int} (hd : decode y.2.1 pc = .ok (.iinc i n, 3)) (hl : l[i]? = some (some (.inl z))) (hi : i < y.2.2.1) (hnl : sx_nl l i = true) {l' : List (Option sx_v)} (hl' : l.set i (some (.inl (z + n))) = l') (kk : sx_V y k L xs cs (pc + 3) l' st h post) : sx_V y k L xs cs pc l st h post := by
  intro p lc e R s m args below meth c D dA b base Q hC hR hk H locs ls hH hL
  subst hl'
  obtain ⟨j, hj⟩ := List.getElem?_of_mem ((sx_ll_mem (b := b) (base := base)).mpr ⟨.inl z, hl, rfl⟩)
  exact lv_iinc hC.1.1 hC.1.2.1 hd hL.has hj (Int32.ofInt_add z n).symm hi rfl (fun ls' hl' => kk p lc e R s m args below meth c D dA b base Q hC hR hk H locs ls' hH (sx_L.set (v := .inl (z + n)) hnl hl'))
theorem sx_iadd {x z : Int} (hd : decode y.2.1 pc = .ok (.iadd, 1)) (kk : sx_V y k L xs cs (pc + 1) l (.inl (x + z) :: st) h post) : sx_V y k L xs cs pc l (.inl z :: .inl x :: st) h post := by
  intro p lc e R s m args below meth c D dA b base Q hC hR hk H locs ls hH hL
  refine lv_iadd hC.1.1 hC.1.2.1 hd ?_
  rw [← Int32.ofInt_add]
  exact kk p lc e R s m args below meth c D dA b base Q hC hR hk H locs ls hH hL
theorem sx_isub {x z : Int} (hd : decode y.2.1 pc = .ok (.isub, 1)) (kk : sx_V y k L xs cs (pc + 1) l (.inl (x - z) :: st) h post) : sx_V y k L xs cs pc l (.inl z :: .inl x :: st) h post := by
  intro p lc e R s m args below meth c D dA b base Q hC hR hk H locs ls hH hL
  refine lv_isub hC.1.1 hC.1.2.1 hd ?_
  rw [← Int32.ofInt_sub]
  exact kk p lc e R s m args below meth c D dA b base Q hC hR hk H locs ls hH hL
theorem sx_imul {x z : Int} (hd : decode y.2.1 pc = .ok (.imul, 1)) (kk : sx_V y k L xs cs (pc + 1) l (.inl (x * z) :: st) h post) : sx_V y k L xs cs pc l (.inl z :: .inl x :: st) h post := by
  intro p lc e R s m args below meth c D dA b base Q hC hR hk H locs ls hH hL
  refine lv_imul hC.1.1 hC.1.2.1 hd ?_
  rw [← Int32.ofInt_mul]
  exact kk p lc e R s m args below meth c D dA b base Q hC hR hk H locs ls hH hL
theorem sx_ineg {x : Int} (hd : decode y.2.1 pc = .ok (.ineg, 1)) (kk : sx_V y k L xs cs (pc + 1) l (.inl (-x) :: st) h post) : sx_V y k L xs cs pc l (.inl x :: st) h post := by
  intro p lc e R s m args below meth c D dA b base Q hC hR hk H locs ls hH hL
  refine lv_ineg hC.1.1 hC.1.2.1 hd ?_
  rw [← Int32.ofInt_neg]
  exact kk p lc e R s m args below meth c D dA b base Q hC hR hk H locs ls hH hL
theorem sx_iand {x z : Int} (hd : decode y.2.1 pc = .ok (.iand, 1)) (kk : sx_V y k L xs cs (pc + 1) l (.inl (Int32.ofInt x &&& Int32.ofInt z).toInt :: st) h post) : sx_V y k L xs cs pc l (.inl z :: .inl x :: st) h post := by
  intro p lc e R s m args below meth c D dA b base Q hC hR hk H locs ls hH hL
  refine lv_iand hC.1.1 hC.1.2.1 hd ?_
  have h1 := kk p lc e R s m args below meth c D dA b base Q hC hR hk H locs ls hH hL
  simp only [List.map_cons, sx_e, Int32.ofInt_toInt] at h1
  exact h1
theorem sx_idiv {x z : Int} (hd : decode y.2.1 pc = .ok (.idiv, 1)) (hx : sx_r x) (hz : sx_r z) (h0 : z ≠ 0) (kk : sx_V y k L xs cs (pc + 1) l (.inl (x.tdiv z) :: st) h post) : sx_V y k L xs cs pc l (.inl z :: .inl x :: st) h post := by
  intro p lc e R s m args below meth c D dA b base Q hC hR hk H locs ls hH hL
  refine lv_idiv hC.1.1 hC.1.2.1 hd (fun q => h0 ((sx_eq hz sx_r0).mp q)) ?_
  rw [sx_div hx hz]
  exact kk p lc e R s m args below meth c D dA b base Q hC hR hk H locs ls hH hL
theorem sx_irem {x z : Int} (hd : decode y.2.1 pc = .ok (.irem, 1)) (hx : sx_r x) (hz : sx_r z) (h0 : z ≠ 0) (kk : sx_V y k L xs cs (pc + 1) l (.inl (x.tmod z) :: st) h post) : sx_V y k L xs cs pc l (.inl z :: .inl x :: st) h post := by
  intro p lc e R s m args below meth c D dA b base Q hC hR hk H locs ls hH hL
  refine lv_irem hC.1.1 hC.1.2.1 hd (fun q => h0 ((sx_eq hz sx_r0).mp q)) ?_
  rw [sx_div hx hz, ← Int32.ofInt_mul, ← Int32.ofInt_sub, show x - x.tdiv z * z = x.tmod z by rw [Int.tmod_def, Int.mul_comm]]
  exact kk p lc e R s m args below meth c D dA b base Q hC hR hk H locs ls hH hL
theorem sx_goto {off : Int} {tgt : Nat} (hd : decode y.2.1 pc = .ok (.goto off, 3)) (ht : (pc : Int) + off = (tgt : Int)) (kk : sx_V y k L xs cs tgt l st h post) : sx_V y k L xs cs pc l st h post := by
  intro p lc e R s m args below meth c D dA b base Q hC hR hk H locs ls hH hL
  exact lv_goto hC.1.1 hC.1.2.1 hd ht (kk p lc e R s m args below meth c D dA b base Q hC hR hk H locs ls hH hL)
theorem sx_dup {v : sx_v} (hv : sx_ct v = 1) (hd : decode y.2.1 pc = .ok (.dup, 1)) (kk : sx_V y k L xs cs (pc + 1) l (v :: v :: st) h post) : sx_V y k L xs cs pc l (v :: st) h post := by
  intro p lc e R s m args below meth c D dA b base Q hC hR hk H locs ls hH hL
  exact lv_dup hC.1.1 hC.1.2.1 hd (sx_e_cat b base hv) (kk p lc e R s m args below meth c D dA b base Q hC hR hk H locs ls hH hL)
theorem sx_pop {v : sx_v} (hv : sx_ct v = 1) (hd : decode y.2.1 pc = .ok (.pop, 1)) (kk : sx_V y k L xs cs (pc + 1) l st h post) : sx_V y k L xs cs pc l (v :: st) h post := by
  intro p lc e R s m args below meth c D dA b base Q hC hR hk H locs ls hH hL
  exact lv_pop hC.1.1 hC.1.2.1 hd (sx_e_cat b base hv) (kk p lc e R s m args below meth c D dA b base Q hC hR hk H locs ls hH hL)
theorem sx_dup2 {v w : sx_v} (hv : sx_ct v = 1) (hw : sx_ct w = 1) (hd : decode y.2.1 pc = .ok (.dup2, 1)) (kk : sx_V y k L xs cs (pc + 1) l (v :: w :: v :: w :: st) h post) : sx_V y k L xs cs pc l (v :: w :: st) h post := by
  intro p lc e R s m args below meth c D dA b base Q hC hR hk H locs ls hH hL
  exact lv_dup2_11 hC.1.1 hC.1.2.1 hd (sx_e_cat b base hv) (sx_e_cat b base hw) (kk p lc e R s m args below meth c D dA b base Q hC hR hk H locs ls hH hL)
theorem sx_retI {z : Int} (hd : decode y.2.1 pc = .ok (.ireturn, 1)) (hr : y.2.2.2 = some .int ∨ (y.2.2.2 = some .boolean ∧ (z = 0 ∨ z = 1))) (hc : cs.1 ≤ k.2.1 ∧ cs.2 ≤ k.2.2) (hp : post (some (.inl z)) h) : sx_V y k L xs cs pc l [.inl z] h post := by
  intro p lc e R s m args below meth c D dA b base Q hC hR hk H locs ls hH hL
  exact W.widen hc.1 hc.2 (hk pc ls H locs (some (.inl z)) h hp hH ⟨hd, hr⟩)
theorem sx_retV (hd : decode y.2.1 pc = .ok (.return_, 1)) (hr : y.2.2.2 = none) (hc : cs.1 ≤ k.2.1 ∧ cs.2 ≤ k.2.2) (hp : post none h) : sx_V y k L xs cs pc l [] h post := by
  intro p lc e R s m args below meth c D dA b base Q hC hR hk H locs ls hH hL
  exact W.widen hc.1 hc.2 (hk pc ls H locs none h hp hH ⟨hd, hr⟩)
theorem sx_ixor {x z : Int} (hd : decode y.2.1 pc = .ok (.ixor, 1)) (kk : sx_V y k L xs cs (pc + 1) l (.inl (Int32.ofInt x ^^^ Int32.ofInt z).toInt :: st) h post) : sx_V y k L xs cs pc l (.inl z :: .inl x :: st) h post := by
  intro p lc e R s m args below meth c D dA b base Q hC hR hk H locs ls hH hL
  refine lv_ixor hC.1.1 hC.1.2.1 hd ?_
  have h1 := kk p lc e R s m args below meth c D dA b base Q hC hR hk H locs ls hH hL
  simp only [List.map_cons, sx_e, Int32.ofInt_toInt] at h1
  exact h1
theorem sx_i2l {x : Int} (hd : decode y.2.1 pc = .ok (.i2l, 1)) (hx : sx_r x) (kk : sx_V y k L xs cs (pc + 1) l (sx_l x :: st) h post) : sx_V y k L xs cs pc l (.inl x :: st) h post := by
  intro p lc e R s m args below meth c D dA b base Q hC hR hk H locs ls hH hL
  refine lv_i2l hC.1.1 hC.1.2.1 hd (v := Int64.ofInt x) ?_ (kk p lc e R s m args below meth c D dA b base Q hC hR hk H locs ls hH hL)
  rw [← Int64.toInt_inj, Int32.toInt_toInt64, sx_ti hx, Int64.toInt_ofInt_of_le (by have := hx.1; omega) (by have := hx.2; omega)]
theorem sx_ladd {x z : Int} (hd : decode y.2.1 pc = .ok (.ladd, 1)) (kk : sx_V y k L xs cs (pc + 1) l (sx_l (x + z) :: st) h post) : sx_V y k L xs cs pc l (sx_l z :: sx_l x :: st) h post := by
  intro p lc e R s m args below meth c D dA b base Q hC hR hk H locs ls hH hL
  refine lv_ladd hC.1.1 hC.1.2.1 hd ?_
  rw [← Int64.ofInt_add]
  exact kk p lc e R s m args below meth c D dA b base Q hC hR hk H locs ls hH hL
theorem sx_lmul {x z : Int} (hd : decode y.2.1 pc = .ok (.lmul, 1)) (kk : sx_V y k L xs cs (pc + 1) l (sx_l (x * z) :: st) h post) : sx_V y k L xs cs pc l (sx_l z :: sx_l x :: st) h post := by
  intro p lc e R s m args below meth c D dA b base Q hC hR hk H locs ls hH hL
  refine lv_lmul hC.1.1 hC.1.2.1 hd ?_
  rw [← Int64.ofInt_mul]
  exact kk p lc e R s m args below meth c D dA b base Q hC hR hk H locs ls hH hL
abbrev sx_r6 (z : Int) : Prop := -9223372036854775808 ≤ z ∧ z ≤ 9223372036854775807
theorem sx_t6 {z : Int} (h : sx_r6 z) : (Int64.ofInt z).toInt = z := Int64.toInt_ofInt_of_le (by have := h.1; omega) (by have := h.2; omega)
theorem sx_lcmp {x z : Int} (hd : decode y.2.1 pc = .ok (.lcmp, 1)) (hx : sx_r6 x) (hz : sx_r6 z) {w : Int} (hw : w = if x < z then -1 else if x = z then 0 else 1) (kk : sx_V y k L xs cs (pc + 1) l (.inl w :: st) h post) : sx_V y k L xs cs pc l (sx_l z :: sx_l x :: st) h post := by
  intro p lc e R s m args below meth c D dA b base Q hC hR hk H locs ls hH hL
  refine W.lcmp hC.1.1 hC.1.2.1 hd ?_
  have h1 := kk p lc e R s m args below meth c D dA b base Q hC hR hk H locs ls hH hL
  have e : lg_cmp (Int64.ofInt x) (Int64.ofInt z) = Int32.ofInt w := by
    rw [hw]
    simp only [lg_cmp, Int64.lt_iff_toInt_lt, ← Int64.toInt_inj, sx_t6 hx, sx_t6 hz]
    rcases Int.lt_trichotomy x z with q | q | q
    · simp [q, show ¬ z < x by omega, show ¬ x = z by omega]
    · simp [q]
    · simp [q, show ¬ x < z by omega, show ¬ x = z by omega]
  rw [e]
  exact h1
theorem sx_lload {i : Nat} {z : Int} (hd : decode y.2.1 pc = .ok (.lload i, 2)) (hl : l[i]? = some (some (sx_l z))) (kk : sx_V y k L xs cs (pc + 2) l (sx_l z :: st) h post) : sx_V y k L xs cs pc l st h post := by
  intro p lc e R s m args below meth c D dA b base Q hC hR hk H locs ls hH hL
  exact lv_lload hC.1.1 hC.1.2.1 hd (hL.2.2 _ _ hl) (kk p lc e R s m args below meth c D dA b base Q hC hR hk H locs ls hH hL)
theorem sx_lstore {i : Nat} {z : Int} (hd : decode y.2.1 pc = .ok (.lstore i, 2)) (hi : i + 1 < y.2.2.1) (hnl : sx_nl l i = true) {l' : List (Option sx_v)} (hl : (l.set i (some (sx_l z))).set (i + 1) none = l') (kk : sx_V y k L xs cs (pc + 2) l' st h post) : sx_V y k L xs cs pc l (sx_l z :: st) h post := by
  intro p lc e R s m args below meth c D dA b base Q hC hR hk H locs ls hH hL
  subst hl
  exact lv_lstore hC.1.1 hC.1.2.1 hd hL.has hi rfl (fun ls' hl' => kk p lc e R s m args below meth c D dA b base Q hC hR hk H locs ls' hH (sx_L.set2 (v := sx_l z) hnl hl'))
end SXA
