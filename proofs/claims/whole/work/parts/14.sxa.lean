section SXI
variable {y : sx_Y} {k : Nat × Nat × Nat} {L : Nat} {xs : Nat → Int32} {cs : Nat × Nat} {pc : Nat} {l : List (Option sx_v)} {st : List sx_v} {h : sx_h} {post : Option sx_v → sx_h → Prop}
theorem sx_iald {a n : Nat} {i : Int} (hd : decode y.2.1 pc = .ok (.iaload, 1)) (ho : sx_o h a 100 n) (h0 : 0 ≤ i) (h1 : i < n) (hn : n ≤ 2147483647) {z : Int} (hz : h.2.2.1 a i.toNat = z) (kk : sx_V y k L xs cs (pc + 1) l (.inl z :: st) h post) : sx_V y k L xs cs pc l (.inl i :: sx_p a :: st) h post := by
  intro p lc e R s m args below meth c D dA b base Q hC hR hk H locs ls hH hL
  subst hz
  obtain ⟨hin, hcl⟩ := sx_in h0 h1 hn
  refine va_iald hC.1.1 hC.1.2.1 hC.2.2.2.2.1 hH.1 (a - 1) 0 (ho.ints (by decide) (by decide)) (sx_tys_at (by decide)) hin hd ?_
  rw [hcl]
  exact kk p lc e R s m args below meth c D dA b base Q hC hR hk H locs ls hH hL
theorem sx_zald {a n : Nat} {i : Int} (hd : decode y.2.1 pc = .ok (.baload, 1)) (ho : sx_o h a 101 n) (h0 : 0 ≤ i) (h1 : i < n) (hn : n ≤ 2147483647) {z : Int} (hz : h.2.2.1 a i.toNat = z) (kk : sx_V y k L xs cs (pc + 1) l (.inl z :: st) h post) : sx_V y k L xs cs pc l (.inl i :: sx_p a :: st) h post := by
  intro p lc e R s m args below meth c D dA b base Q hC hR hk H locs ls hH hL
  subst hz
  obtain ⟨hin, hcl⟩ := sx_in h0 h1 hn
  refine va_zald hC.1.1 hC.1.2.1 hC.2.2.2.2.1 hH.1 (a - 1) 1 (ho.ints (by decide) (by decide)) (sx_tys_at (by decide)) hin hd ?_
  rw [hcl]
  exact kk p lc e R s m args below meth c D dA b base Q hC hR hk H locs ls hH hL
theorem sx_aald {a n t : Nat} {C : String} {r : Option Nat} {i : Int} (hd : decode y.2.1 pc = .ok (.aaload, 1)) (ho : sx_o h a (102 + t) n) (hty : sx_ty[t + 2]? = some (.object C)) (h0 : 0 ≤ i) (h1 : i < n) (hn : n ≤ 2147483647) (hr : h.2.2.2 a i.toNat = r) (kk : sx_V y k L xs cs (pc + 1) l (.inr (.inl r) :: st) h post) : sx_V y k L xs cs pc l (.inl i :: sx_p a :: st) h post := by
  intro p lc e R s m args below meth c D dA b base Q hC hR hk H locs ls hH hL
  subst hr
  obtain ⟨hin, hcl⟩ := sx_in h0 h1 hn
  have hlt : t + 2 < sx_ty.length := (List.getElem?_eq_some_iff.mp hty).1
  have e1 := sx_tys_at (dA := dA) hlt
  rw [List.getD_eq_getElem?_getD, hty, Option.getD_some] at e1
  have e2 := ho.refs (dA := dA) (b := b) (base := base) (by omega)
  rw [show 102 + t - 100 = t + 2 by omega] at e2
  refine va_aldq hC.1.1 hC.1.2.1 hC.2.2.2.2.1 hH.1 (a - 1) (t + 2) e2 e1 hin hd ?_
  rw [hcl]
  exact kk p lc e R s m args below meth c D dA b base Q hC hR hk H locs ls hH hL
theorem sx_alenI {a t n : Nat} (hd : decode y.2.1 pc = .ok (.arraylength, 1)) (ho : sx_o h a t n) (ht : t = 100 ∨ t = 101) (kk : sx_V y k L xs cs (pc + 1) l (.inl (n : Int) :: st) h post) : sx_V y k L xs cs pc l (sx_p a :: st) h post := by
  intro p lc e R s m args below meth c D dA b base Q hC hR hk H locs ls hH hL
  have h9 := kk p lc e R s m args below meth c D dA b base Q hC hR hk H locs ls hH hL
  rcases ht with rfl | rfl
  · exact va_alen hC.1.1 hC.1.2.1 hC.2.2.2.2.1 hH.1 (a - 1) 0 (ho.ints (by decide) (by decide)) (sx_tys_at (by decide)) (Int32.ofInt_eq_ofNat (n := n)).symm hd h9
  · exact va_alen hC.1.1 hC.1.2.1 hC.2.2.2.2.1 hH.1 (a - 1) 1 (ho.ints (by decide) (by decide)) (sx_tys_at (by decide)) (Int32.ofInt_eq_ofNat (n := n)).symm hd h9
theorem sx_alenR {a t n : Nat} {C : String} (hd : decode y.2.1 pc = .ok (.arraylength, 1)) (ho : sx_o h a (102 + t) n) (hty : sx_ty[t + 2]? = some (.object C)) (kk : sx_V y k L xs cs (pc + 1) l (.inl (n : Int) :: st) h post) : sx_V y k L xs cs pc l (sx_p a :: st) h post := by
  intro p lc e R s m args below meth c D dA b base Q hC hR hk H locs ls hH hL
  have hlt : t + 2 < sx_ty.length := (List.getElem?_eq_some_iff.mp hty).1
  have e1 := sx_tys_at (dA := dA) hlt
  have e2 := ho.refs (dA := dA) (b := b) (base := base) (by omega)
  rw [show 102 + t - 100 = t + 2 by omega] at e2
  exact va_alen hC.1.1 hC.1.2.1 hC.2.2.2.2.1 hH.1 (a - 1) (t + 2) e2 e1 (Int32.ofInt_eq_ofNat (n := n)).symm hd (kk p lc e R s m args below meth c D dA b base Q hC hR hk H locs ls hH hL)
theorem sx_sld {i : Int} (hd : decode y.2.1 pc = .ok (.iaload, 1)) (h0 : 0 ≤ i) (h1 : i < L) (hn : L ≤ 2147483647) (kk : sx_V y k L xs cs (pc + 1) l (.inl (xs i.toNat).toInt :: st) h post) : sx_V y k L xs cs pc l (.inl i :: sx_p 0 :: st) h post := by
  intro p lc e R s m args below meth c D dA b base Q hC hR hk H locs ls hH hL
  obtain ⟨hin, hcl⟩ := sx_in h0 h1 hn
  obtain ⟨-, -, -, -, -, -, hX, hbb, hbs⟩ := id hC
  have h1 := kk p lc e R s m args below meth c D dA b base Q hC hR hk H locs ls hH hL
  simp only [List.map_cons, sx_e, Int32.ofInt_toInt] at h1
  refine va_sld (b := b) hC.1.1 hC.1.2.1 hX (by omega) (by omega) hH.2.2 hin hd ?_
  rw [hcl]
  exact h1
theorem sx_slen (hd : decode y.2.1 pc = .ok (.arraylength, 1)) (kk : sx_V y k L xs cs (pc + 1) l (.inl (L : Int) :: st) h post) : sx_V y k L xs cs pc l (sx_p 0 :: st) h post := by
  intro p lc e R s m args below meth c D dA b base Q hC hR hk H locs ls hH hL
  obtain ⟨-, -, -, -, -, -, hX, hbb, hbs⟩ := id hC
  have h1 := kk p lc e R s m args below meth c D dA b base Q hC hR hk H locs ls hH hL
  simp only [List.map_cons, sx_e, Int32.ofInt_eq_ofNat] at h1
  exact va_slen (b := b) hC.1.1 hC.1.2.1 hX (by omega) (by omega) hH.2.2 hd h1
theorem sx_iast {a n : Nat} {i z : Int} (hd : decode y.2.1 pc = .ok (.iastore, 1)) (ho : sx_o h a 100 n) (h0 : 0 ≤ i) (h1 : i < n) (hn : n ≤ 2147483647) {h2 : sx_h} (hh : sx_m h (sx_u h.2.2.1 a i.toNat z) = h2) (kk : sx_V y k L xs cs (pc + 1) l st h2 post) : sx_V y k L xs cs pc l (.inl z :: .inl i :: sx_p a :: st) h post := by
  intro p lc e R s m args below meth c D dA b base Q hC hR hk H locs ls hH hL
  subst hh
  obtain ⟨hin, hcl⟩ := sx_in h0 h1 hn
  have hat := hH.1 (a - 1) _ (ho.ints (dA := dA) (b := b) (base := base) (by decide) (by decide))
  obtain ⟨g0, g1, g2⟩ := ho
  obtain ⟨j, rfl⟩ : ∃ j, a = j + 1 := ⟨a - 1, by omega⟩
  refine W.iast hC.1.1 hC.1.2.1 hat ((hC.2.2.2.2.1.2 0 _ (sx_tys_at (by decide))).1 n (fun j' => .int (Int32.ofInt (h.2.2.1 (j + 1) j')))) (fun q => by cases q) (by show ¬ (_ < 0 ∨ (arrV _ _ _).slots.size ≤ _); rw [arrV_size]; exact hin) rfl rfl hd fun H1 e1 z1 oq => ?_
  refine kk p lc e R s m args below meth c D dA b base Q hC hR hk H1 _ ls (hH.put (j := j) (h' := sx_m h (sx_u h.2.2.1 (j + 1) i.toNat z)) rfl (by omega) ?_ (fun a' ha' => sx_cell_congr rfl (fun j' => sx_u_ne ha' j') (fun _ => rfl)) z1 oq) hL
  have hcell : sx_cell dA b base (sx_m h (sx_u h.2.2.1 (j + 1) i.toNat z)) (j + 1) = .inl (dA 0, n, .inl (fun j' => Int32.ofInt (sx_u h.2.2.1 (j + 1) i.toNat z (j + 1) j'))) := by
    simp only [sx_cell, sx_m, g2]; rfl
  rw [hcell]
  show H1[base + j]? = some (vp_cell _ _)
  rw [show H1[base + j]? = _ from e1, vp_cell_i, vp_cell_i, arrV_store, hcl]
  congr 2
  funext q
  by_cases hq : q = i.toNat
  · subst hq
    simp [updV, sx_u]
  · simp [updV, sx_u, hq]
theorem sx_zast {a n : Nat} {i z : Int} (hd : decode y.2.1 pc = .ok (.bastore, 1)) (ho : sx_o h a 101 n) (h0 : 0 ≤ i) (h1 : i < n) (hn : n ≤ 2147483647) (hz : z = 0 ∨ z = 1) {h2 : sx_h} (hh : sx_m h (sx_u h.2.2.1 a i.toNat z) = h2) (kk : sx_V y k L xs cs (pc + 1) l st h2 post) : sx_V y k L xs cs pc l (.inl z :: .inl i :: sx_p a :: st) h post := by
  intro p lc e R s m args below meth c D dA b base Q hC hR hk H locs ls hH hL
  subst hh
  obtain ⟨hin, hcl⟩ := sx_in h0 h1 hn
  have hat := hH.1 (a - 1) _ (ho.ints (dA := dA) (b := b) (base := base) (by decide) (by decide))
  obtain ⟨g0, g1, g2⟩ := ho
  obtain ⟨j, rfl⟩ : ∃ j, a = j + 1 := ⟨a - 1, by omega⟩
  have hnar : narrow .boolean (.int (Int32.ofInt z)) = .int (Int32.ofInt z) := by rcases hz with rfl | rfl <;> rfl
  refine W.zast hC.1.1 hC.1.2.1 hat ((hC.2.2.2.2.1.2 1 _ (sx_tys_at (by decide))).1 n (fun j' => .int (Int32.ofInt (h.2.2.1 (j + 1) j')))) (fun q => by cases q) (by show ¬ (_ < 0 ∨ (arrV _ _ _).slots.size ≤ _); rw [arrV_size]; exact hin) rfl rfl hd fun H1 e1 z1 oq => ?_
  refine kk p lc e R s m args below meth c D dA b base Q hC hR hk H1 _ ls (hH.put (j := j) (h' := sx_m h (sx_u h.2.2.1 (j + 1) i.toNat z)) rfl (by omega) ?_ (fun a' ha' => sx_cell_congr rfl (fun j' => sx_u_ne ha' j') (fun _ => rfl)) z1 oq) hL
  have hcell : sx_cell dA b base (sx_m h (sx_u h.2.2.1 (j + 1) i.toNat z)) (j + 1) = .inl (dA 1, n, .inl (fun j' => Int32.ofInt (sx_u h.2.2.1 (j + 1) i.toNat z (j + 1) j'))) := by
    simp only [sx_cell, sx_m, g2]; rfl
  rw [hcell]
  show H1[base + j]? = some (vp_cell _ _)
  rw [hnar] at e1
  rw [show H1[base + j]? = _ from e1, vp_cell_i, vp_cell_i, arrV_store, hcl]
  congr 2
  funext q
  by_cases hq : q = i.toNat
  · subst hq
    simp [updV, sx_u]
  · simp [updV, sx_u, hq]
theorem sx_aast {a n t r ci nr : Nat} {q : vw_C} {i : Int} (hd : decode y.2.1 pc = .ok (.aastore, 1)) (ho : sx_o h a (102 + t) n) (hq : sx_cl[ci]? = some q) (hty : sx_ty[t + 2]? = some (.object q.1)) (hor : sx_o h r ci nr) (h100 : ci < 100) (h0 : 0 ≤ i) (h1 : i < n) (hn : n ≤ 2147483647) (kk : sx_V y k L xs cs (pc + 1) l st (h.1, h.2.1, h.2.2.1, sx_ur h.2.2.2 a i.toNat (some r)) post) : sx_V y k L xs cs pc l (sx_p r :: .inl i :: sx_p a :: st) h post := by
  intro p lc e R s m args below meth c D dA b base Q hC hR hk H locs ls hH hL
  obtain ⟨hin, hcl⟩ := sx_in h0 h1 hn
  have hK := hC.2.2.2.2.1
  have hlt : t + 2 < sx_ty.length := (List.getElem?_eq_some_iff.mp hty).1
  have e1 := sx_tys_at (dA := dA) hlt
  rw [List.getD_eq_getElem?_getD, hty, Option.getD_some] at e1
  have e2 := ho.refs (dA := dA) (b := b) (base := base) (by omega)
  rw [show 102 + t - 100 = t + 2 by omega] at e2
  have hat := hH.1 (a - 1) _ e2
  obtain ⟨r', hr', cellV, k1, k2, k3, -⟩ := hH.1 (r - 1) _ (hor.obj (dA := dA) (b := b) (base := base) h100)
  have hcls := (hK.1 ci q hq).2
  obtain ⟨kA, comp, f1, f2, f3, -⟩ := (hK.2 (t + 2) _ e1).2
  have hcomp : comp = D.1 ci := Option.some.inj (f3.symm.trans hcls.1)
  subst hcomp
  obtain ⟨kC, hkC, -⟩ := hcls.2
  have hi0 : ¬ Int32.ofInt i < 0 := fun w => hin (Or.inl w)
  have hi1 : (Int32.ofInt i).toNatClampNeg < n := Nat.not_le.mp fun w => hin (Or.inr w)
  obtain ⟨g0, g1, g2⟩ := ho
  obtain ⟨j, rfl⟩ : ∃ j, a = j + 1 := ⟨a - 1, by omega⟩
  refine W.aast hC.1.1 hC.1.2.1 hat (fun q h => by cases h) (fun h => by cases h) f1 f2 rfl hkC ⟨hi0, by show _ < (arrV _ _ _).slots.size; rw [arrV_size]; exact hi1⟩ k1 (fun q h => by rw [k3] at h; cases h) (by rw [k2]; exact hkC) (by rw [k2]; exact va_assign hcls) rfl rfl hd fun H1 e3 z1 oq => ?_
  refine kk p lc e R s m args below meth c D dA b base Q hC hR hk H1 _ ls (hH.put (j := j) rfl (by omega) ?_ (fun a' ha' => sx_cell_congr rfl (fun _ => rfl) (fun j' => sx_ur_ne ha' j')) z1 oq) hL
  have hcell : sx_cell dA b base (h.1, h.2.1, h.2.2.1, sx_ur h.2.2.2 (j + 1) i.toNat (some r)) (j + 1) = .inl (dA (t + 2), n, .inr (.inr (.inr (.inr (fun j' => (sx_ur h.2.2.2 (j + 1) i.toNat (some r) (j + 1) j').map (sx_ad b base)))))) := by
    simp only [sx_cell, g2, if_neg (show ¬ 102 + t < 100 by omega), if_neg (show ¬ 102 + t < 102 by omega), show 102 + t - 100 = t + 2 by omega]
  rw [hcell]
  show H1[base + j]? = some (vp_cell _ _)
  rw [show H1[base + j]? = _ from e3, vp_cell_q, vp_cell_q, arrV_store, hcl]
  congr 2
  funext q
  by_cases hq : q = i.toNat
  · subst hq
    simp [updV, sx_ur, va_rf]
  · simp [updV, sx_ur, hq]
/-- a new cell of zeros -/
def sx_nw (h : sx_h) (t n : Nat) : sx_h := (h.1 + 1, (fun a => if a = h.1 + 1 then (t, n) else h.2.1 a), (fun a j => if a = h.1 + 1 then 0 else h.2.2.1 a j), (fun a j => if a = h.1 + 1 then none else h.2.2.2 a j))
theorem sx_nw1 (h : sx_h) (t n : Nat) : (sx_nw h t n).2.1 (h.1 + 1) = (t, n) := if_pos rfl
theorem sx_nw2 (h : sx_h) (t n j : Nat) : (sx_nw h t n).2.2.1 (h.1 + 1) j = 0 := if_pos rfl
theorem sx_nw3 (h : sx_h) (t n j : Nat) : (sx_nw h t n).2.2.2 (h.1 + 1) j = none := if_pos rfl
theorem sx_H.push {D : va_G} {dA : Nat → ClassId} {b base : Nat} {s : State} {H H1 : Heap} {locs : List Loc} {t n : Nat} (hH : sx_H D dA b base s H locs h) (hs : base ≤ s.heap.size) (hat : va_at D sx_cl (base + h.1, sx_cell dA b base (sx_nw h t n) (h.1 + 1)) H1) (z : H1.size = H.size + 1) (oq : ∀ q : Nat, q < H.size → H1[q]? = H[q]?) : sx_H D dA b base s H1 locs (sx_nw h t n) := by
  refine ⟨fun i q hq => ?_, by rw [z, hH.2.1]; rfl, ⟨by have := hH.2.2.1; omega, fun q h1 h2 => ?_, hH.2.2.2.2⟩⟩
  · obtain ⟨hi, rfl⟩ := sx_w_get hq
    have hi : i < h.1 + 1 := hi
    by_cases hij : i = h.1
    · subst hij
      exact hat
    · have h2 := hH.1 i _ (sx_w_at (show i < h.1 by omega))
      rw [← sx_cell_congr (h' := sx_nw h t n) (a := i + 1) (if_neg (by omega)) (fun j => if_neg (by omega)) (fun j => if_neg (by omega))] at h2
      exact h2.kept (oq _ (by show base + i < H.size; rw [hH.2.1]; omega))
  · rw [oq q (Nat.lt_of_lt_of_le h1 hH.2.2.1)]
    exact hH.2.2.2.1 q h1 h2
theorem sx_new {idx ci : Nat} {q : vw_C} (hd : decode y.2.1 pc = .ok (.new idx, 3)) (hq : sx_cl[ci]? = some q) (h100 : ci < 100) (hw1 : Cond.classLink y.1.cls idx q.1 ∈ sx_T) (hw2 : Cond.instantiable q.1 q.2.2 ∈ sx_T) (hw3 : Cond.initialized q.1 ∈ sx_T) (hc : cs.1 + 1 ≤ k.2.1 ∧ cs.2 + q.2.2 ≤ k.2.2)
    (kk : sx_V y k L xs (cs.1 + 1, cs.2 + q.2.2) (pc + 3) l (sx_p (h.1 + 1) :: st) (sx_nw h ci q.2.2) post) : sx_V y k L xs cs pc l st h post := by
  intro p lc e R s m args below meth c D dA b base Q hC hR hk H locs ls hH hL
  have hK := hC.2.2.2.2.1
  have hts := hC.1.2.2.2.2
  have hKn := hK.1 ci _ hq
  obtain ⟨c1, c2, c3, c4⟩ := sx_cls ci _ hq
  refine W.newcK hC.1.1 hC.1.2.1 hC.1.2.2.2.1 (hts _ hw1) (hts _ hw2) (hts _ hw3) rfl hd (by omega) (by omega) hKn.2.1 hH.2.1 fun H1 kC hkC e1 z1 o1 => ?_
  refine kk p lc e R s m args below meth c D dA b base Q hC hR hk H1 locs ls (hH.push hC.2.2.2.2.2.2.2.2 ?_ (by rw [z1, hH.2.1]) (fun q' h' => o1 q' (by rw [← hH.2.1]; exact h'))) hL
  have hcell : sx_cell dA b base (sx_nw h ci q.2.2) (h.1 + 1) = .inr (ci, (List.range q.2.2).map (sx_fv b base (sx_nw h ci q.2.2) ci (h.1 + 1))) := by
    simp only [sx_cell, sx_nw1, if_pos h100]
  rw [hcell]
  refine ⟨_, hq, (u_born (sx_fty ci) hts c1 hKn hkC e1 c2).to (fun j hj => ?_)⟩
  rw [c4 j hj]
  simp [vp_V, hj, sx_fv, sx_nw2, sx_nw3, va_rf]
theorem sx_newa {at_ : ArrayType} {t n : Nat} {z : Int} (hd : decode y.2.1 pc = .ok (.newarray at_, 2)) (ht : (t = 0 ∧ at_ = .int) ∨ (t = 1 ∧ at_ = .boolean)) (hw : Cond.arrayClass (newarray.typeOf at_) ∈ sx_T) (hz : z = n) (hn : n ≤ 100000) (hc : cs.1 + 1 ≤ k.2.1 ∧ cs.2 + n ≤ k.2.2)
    (kk : sx_V y k L xs (cs.1 + 1, cs.2 + n) (pc + 2) l (sx_p (h.1 + 1) :: st) (sx_nw h (100 + t) n) post) : sx_V y k L xs cs pc l (.inl z :: st) h post := by
  intro p lc e R s m args below meth c D dA b base Q hC hR hk H locs ls hH hL
  subst hz
  have hK := hC.2.2.2.2.1
  have hts := hC.1.2.2.2.2
  have hr : sx_r (n : Int) := ⟨by omega, by omega⟩
  have hcl : (Int32.ofInt (n : Int)).toNatClampNeg = n := by
    rw [Int32.toNatClampNeg_ofInt_of_le (by have := hr.1; omega) (by have := hr.2; omega)]; rfl
  have hneg : ¬ Int32.ofInt (n : Int) < 0 := fun w => by
    have w : Int32.ofInt (n : Int) < Int32.ofInt 0 := w
    rw [sx_lt hr sx_r0] at w
    omega
  have hb8 : componentBytes (newarray.typeOf at_) ≤ 8 := by rcases ht with ⟨-, rfl⟩ | ⟨-, rfl⟩ <;> decide
  refine va_newaK hC.1.1 hC.1.2.1 (hts _ hw) rfl hd rfl hneg hcl (Nat.le_trans (Nat.mul_le_mul hn hb8) (by decide)) (by omega) (by omega) hH.2.1 fun H1 cA e1 z1 o1 hAr hNm => ?_
  have hcA : cA = dA t := by
    rcases ht with ⟨rfl, rfl⟩ | ⟨rfl, rfl⟩
    · exact Option.some.inj (hNm.symm.trans (hK.2 0 _ (sx_tys_at (by decide))).2)
    · exact Option.some.inj (hNm.symm.trans (hK.2 1 _ (sx_tys_at (by decide))).2)
  subst hcA
  refine kk p lc e R s m args below meth c D dA b base Q hC hR hk H1 locs ls (hH.push hC.2.2.2.2.2.2.2.2 ?_ (by rw [z1, hH.2.1]) (fun q' h' => o1 q' (by rw [← hH.2.1]; exact h'))) hL
  have ht2 : t < 2 := by rcases ht with ⟨rfl, -⟩ | ⟨rfl, -⟩ <;> decide
  have hcell : sx_cell dA b base (sx_nw h (100 + t) n) (h.1 + 1) = .inl (dA t, n, .inl (fun j => Int32.ofInt 0)) := by
    simp only [sx_cell, sx_nw1, sx_nw2, if_neg (show ¬ 100 + t < 100 by omega), if_pos (show 100 + t < 102 by omega), show 100 + t - 100 = t by omega]
  rw [hcell]
  show H1[base + h.1]? = some (vp_cell _ _)
  rw [e1, vp_cell_i]
  rcases ht with ⟨-, rfl⟩ | ⟨-, rfl⟩ <;> rfl
theorem sx_anew {idx t n : Nat} {C : String} {z : Int} (hd : decode y.2.1 pc = .ok (.anewarray idx, 3)) (hty : sx_ty[t + 2]? = some (.object C)) (hw1 : Cond.classLink y.1.cls idx C ∈ sx_T) (hw2 : Cond.arrayOver (.object C) ∈ sx_N) (hz : z = n) (hn : n ≤ 100000) (hc : cs.1 + 1 ≤ k.2.1 ∧ cs.2 + n ≤ k.2.2)
    (kk : sx_V y k L xs (cs.1 + 1, cs.2 + n) (pc + 3) l (sx_p (h.1 + 1) :: st) (sx_nw h (102 + t) n) post) : sx_V y k L xs cs pc l (.inl z :: st) h post := by
  intro p lc e R s m args below meth c D dA b base Q hC hR hk H locs ls hH hL
  subst hz
  have hK := hC.2.2.2.2.1
  have hts := hC.1.2.2.2.2
  have hr : sx_r (n : Int) := ⟨by omega, by omega⟩
  have hcl : (Int32.ofInt (n : Int)).toNatClampNeg = n := by
    rw [Int32.toNatClampNeg_ofInt_of_le (by have := hr.1; omega) (by have := hr.2; omega)]; rfl
  have hneg : ¬ Int32.ofInt (n : Int) < 0 := fun w => by
    have w : Int32.ofInt (n : Int) < Int32.ofInt 0 := w
    rw [sx_lt hr sx_r0] at w
    omega
  have hlt : t + 2 < sx_ty.length := (List.getElem?_eq_some_iff.mp hty).1
  have e1 := sx_tys_at (dA := dA) hlt
  rw [List.getD_eq_getElem?_getD, hty, Option.getD_some] at e1
  obtain ⟨kA', comp', -, -, -, r4⟩ := (hK.2 (t + 2) _ e1).2
  refine W.anew hC.1.1 hC.1.2.1 hC.1.2.2.2.1 (hts _ hw1) (va_AO.use (hC.2.2.2.2.2.1 _ hw2)) rfl hd rfl hneg (by rw [hcl]; omega) (by omega) (by rw [hcl]; omega) fun cA kA comp f1 f2 f3 f4 => ?_
  have hcA : cA = dA (t + 2) := Option.some.inj (f1.symm.trans r4)
  subst hcA
  rw [hcl, hH.2.1]
  refine kk p lc e R s m args below meth c D dA b base Q hC hR hk _ locs ls (hH.push hC.2.2.2.2.2.2.2.2 ?_ (by rw [Array.size_push]) (fun q' h' => by rw [Array.getElem?_push, if_neg (Nat.ne_of_lt h')])) hL
  have hcell : sx_cell dA b base (sx_nw h (102 + t) n) (h.1 + 1) = .inl (dA (t + 2), n, .inr (.inr (.inr (.inr (fun j => none))))) := by
    simp only [sx_cell, sx_nw1, sx_nw3, if_neg (show ¬ 102 + t < 100 by omega), if_neg (show ¬ 102 + t < 102 by omega), show 102 + t - 100 = t + 2 by omega, Option.map_none]
  rw [hcell]
  show (H.push _)[base + h.1]? = some (vp_cell _ _)
  rw [← hH.2.1, Array.getElem?_push_size, vp_cell_q, arrV_new]
  rfl
theorem sx_oinit {idx a : Nat} (hd : decode y.2.1 pc = .ok (.invokespecial idx, 3)) (hw1 : Cond.methodLink y.1.cls idx Lib.objectInit ∈ sx_T) (hw2 : Cond.instanceMethod Lib.objectInit ∈ sx_T) (hw3 : Cond.code Lib.objectInit ⟨#[0xb1]⟩ 1 none ∈ sx_T) (hk1 : 1 ≤ k.1) (hst : (st.map sx_ct).sum ≤ 8) (kk : sx_V y k L xs cs (pc + 3) l st h post) : sx_V y k L xs cs pc l (sx_p a :: st) h post := by
  intro p lc e R s m args below meth c D dA b base Q hC hR hk H locs ls hH hL
  have hts := hC.1.2.2.2.2
  have hroom := lv_room (m := m) (pc := pc) (ls := ls) (rest := st.map (sx_e b base)) (st := st.map (sx_e b base)) (by rw [sx_sum]; exact hst)
  exact W.objInit hC.1.1 hC.1.2.1 hC.1.2.2.2.1 (hts _ hw1) (hts _ hw2) (hts _ hw3) (g := F0 m pc ls _) rfl (by rw [hC.1.2.2.1]; exact hL.1) rfl hd (by omega) (Nat.le_trans (Nat.add_le_add_right hroom 12) (by omega)) (kk p lc e R s m args below meth c D dA b base Q hC hR hk H locs ls hH hL)
theorem sx_mmax {idx : Nat} {x z : Int} (hd : decode y.2.1 pc = .ok (.invokestatic idx, 3)) (hw1 : Cond.methodLink y.1.cls idx Lib.Math.max.name ∈ sx_T) (hw2 : Cond.static Lib.Math.max.name ∈ sx_T) (hw3 : Cond.initialized "java/lang/Math" ∈ sx_T) (hw4 : Cond.code Lib.Math.max.name Lib.Math.max.code 2 (some .int) ∈ sx_T) (hk1 : 1 ≤ k.1) (hst : (st.map sx_ct).sum ≤ 8) (hx : sx_r x) (hz : sx_r z) (hc : cs.1 ≤ k.2.1 ∧ cs.2 ≤ k.2.2)
    (kk : sx_V y k L xs cs (pc + 3) l (.inl (if x < z then z else x) :: st) h post) : sx_V y k L xs cs pc l (.inl z :: .inl x :: st) h post := by
  intro p lc e R s m args below meth c D dA b base Q hC hR hk H locs ls hH hL
  have hts := hC.1.2.2.2.2
  refine va_mmax hC.1.1 hC.1.2.1 (by rw [hC.1.2.2.1]; exact hL.1.symm) hC.1.2.2.2.1 (hts _ hw1) (hts _ hw2) (hts _ hw3) (hts _ hw4) (by omega) (by rw [sx_sum]; omega) (by omega) (by omega) hd ?_
  have h1 := kk p lc e R s m args below meth c D dA b base Q hC hR hk H locs ls hH hL
  rw [show (if Int32.ofInt x < Int32.ofInt z then Int32.ofInt z else Int32.ofInt x) = Int32.ofInt (if x < z then z else x) by simp only [sx_lt hx hz]; split <;> rfl]
  exact h1
theorem sx_mmin {idx : Nat} {x z : Int} (hd : decode y.2.1 pc = .ok (.invokestatic idx, 3)) (hw1 : Cond.methodLink y.1.cls idx Lib.Math.min.name ∈ sx_T) (hw2 : Cond.static Lib.Math.min.name ∈ sx_T) (hw3 : Cond.initialized "java/lang/Math" ∈ sx_T) (hw4 : Cond.code Lib.Math.min.name Lib.Math.min.code 2 (some .int) ∈ sx_T) (hk1 : 1 ≤ k.1) (hst : (st.map sx_ct).sum ≤ 8) (hx : sx_r x) (hz : sx_r z) (hc : cs.1 ≤ k.2.1 ∧ cs.2 ≤ k.2.2)
    (kk : sx_V y k L xs cs (pc + 3) l (.inl (if z < x then z else x) :: st) h post) : sx_V y k L xs cs pc l (.inl z :: .inl x :: st) h post := by
  intro p lc e R s m args below meth c D dA b base Q hC hR hk H locs ls hH hL
  have hts := hC.1.2.2.2.2
  refine va_mmin hC.1.1 hC.1.2.1 (by rw [hC.1.2.2.1]; exact hL.1.symm) hC.1.2.2.2.1 (hts _ hw1) (hts _ hw2) (hts _ hw3) (hts _ hw4) (by omega) (by rw [sx_sum]; omega) (by omega) (by omega) hd ?_
  have h1 := kk p lc e R s m args below meth c D dA b base Q hC hR hk H locs ls hH hL
  rw [show (if Int32.ofInt z < Int32.ofInt x then Int32.ofInt z else Int32.ofInt x) = Int32.ofInt (if z < x then z else x) by simp only [sx_lt hz hx]; split <;> rfl]
  exact h1
end SXI
