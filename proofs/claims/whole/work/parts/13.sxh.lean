/-- field kf of class ci, by the pool of class own -/
def sx_fl (own : String) (idx ci kf : Nat) : Prop := ∃ q : vw_C, sx_cl[ci]? = some q ∧ kf < q.2.2 ∧ Cond.fieldLink own idx (q.2.1 kf).1 (q.2.1 kf).2.1 (q.2.1 kf).2.2.1 ∈ sx_T
theorem sx_rangeset {α : Type} (f : Nat → α) (n k : Nat) (v : α) : ((List.range n).map f).set k v = (List.range n).map (fun j => if j = k then v else f j) := by
  apply List.ext_getElem?
  intro i
  by_cases hik : i = k
  · subst hik
    by_cases hl : i < n
    · rw [List.getElem?_set_self (by simpa using hl)]
      simp [hl]
    · rw [List.getElem?_eq_none (by simp; omega), List.getElem?_eq_none (by simp; omega)]
  · rw [List.getElem?_set_ne (Ne.symm hik)]
    by_cases hl : i < n
    · simp [hl, hik]
    · rw [List.getElem?_eq_none (by simp; omega), List.getElem?_eq_none (by simp; omega)]
section SXH
variable {y : sx_Y} {k : Nat × Nat × Nat} {L : Nat} {xs : Nat → Int32} {cs : Nat × Nat} {pc : Nat} {l : List (Option sx_v)} {st : List sx_v} {h : sx_h} {post : Option sx_v → sx_h → Prop}
theorem sx_getI {idx a ci n kf : Nat} (hd : decode y.2.1 pc = .ok (.getfield idx, 3)) (hf : sx_fl y.1.cls idx ci kf) (ho : sx_o h a ci n) (hi : sx_isI ci kf = true) (hn : kf < n) (h100 : ci < 100) {z : Int} (hz : h.2.2.1 a kf = z) (kk : sx_V y k L xs cs (pc + 3) l (.inl z :: st) h post) : sx_V y k L xs cs pc l (sx_p a :: st) h post := by
  intro p lc e R s m args below meth c D dA b base Q hC hR hk H locs ls hH hL
  subst hz
  obtain ⟨⟨C, T, N⟩, hq, hk2, hw⟩ := hf
  refine va_get hC.1.1 hC.1.2.1 hC.1.2.2.2.2 (sx_cls ci _ hq).1 hC.1.2.2.2.1 hC.2.2.2.2.1 hH.1 (a - 1) (ho.obj h100) hq kf hk2 (hC.1.2.2.2.2 _ hw) (fun _ h9 => h9) (v := .int (Int32.ofInt (h.2.2.1 a kf))) ?_ hd (kk p lc e R s m args below meth c D dA b base Q hC hR hk H locs ls hH hL)
  simp [hn, sx_fv, hi]
theorem sx_getR {idx a ci n kf : Nat} {r : Option Nat} (hd : decode y.2.1 pc = .ok (.getfield idx, 3)) (hf : sx_fl y.1.cls idx ci kf) (ho : sx_o h a ci n) (hi : sx_isI ci kf = false) (hn : kf < n) (h100 : ci < 100) (hr : h.2.2.2 a kf = r) (kk : sx_V y k L xs cs (pc + 3) l (.inr (.inl r) :: st) h post) : sx_V y k L xs cs pc l (sx_p a :: st) h post := by
  intro p lc e R s m args below meth c D dA b base Q hC hR hk H locs ls hH hL
  subst hr
  obtain ⟨⟨C, T, N⟩, hq, hk2, hw⟩ := hf
  refine va_get hC.1.1 hC.1.2.1 hC.1.2.2.2.2 (sx_cls ci _ hq).1 hC.1.2.2.2.1 hC.2.2.2.2.1 hH.1 (a - 1) (ho.obj h100) hq kf hk2 (hC.1.2.2.2.2 _ hw) (fun _ h9 => h9) (v := va_rf ((h.2.2.2 a kf).map (sx_ad b base))) ?_ hd (kk p lc e R s m args below meth c D dA b base Q hC hR hk H locs ls hH hL)
  simp [hn, sx_fv, hi]
/-- a store into a field: the machine's part, final or not -/
theorem sx_put0 {p : Program} {lc : Launch} {e : Env} {R : Room} {s : State} {m : MethodId} {args : Array Value} {below : List Frame} {meth : Method} {c : Code} {D : va_G} {dA : Nat → ClassId} {b base : Nat} {Q : State → Prop} {H : Heap} {locs : List Loc} {ls : Array Slot} {rest : List Value} {cells slots : Nat} {h' : sx_h}
    (hC : sx_C y p s m args meth c D dA b base L xs) (hH : sx_H D dA b base s H locs h) {idx a ci n kf : Nat} {v : Value} (hd : decode y.2.1 pc = .ok (.putfield idx, 3)) (hf : sx_fl y.1.cls idx ci kf) (ho : sx_o h a ci n) (hn : kf < n) (h100 : ci < 100)
    (hfin : ∀ q : vw_C, sx_cl[ci]? = some q → (q.2.1 kf).2.2.2 = false ∨ ((q.2.1 kf).2.2.2 = true ∧ y.1.name = "<init>" ∧ (q.2.1 kf).1 = y.1.cls)) (hnw : narrow (sx_fty ci kf) v = v) (hft : fits (sx_fty ci kf) v = true)
    (h1 : h'.1 = h.1) (hs : h'.2.1 = h.2.1) (hv : sx_fv b base h' ci a kf = v) (hv2 : ∀ j, j ≠ kf → sx_fv b base h' ci a j = sx_fv b base h ci a j) (hx : ∀ a', a' ≠ a → sx_cell dA b base h' a' = sx_cell dA b base h a')
    (kk : ∀ (H1 : Heap) (locs1 : List Loc), sx_H D dA b base s H1 locs1 h' → W p lc e R s m args below meth c H1 locs1 cells slots Q (F0 m (pc + 3) ls rest)) : W p lc e R s m args below meth c H locs cells slots Q (F0 m pc ls (v :: .ref (sx_ad b base a) :: rest)) := by
  obtain ⟨⟨C, T, N⟩, hq, hk2, hw⟩ := hf
  obtain ⟨c1, c2, c3, -⟩ := sx_cls ci _ hq
  have hK := hC.2.2.2.2.1
  have hts := hC.1.2.2.2.2
  have hown := hC.1.2.2.2.1
  have hap := va_apart (own := y.1.cls) hts c1 (sx_fty ci) c2 c3 hK hq
  have he := ho.obj (dA := dA) (b := b) (base := base) h100
  obtain ⟨r, e1, cell, q1, q2, q3, q4⟩ := hH.1 (a - 1) _ he
  have hr : r = (C, T, N) := Option.some.inj (e1.symm.trans hq)
  subst hr
  obtain ⟨hS, hfc, kC, hkC, hkind⟩ := hK.1 ci _ hq
  obtain ⟨cf, kf', fi, f, hi, hsl⟩ := hS kf hk2
  have hlay := hts _ (c1 _ (u_in_lay hk2))
  have hst := (u_facts hfc hkC (u_lays hts c1 hk2) hi).1
  have hlink := hts _ hw
  obtain ⟨h0, hle, hsh⟩ := ho
  obtain ⟨j, rfl⟩ : ∃ j, a = j + 1 := ⟨a - 1, by omega⟩
  have hcell : sx_cell dA b base h' (j + 1) = .inr (ci, ((List.range n).map (sx_fv b base h ci (j + 1))).set kf v) := by
    simp only [sx_cell, hs, hsh, if_pos h100, sx_rangeset]
    congr 2
    apply List.map_congr_left
    intro i _
    by_cases hik : i = kf
    · subst hik
      rw [if_pos rfl, hv]
    · rw [if_neg hik, hv2 i hik]
  have fin : ∀ (H' : Heap), H'[base + j]? = some (cell.setSlot f.slot v) → H'.size = H.size → (∀ q, q ≠ base + j → H'[q]? = H[q]?) → W p lc e R s m args below meth c H' (locs ++ [⟨base + j, f.slot⟩]) cells slots Q (F0 m (pc + 3) ls rest) := by
    intro H' e1 e2 e3
    refine kk H' _ (hH.put (j := j) h1 (by omega) ?_ hx e2 e3)
    rw [hcell]
    rw [hsl] at e1
    exact ⟨_, hq, t_OB.to (V := updV (vp_V ((List.range n).map (sx_fv b base h ci (j + 1)))) kf v) ⟨_, e1, q2, q3, t_set q4 hap hk2 v⟩ (fun i _ => vp_updV_set (by simpa using hn) v i)⟩
  rcases hfin _ hq with hff | ⟨hff, hin2, hdecl⟩
  · unfold u_lay at hlay
    rw [if_neg (by rw [hff]; decide)] at hlay
    have h6 := u_store hfc hkC hkind hlay hi (c2 kf hk2) hnw hft
    exact W.putK hC.1.1 hC.1.2.1 (f := f) ⟨hown, hlink, ⟨_, _, _, hi⟩, hst⟩ (by rw [q2]; exact h6) q1 q3 (by rw [hsl]; exact k2_hasslot (q4 kf hk2)) rfl rfl hd fun H' e1 e2 e3 => fin H' e1 e2 e3
  · unfold u_lay at hlay
    rw [if_pos hff] at hlay
    have hcf : m.cls = cf := by
      obtain ⟨_, _, c', _, _, _, -, -, hf', -, -, -, hown2, -⟩ := Cond.laysFinal_spec hlay
      have e1 : c' = cf := by have := hi.symm.trans hf'; simp at this; exact this.1.symm
      rw [hdecl] at hown2
      rw [← e1]; exact Option.some.inj (hown.symm.trans hown2)
    have h6 := u_fits hfc hkC hkind (Or.inr hlay) hi (c2 kf hk2) hnw hft
    exact W.putFinK hC.1.1 hC.1.2.1 hown hlink hi hst hcf (hC.2.2.2.1 hin2) (by rw [q2]; exact h6) q1 q3 (by rw [hsl]; exact k2_hasslot (q4 kf hk2)) rfl rfl hd fun H' e1 e2 e3 => fin H' e1 e2 e3
theorem sx_putI {idx a ci n kf : Nat} {z : Int} (hd : decode y.2.1 pc = .ok (.putfield idx, 3)) (hf : sx_fl y.1.cls idx ci kf) (ho : sx_o h a ci n) (hi : sx_isI ci kf = true) (hn : kf < n) (h100 : ci < 100)
    (hfin : ∀ q : vw_C, sx_cl[ci]? = some q → (q.2.1 kf).2.2.2 = false ∨ ((q.2.1 kf).2.2.2 = true ∧ y.1.name = "<init>" ∧ (q.2.1 kf).1 = y.1.cls)) (hz : sx_fty ci kf = .int ∨ (sx_fty ci kf = .boolean ∧ (z = 0 ∨ z = 1)))
    {h2 : sx_h} (hh : sx_m h (sx_u h.2.2.1 a kf z) = h2) (kk : sx_V y k L xs cs (pc + 3) l st h2 post) : sx_V y k L xs cs pc l (.inl z :: sx_p a :: st) h post := by
  intro p lc e R s m args below meth c D dA b base Q hC hR hk H locs ls hH hL
  subst hh
  refine sx_put0 (h' := (h.1, h.2.1, sx_u h.2.2.1 a kf z, h.2.2.2)) hC hH (v := .int (Int32.ofInt z)) hd hf ho hn h100 hfin ?_ ?_ rfl rfl ?_ ?_ ?_ (fun H1 locs1 hH1 => kk p lc e R s m args below meth c D dA b base Q hC hR hk H1 locs1 ls hH1 hL)
  · rcases hz with e1 | ⟨e1, rfl | rfl⟩ <;> rw [e1] <;> rfl
  · rcases hz with e1 | ⟨e1, rfl | rfl⟩ <;> rw [e1] <;> rfl
  · simp [sx_fv, hi, sx_u]
  · intro j hj
    simp [sx_fv, sx_u, hj]
  · intro a' ha'
    exact sx_cell_congr rfl (fun j => sx_u_ne ha' j) (fun _ => rfl)
theorem sx_putR {idx a ci n kf r : Nat} (hd : decode y.2.1 pc = .ok (.putfield idx, 3)) (hf : sx_fl y.1.cls idx ci kf) (ho : sx_o h a ci n) (hi : sx_isI ci kf = false) (hn : kf < n) (h100 : ci < 100)
    (hfin : ∀ q : vw_C, sx_cl[ci]? = some q → (q.2.1 kf).2.2.2 = false ∨ ((q.2.1 kf).2.2.2 = true ∧ y.1.name = "<init>" ∧ (q.2.1 kf).1 = y.1.cls)) (hz : (∃ c, sx_fty ci kf = .object c) ∨ ∃ t, sx_fty ci kf = .array t)
    (kk : sx_V y k L xs cs (pc + 3) l st (h.1, h.2.1, h.2.2.1, sx_ur h.2.2.2 a kf (some r)) post) : sx_V y k L xs cs pc l (sx_p r :: sx_p a :: st) h post := by
  intro p lc e R s m args below meth c D dA b base Q hC hR hk H locs ls hH hL
  refine sx_put0 (h' := (h.1, h.2.1, h.2.2.1, sx_ur h.2.2.2 a kf (some r))) hC hH (v := .ref (sx_ad b base r)) hd hf ho hn h100 hfin ?_ ?_ rfl rfl ?_ ?_ ?_ (fun H1 locs1 hH1 => kk p lc e R s m args below meth c D dA b base Q hC hR hk H1 locs1 ls hH1 hL)
  · rcases hz with ⟨_, e1⟩ | ⟨_, e1⟩ <;> rw [e1] <;> rfl
  · rcases hz with ⟨_, e1⟩ | ⟨_, e1⟩ <;> rw [e1] <;> rfl
  · simp [sx_fv, hi, sx_ur, va_rf]
  · intro j hj
    simp [sx_fv, sx_ur, hj]
  · intro a' ha'
    exact sx_cell_congr rfl (fun _ => rfl) (fun j => sx_ur_ne ha' j)
end SXH
