/-- references as they were set, the newest first -/
def asgR : List (Nat × Nat × Nat) → Nat → Nat → Option Nat
  | [] => fun _ _ => none
  | e :: t => sx_ur (asgR t) e.1 e.2.1 (some e.2.2)
/-- a heap on the way: so many cells of the layout -/
def gh (n : Nat) (M : Nat → Nat → Int) (rl : List (Nat × Nat × Nat)) : sx_h := (n, (fun a => g_shl.getD a (0, 0)), M, asgR rl)
def zb (n : Nat) (M : Nat → Nat → Int) : Prop := ∀ a j, n < a → M a j = 0
theorem zb.s {n : Nat} {M : Nat → Nat → Int} (h : zb n M) (m : Nat) (hm : Nat.ble n m = true) : zb m M := fun a j ha => h a j (by have := Nat.le_of_ble_eq_true hm; omega)
theorem zb.u {n : Nat} {M : Nat → Nat → Int} (h : zb n M) {a : Nat} (ha : Nat.ble a n = true) (k : Nat) (z : Int) : zb n (sx_u M a k z) := fun b j hb => by
  have := Nat.le_of_ble_eq_true ha
  rw [sx_un (by omega)]
  exact h b j hb
def rlo (n : Nat) (rl : List (Nat × Nat × Nat)) : Bool := rl.all (fun e => Nat.ble e.1 n)
theorem asg_none {n : Nat} {rl : List (Nat × Nat × Nat)} (h : rlo n rl = true) {a : Nat} (ha : n < a) (j : Nat) : asgR rl a j = none := by
  induction rl with
  | nil => rfl
  | cons e t ih =>
    unfold rlo at h
    simp only [List.all_cons, Bool.and_eq_true] at h
    have h1 := Nat.le_of_ble_eq_true h.1
    show sx_ur (asgR t) e.1 e.2.1 (some e.2.2) a j = none
    rw [sx_ur_ne (by omega)]
    exact ih h.2
theorem gh_nw {n t k : Nat} {M : Nat → Nat → Int} {rl : List (Nat × Nat × Nat)} (hs : g_shl.getD (n + 1) (0, 0) = (t, k)) (hz : zb n M) (hl : rlo n rl = true) : sx_nw (gh n M rl) t k = gh (n + 1) M rl := by
  unfold sx_nw gh
  refine Prod.ext rfl (Prod.ext ?_ (Prod.ext ?_ ?_))
  · funext a
    show (if a = n + 1 then (t, k) else g_shl.getD a (0, 0)) = g_shl.getD a (0, 0)
    by_cases q : a = n + 1
    · rw [if_pos q, q, hs]
    · rw [if_neg q]
  · funext a j
    show (if a = n + 1 then (0 : Int) else M a j) = M a j
    by_cases q : a = n + 1
    · rw [if_pos q, q, hz _ _ (by omega)]
    · rw [if_neg q]
  · funext a j
    show (if a = n + 1 then none else asgR rl a j) = asgR rl a j
    by_cases q : a = n + 1
    · rw [if_pos q, q, asg_none hl (by omega)]
    · rw [if_neg q]
theorem gho {n a t m : Nat} {M : Nat → Nat → Int} {rl : List (Nat × Nat × Nat)} (h1 : (a != 0) = true) (h2 : Nat.ble a n = true) (h3 : g_shl.getD a (0, 0) = (t, m)) : sx_o (gh n M rl) a t m := ⟨by simpa using h1, Nat.le_of_ble_eq_true h2, h3⟩
section GHR
variable {y : sx_Y} {k : Nat × Nat × Nat} {L : Nat} {xs : Nat → Int32} {cs cs2 : Nat × Nat} {pc n n2 : Nat} {l : List (Option sx_v)} {st : List sx_v} {post : Option sx_v → sx_h → Prop} {M : Nat → Nat → Int} {rl : List (Nat × Nat × Nat)}
theorem gh_new {idx ci : Nat} {q : vw_C} (hd : decode y.2.1 pc = .ok (.new idx, 3)) (hq : sx_cl[ci]? = some q) (h100 : ci < 100) (hw1 : Cond.classLink y.1.cls idx q.1 ∈ sx_T) (hw2 : Cond.instantiable q.1 q.2.2 ∈ sx_T) (hw3 : Cond.initialized q.1 ∈ sx_T) (hc : cs.1 + 1 ≤ k.2.1 ∧ cs.2 + q.2.2 ≤ k.2.2) (hs : g_shl.getD (n + 1) (0, 0) = (ci, q.2.2)) (hz : zb n M) (hl : rlo n rl = true) (hcs : (cs.1 + 1, cs.2 + q.2.2) = cs2) (hn : n + 1 = n2)
    (kk : sx_V y k L xs cs2 (pc + 3) l (sx_p n2 :: st) (gh n2 M rl) post) : sx_V y k L xs cs pc l st (gh n M rl) post := by
  refine sx_new hd hq h100 hw1 hw2 hw3 hc ?_
  rw [gh_nw hs hz hl, hcs]
  subst hn
  exact kk
theorem gh_newa {at_ : ArrayType} {t m : Nat} {z : Int} (hd : decode y.2.1 pc = .ok (.newarray at_, 2)) (ht : (t = 0 ∧ at_ = .int) ∨ (t = 1 ∧ at_ = .boolean)) (hw : Cond.arrayClass (newarray.typeOf at_) ∈ sx_T) (hz0 : z = m) (hm : m ≤ 100000) (hc : cs.1 + 1 ≤ k.2.1 ∧ cs.2 + m ≤ k.2.2) (hs : g_shl.getD (n + 1) (0, 0) = (100 + t, m)) (hz : zb n M) (hl : rlo n rl = true) (hcs : (cs.1 + 1, cs.2 + m) = cs2) (hn : n + 1 = n2)
    (kk : sx_V y k L xs cs2 (pc + 2) l (sx_p n2 :: st) (gh n2 M rl) post) : sx_V y k L xs cs pc l (.inl z :: st) (gh n M rl) post := by
  refine sx_newa hd ht hw hz0 hm hc ?_
  rw [gh_nw hs hz hl, hcs]
  subst hn
  exact kk
theorem gh_anew {idx t m : Nat} {C : String} {z : Int} (hd : decode y.2.1 pc = .ok (.anewarray idx, 3)) (hty : sx_ty[t + 2]? = some (.object C)) (hw1 : Cond.classLink y.1.cls idx C ∈ sx_T) (hw2 : Cond.arrayOver (.object C) ∈ sx_N) (hz0 : z = m) (hm : m ≤ 100000) (hc : cs.1 + 1 ≤ k.2.1 ∧ cs.2 + m ≤ k.2.2) (hs : g_shl.getD (n + 1) (0, 0) = (102 + t, m)) (hz : zb n M) (hl : rlo n rl = true) (hcs : (cs.1 + 1, cs.2 + m) = cs2) (hn : n + 1 = n2)
    (kk : sx_V y k L xs cs2 (pc + 3) l (sx_p n2 :: st) (gh n2 M rl) post) : sx_V y k L xs cs pc l (.inl z :: st) (gh n M rl) post := by
  refine sx_anew hd hty hw1 hw2 hz0 hm hc ?_
  rw [gh_nw hs hz hl, hcs]
  subst hn
  exact kk
theorem gh_putR {idx a ci m kf r : Nat} (hd : decode y.2.1 pc = .ok (.putfield idx, 3)) (hf : sx_fl y.1.cls idx ci kf) (ho : sx_o (gh n M rl) a ci m) (hi : sx_isI ci kf = false) (hn : kf < m) (h100 : ci < 100)
    (hfin : ∀ q : vw_C, sx_cl[ci]? = some q → (q.2.1 kf).2.2.2 = false ∨ ((q.2.1 kf).2.2.2 = true ∧ y.1.name = "<init>" ∧ (q.2.1 kf).1 = y.1.cls)) (hz : (∃ c, sx_fty ci kf = .object c) ∨ ∃ t, sx_fty ci kf = .array t)
    (kk : sx_V y k L xs cs (pc + 3) l st (gh n M ((a, kf, r) :: rl)) post) : sx_V y k L xs cs pc l (sx_p r :: sx_p a :: st) (gh n M rl) post := sx_putR hd hf ho hi hn h100 hfin hz kk
theorem gh_aast {a m t r ci nr i : Nat} {q : vw_C} {z : Int} (hd : decode y.2.1 pc = .ok (.aastore, 1)) (ho : sx_o (gh n M rl) a (102 + t) m) (hq : sx_cl[ci]? = some q) (hty : sx_ty[t + 2]? = some (.object q.1)) (hor : sx_o (gh n M rl) r ci nr) (h100 : ci < 100) (h0 : 0 ≤ z) (h1 : z < m) (hn : m ≤ 2147483647) (hi : z.toNat = i)
    (kk : sx_V y k L xs cs (pc + 1) l st (gh n M ((a, i, r) :: rl)) post) : sx_V y k L xs cs pc l (sx_p r :: .inl z :: sx_p a :: st) (gh n M rl) post := by
  subst hi
  exact sx_aast hd ho hq hty hor h100 h0 h1 hn kk
end GHR
theorem c_W_init {L : Nat} {xs : Nat → Int32} {h : sx_h} (a : Nat) : sx_R y_W_init (1, 0, 0) L xs [sx_p a] h (fun v h2 => v = none ∧ h2 = h) := by
  refine sx_enter rfl (Nat.le_of_ble_eq_true rfl) rfl ?_
  show sx_V y_W_init (1, 0, 0) L xs (0, 0) 0 [some (sx_p a)] [] h _
  refine sx_aload_n d_W_init_0 rfl ?_
  refine sx_oinit d_W_init_1 tw_176 tw_18 tw_19 (by decide) (Nat.le_of_ble_eq_true rfl) ?_
  refine sx_retV d_W_init_4 rfl ⟨Nat.zero_le _, Nat.zero_le _⟩ ?_
  exact ⟨rfl, rfl⟩
set_option maxRecDepth 100000 in
set_option maxHeartbeats 4000000 in
theorem c_K_init {L : Nat} {xs : Nat → Int32} {n a : Nat} {M : Nat → Nat → Int} {rl : List (Nat × Nat × Nat)} (ho : ∀ M, sx_o (gh n M rl) a 7 11) : sx_R y_K_init (1, 0, 0) L xs [sx_p a] (gh n M rl) (fun v h2 => v = none ∧ h2 = gh n (sx_u (sx_u M a 4 1) a 8 999) rl) := by
  refine sx_enter rfl (Nat.le_of_ble_eq_true rfl) rfl ?_
  show sx_V y_K_init (1, 0, 0) L xs (0, 0) 0 [some (sx_p a)] [] (gh n M rl) _
  refine sx_aload_n d_K_init_0 rfl ?_
  refine sx_oinit d_K_init_1 tw_58 tw_18 tw_19 (by decide) (Nat.le_of_ble_eq_true rfl) ?_
  refine sx_aload_n d_K_init_4 rfl ?_
  refine sx_iconst d_K_init_5 ?_
  refine sx_putI (h2 := gh n (sx_u M a 4 1) rl) d_K_init_6 fl_K_9 (ho _) rfl (by decide) (by decide) (fun q hq => Or.inl (nf_K_4 q hq)) (Or.inl rfl) rfl ?_
  refine sx_aload_n d_K_init_9 rfl ?_
  refine sx_sipush d_K_init_10 (by decide) ?_
  refine sx_putI (h2 := gh n (sx_u (sx_u M a 4 1) a 8 999) rl) d_K_init_13 fl_K_15 (ho _) rfl (by decide) (by decide) (fun q hq => Or.inl (nf_K_8 q hq)) (Or.inl rfl) rfl ?_
  refine sx_retV d_K_init_16 rfl ⟨Nat.zero_le _, Nat.zero_le _⟩ ?_
  exact ⟨rfl, rfl⟩
set_option maxRecDepth 100000 in
set_option maxHeartbeats 4000000 in
theorem c_P_init22 {L : Nat} {xs : Nat → Int32} {M : Nat → Nat → Int} {rl : List (Nat × Nat × Nat)} (hz : zb 22 M) (hl : rlo 22 rl = true) : sx_R y_P_init (1, 2, 12) L xs [sx_p 22] (gh 22 M rl) (fun v h2 => v = none ∧ h2 = gh 24 M ((22, 1, 24) :: (22, 0, 23) :: rl)) := by
  refine sx_enter rfl (Nat.le_of_ble_eq_true rfl) rfl ?_
  show sx_V y_P_init (1, 2, 12) L xs (0, 0) 0 [some (sx_p 22)] [] (gh 22 M rl) _
  refine sx_aload_n d_P_init_0 rfl ?_
  refine sx_oinit d_P_init_1 tw_199 tw_18 tw_19 (by decide) (Nat.le_of_ble_eq_true rfl) ?_
  refine sx_aload_n d_P_init_4 rfl ?_
  refine sx_bipush d_P_init_5 (by decide) ?_
  refine gh_newa (t := 0) (m := 6) (cs2 := (1, 6)) (n2 := 23) d_P_init_7 (Or.inl ⟨rfl, rfl⟩) tw_51 rfl (by decide) ⟨by decide, by decide⟩ rfl hz hl rfl rfl ?_
  refine gh_putR d_P_init_9 fl_P_9 (gho rfl rfl rfl) rfl (by decide) (by decide) (fun q hq => Or.inr ⟨(nf_P_0 q hq).1, rfl, (nf_P_0 q hq).2⟩) (Or.inr ⟨_, rfl⟩) ?_
  refine sx_aload_n d_P_init_12 rfl ?_
  refine sx_bipush d_P_init_13 (by decide) ?_
  refine gh_newa (t := 0) (m := 6) (cs2 := (2, 12)) (n2 := 24) d_P_init_15 (Or.inl ⟨rfl, rfl⟩) tw_51 rfl (by decide) ⟨by decide, by decide⟩ rfl (hz.s 23 rfl) (by show rlo 23 ((22, 0, 23) :: rl) = true; unfold rlo at hl ⊢; simp only [List.all_cons, Bool.and_eq_true]; exact ⟨rfl, List.all_eq_true.mpr (fun e he => Nat.ble_eq_true_of_le (Nat.le_succ_of_le (Nat.le_of_ble_eq_true (List.all_eq_true.mp hl e he))))⟩) rfl rfl ?_
  refine gh_putR d_P_init_17 fl_P_15 (gho rfl rfl rfl) rfl (by decide) (by decide) (fun q hq => Or.inr ⟨(nf_P_1 q hq).1, rfl, (nf_P_1 q hq).2⟩) (Or.inr ⟨_, rfl⟩) ?_
  refine sx_retV d_P_init_20 rfl ⟨by decide, by decide⟩ ?_
  exact ⟨rfl, rfl⟩
set_option maxRecDepth 100000 in
set_option maxHeartbeats 4000000 in
theorem c_P_init26 {L : Nat} {xs : Nat → Int32} {M : Nat → Nat → Int} {rl : List (Nat × Nat × Nat)} (hz : zb 26 M) (hl : rlo 26 rl = true) : sx_R y_P_init (1, 2, 12) L xs [sx_p 26] (gh 26 M rl) (fun v h2 => v = none ∧ h2 = gh 28 M ((26, 1, 28) :: (26, 0, 27) :: rl)) := by
  refine sx_enter rfl (Nat.le_of_ble_eq_true rfl) rfl ?_
  show sx_V y_P_init (1, 2, 12) L xs (0, 0) 0 [some (sx_p 26)] [] (gh 26 M rl) _
  refine sx_aload_n d_P_init_0 rfl ?_
  refine sx_oinit d_P_init_1 tw_199 tw_18 tw_19 (by decide) (Nat.le_of_ble_eq_true rfl) ?_
  refine sx_aload_n d_P_init_4 rfl ?_
  refine sx_bipush d_P_init_5 (by decide) ?_
  refine gh_newa (t := 0) (m := 6) (cs2 := (1, 6)) (n2 := 27) d_P_init_7 (Or.inl ⟨rfl, rfl⟩) tw_51 rfl (by decide) ⟨by decide, by decide⟩ rfl hz hl rfl rfl ?_
  refine gh_putR d_P_init_9 fl_P_9 (gho rfl rfl rfl) rfl (by decide) (by decide) (fun q hq => Or.inr ⟨(nf_P_0 q hq).1, rfl, (nf_P_0 q hq).2⟩) (Or.inr ⟨_, rfl⟩) ?_
  refine sx_aload_n d_P_init_12 rfl ?_
  refine sx_bipush d_P_init_13 (by decide) ?_
  refine gh_newa (t := 0) (m := 6) (cs2 := (2, 12)) (n2 := 28) d_P_init_15 (Or.inl ⟨rfl, rfl⟩) tw_51 rfl (by decide) ⟨by decide, by decide⟩ rfl (hz.s 27 rfl) (by show rlo 27 ((26, 0, 27) :: rl) = true; unfold rlo at hl ⊢; simp only [List.all_cons, Bool.and_eq_true]; exact ⟨rfl, List.all_eq_true.mpr (fun e he => Nat.ble_eq_true_of_le (Nat.le_succ_of_le (Nat.le_of_ble_eq_true (List.all_eq_true.mp hl e he))))⟩) rfl rfl ?_
  refine gh_putR d_P_init_17 fl_P_15 (gho rfl rfl rfl) rfl (by decide) (by decide) (fun q hq => Or.inr ⟨(nf_P_1 q hq).1, rfl, (nf_P_1 q hq).2⟩) (Or.inr ⟨_, rfl⟩) ?_
  refine sx_retV d_P_init_20 rfl ⟨by decide, by decide⟩ ?_
  exact ⟨rfl, rfl⟩
set_option maxRecDepth 100000 in
set_option maxHeartbeats 4000000 in
theorem c_P_init29 {L : Nat} {xs : Nat → Int32} {M : Nat → Nat → Int} {rl : List (Nat × Nat × Nat)} (hz : zb 29 M) (hl : rlo 29 rl = true) : sx_R y_P_init (1, 2, 12) L xs [sx_p 29] (gh 29 M rl) (fun v h2 => v = none ∧ h2 = gh 31 M ((29, 1, 31) :: (29, 0, 30) :: rl)) := by
  refine sx_enter rfl (Nat.le_of_ble_eq_true rfl) rfl ?_
  show sx_V y_P_init (1, 2, 12) L xs (0, 0) 0 [some (sx_p 29)] [] (gh 29 M rl) _
  refine sx_aload_n d_P_init_0 rfl ?_
  refine sx_oinit d_P_init_1 tw_199 tw_18 tw_19 (by decide) (Nat.le_of_ble_eq_true rfl) ?_
  refine sx_aload_n d_P_init_4 rfl ?_
  refine sx_bipush d_P_init_5 (by decide) ?_
  refine gh_newa (t := 0) (m := 6) (cs2 := (1, 6)) (n2 := 30) d_P_init_7 (Or.inl ⟨rfl, rfl⟩) tw_51 rfl (by decide) ⟨by decide, by decide⟩ rfl hz hl rfl rfl ?_
  refine gh_putR d_P_init_9 fl_P_9 (gho rfl rfl rfl) rfl (by decide) (by decide) (fun q hq => Or.inr ⟨(nf_P_0 q hq).1, rfl, (nf_P_0 q hq).2⟩) (Or.inr ⟨_, rfl⟩) ?_
  refine sx_aload_n d_P_init_12 rfl ?_
  refine sx_bipush d_P_init_13 (by decide) ?_
  refine gh_newa (t := 0) (m := 6) (cs2 := (2, 12)) (n2 := 31) d_P_init_15 (Or.inl ⟨rfl, rfl⟩) tw_51 rfl (by decide) ⟨by decide, by decide⟩ rfl (hz.s 30 rfl) (by show rlo 30 ((29, 0, 30) :: rl) = true; unfold rlo at hl ⊢; simp only [List.all_cons, Bool.and_eq_true]; exact ⟨rfl, List.all_eq_true.mpr (fun e he => Nat.ble_eq_true_of_le (Nat.le_succ_of_le (Nat.le_of_ble_eq_true (List.all_eq_true.mp hl e he))))⟩) rfl rfl ?_
  refine gh_putR d_P_init_17 fl_P_15 (gho rfl rfl rfl) rfl (by decide) (by decide) (fun q hq => Or.inr ⟨(nf_P_1 q hq).1, rfl, (nf_P_1 q hq).2⟩) (Or.inr ⟨_, rfl⟩) ?_
  refine sx_retV d_P_init_20 rfl ⟨by decide, by decide⟩ ?_
  exact ⟨rfl, rfl⟩
