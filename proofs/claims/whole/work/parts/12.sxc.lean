section SXB
variable {y : sx_Y} {k : Nat × Nat × Nat} {L : Nat} {xs : Nat → Int32} {cs : Nat × Nat} {pc : Nat} {l : List (Option sx_v)} {st : List sx_v} {h : sx_h} {post : Option sx_v → sx_h → Prop}
theorem sx_icmp_eq {x z : Int} {off : Int} {tgt : Nat} (hd : decode y.2.1 pc = .ok (.if_icmp .eq off, 3)) (ht : (pc : Int) + off = (tgt : Int)) (hx : sx_r x) (hz : sx_r z) (kt : x = z → sx_V y k L xs cs tgt l st h post) (kf : x ≠ z → sx_V y k L xs cs (pc + 3) l st h post) : sx_V y k L xs cs pc l (.inl z :: .inl x :: st) h post := by
  intro p lc e R s m args below meth c D dA b base Q hC hR hk H locs ls hH hL
  exact lv_icmp_eq hC.1.1 hC.1.2.1 hd ht (fun q => kt ((sx_eq hx hz).mp q) p lc e R s m args below meth c D dA b base Q hC hR hk H locs ls hH hL) (fun q => kf (fun w => q ((sx_eq hx hz).mpr w)) p lc e R s m args below meth c D dA b base Q hC hR hk H locs ls hH hL)
theorem sx_if_eq {x : Int} {off : Int} {tgt : Nat} (hd : decode y.2.1 pc = .ok (.ifCond .eq off, 3)) (ht : (pc : Int) + off = (tgt : Int)) (hx : sx_r x) (kt : x = 0 → sx_V y k L xs cs tgt l st h post) (kf : x ≠ 0 → sx_V y k L xs cs (pc + 3) l st h post) : sx_V y k L xs cs pc l (.inl x :: st) h post := by
  intro p lc e R s m args below meth c D dA b base Q hC hR hk H locs ls hH hL
  have hz := sx_r0
  exact lv_if_eq hC.1.1 hC.1.2.1 hd ht (fun q => kt ((sx_eq hx hz).mp q) p lc e R s m args below meth c D dA b base Q hC hR hk H locs ls hH hL) (fun q => kf (fun w => q ((sx_eq hx hz).mpr w)) p lc e R s m args below meth c D dA b base Q hC hR hk H locs ls hH hL)
theorem sx_icmp_ne {x z : Int} {off : Int} {tgt : Nat} (hd : decode y.2.1 pc = .ok (.if_icmp .ne off, 3)) (ht : (pc : Int) + off = (tgt : Int)) (hx : sx_r x) (hz : sx_r z) (kt : x ≠ z → sx_V y k L xs cs tgt l st h post) (kf : x = z → sx_V y k L xs cs (pc + 3) l st h post) : sx_V y k L xs cs pc l (.inl z :: .inl x :: st) h post := by
  intro p lc e R s m args below meth c D dA b base Q hC hR hk H locs ls hH hL
  exact lv_icmp_ne hC.1.1 hC.1.2.1 hd ht (fun q => kt (fun w => q ((sx_eq hx hz).mpr w)) p lc e R s m args below meth c D dA b base Q hC hR hk H locs ls hH hL) (fun q => kf ((sx_eq hx hz).mp q) p lc e R s m args below meth c D dA b base Q hC hR hk H locs ls hH hL)
theorem sx_if_ne {x : Int} {off : Int} {tgt : Nat} (hd : decode y.2.1 pc = .ok (.ifCond .ne off, 3)) (ht : (pc : Int) + off = (tgt : Int)) (hx : sx_r x) (kt : x ≠ 0 → sx_V y k L xs cs tgt l st h post) (kf : x = 0 → sx_V y k L xs cs (pc + 3) l st h post) : sx_V y k L xs cs pc l (.inl x :: st) h post := by
  intro p lc e R s m args below meth c D dA b base Q hC hR hk H locs ls hH hL
  have hz := sx_r0
  exact lv_if_ne hC.1.1 hC.1.2.1 hd ht (fun q => kt (fun w => q ((sx_eq hx hz).mpr w)) p lc e R s m args below meth c D dA b base Q hC hR hk H locs ls hH hL) (fun q => kf ((sx_eq hx hz).mp q) p lc e R s m args below meth c D dA b base Q hC hR hk H locs ls hH hL)
theorem sx_icmp_lt {x z : Int} {off : Int} {tgt : Nat} (hd : decode y.2.1 pc = .ok (.if_icmp .lt off, 3)) (ht : (pc : Int) + off = (tgt : Int)) (hx : sx_r x) (hz : sx_r z) (kt : x < z → sx_V y k L xs cs tgt l st h post) (kf : z ≤ x → sx_V y k L xs cs (pc + 3) l st h post) : sx_V y k L xs cs pc l (.inl z :: .inl x :: st) h post := by
  intro p lc e R s m args below meth c D dA b base Q hC hR hk H locs ls hH hL
  exact lv_icmp_lt hC.1.1 hC.1.2.1 hd ht (fun q => kt ((sx_lt hx hz).mp q) p lc e R s m args below meth c D dA b base Q hC hR hk H locs ls hH hL) (fun q => kf (by have q2 := (not_congr (sx_lt hx hz)).mp q; omega) p lc e R s m args below meth c D dA b base Q hC hR hk H locs ls hH hL)
theorem sx_if_lt {x : Int} {off : Int} {tgt : Nat} (hd : decode y.2.1 pc = .ok (.ifCond .lt off, 3)) (ht : (pc : Int) + off = (tgt : Int)) (hx : sx_r x) (kt : x < 0 → sx_V y k L xs cs tgt l st h post) (kf : 0 ≤ x → sx_V y k L xs cs (pc + 3) l st h post) : sx_V y k L xs cs pc l (.inl x :: st) h post := by
  intro p lc e R s m args below meth c D dA b base Q hC hR hk H locs ls hH hL
  have hz := sx_r0
  exact lv_if_lt hC.1.1 hC.1.2.1 hd ht (fun q => kt ((sx_lt hx hz).mp q) p lc e R s m args below meth c D dA b base Q hC hR hk H locs ls hH hL) (fun q => kf (by have q2 := (not_congr (sx_lt hx hz)).mp q; omega) p lc e R s m args below meth c D dA b base Q hC hR hk H locs ls hH hL)
theorem sx_icmp_ge {x z : Int} {off : Int} {tgt : Nat} (hd : decode y.2.1 pc = .ok (.if_icmp .ge off, 3)) (ht : (pc : Int) + off = (tgt : Int)) (hx : sx_r x) (hz : sx_r z) (kt : z ≤ x → sx_V y k L xs cs tgt l st h post) (kf : x < z → sx_V y k L xs cs (pc + 3) l st h post) : sx_V y k L xs cs pc l (.inl z :: .inl x :: st) h post := by
  intro p lc e R s m args below meth c D dA b base Q hC hR hk H locs ls hH hL
  exact lv_icmp_ge hC.1.1 hC.1.2.1 hd ht (fun q => kt ((sx_le hz hx).mp q) p lc e R s m args below meth c D dA b base Q hC hR hk H locs ls hH hL) (fun q => kf (by have q2 := (not_congr (sx_le hz hx)).mp q; omega) p lc e R s m args below meth c D dA b base Q hC hR hk H locs ls hH hL)
theorem sx_if_ge {x : Int} {off : Int} {tgt : Nat} (hd : decode y.2.1 pc = .ok (.ifCond .ge off, 3)) (ht : (pc : Int) + off = (tgt : Int)) (hx : sx_r x) (kt : 0 ≤ x → sx_V y k L xs cs tgt l st h post) (kf : x < 0 → sx_V y k L xs cs (pc + 3) l st h post) : sx_V y k L xs cs pc l (.inl x :: st) h post := by
  intro p lc e R s m args below meth c D dA b base Q hC hR hk H locs ls hH hL
  have hz := sx_r0
  exact lv_if_ge hC.1.1 hC.1.2.1 hd ht (fun q => kt ((sx_le hz hx).mp q) p lc e R s m args below meth c D dA b base Q hC hR hk H locs ls hH hL) (fun q => kf (by have q2 := (not_congr (sx_le hz hx)).mp q; omega) p lc e R s m args below meth c D dA b base Q hC hR hk H locs ls hH hL)
theorem sx_icmp_gt {x z : Int} {off : Int} {tgt : Nat} (hd : decode y.2.1 pc = .ok (.if_icmp .gt off, 3)) (ht : (pc : Int) + off = (tgt : Int)) (hx : sx_r x) (hz : sx_r z) (kt : z < x → sx_V y k L xs cs tgt l st h post) (kf : x ≤ z → sx_V y k L xs cs (pc + 3) l st h post) : sx_V y k L xs cs pc l (.inl z :: .inl x :: st) h post := by
  intro p lc e R s m args below meth c D dA b base Q hC hR hk H locs ls hH hL
  exact lv_icmp_gt hC.1.1 hC.1.2.1 hd ht (fun q => kt ((sx_lt hz hx).mp q) p lc e R s m args below meth c D dA b base Q hC hR hk H locs ls hH hL) (fun q => kf (by have q2 := (not_congr (sx_lt hz hx)).mp q; omega) p lc e R s m args below meth c D dA b base Q hC hR hk H locs ls hH hL)
theorem sx_if_gt {x : Int} {off : Int} {tgt : Nat} (hd : decode y.2.1 pc = .ok (.ifCond .gt off, 3)) (ht : (pc : Int) + off = (tgt : Int)) (hx : sx_r x) (kt : 0 < x → sx_V y k L xs cs tgt l st h post) (kf : x ≤ 0 → sx_V y k L xs cs (pc + 3) l st h post) : sx_V y k L xs cs pc l (.inl x :: st) h post := by
  intro p lc e R s m args below meth c D dA b base Q hC hR hk H locs ls hH hL
  have hz := sx_r0
  exact lv_if_gt hC.1.1 hC.1.2.1 hd ht (fun q => kt ((sx_lt hz hx).mp q) p lc e R s m args below meth c D dA b base Q hC hR hk H locs ls hH hL) (fun q => kf (by have q2 := (not_congr (sx_lt hz hx)).mp q; omega) p lc e R s m args below meth c D dA b base Q hC hR hk H locs ls hH hL)
theorem sx_icmp_le {x z : Int} {off : Int} {tgt : Nat} (hd : decode y.2.1 pc = .ok (.if_icmp .le off, 3)) (ht : (pc : Int) + off = (tgt : Int)) (hx : sx_r x) (hz : sx_r z) (kt : x ≤ z → sx_V y k L xs cs tgt l st h post) (kf : z < x → sx_V y k L xs cs (pc + 3) l st h post) : sx_V y k L xs cs pc l (.inl z :: .inl x :: st) h post := by
  intro p lc e R s m args below meth c D dA b base Q hC hR hk H locs ls hH hL
  exact lv_icmp_le hC.1.1 hC.1.2.1 hd ht (fun q => kt ((sx_le hx hz).mp q) p lc e R s m args below meth c D dA b base Q hC hR hk H locs ls hH hL) (fun q => kf (by have q2 := (not_congr (sx_le hx hz)).mp q; omega) p lc e R s m args below meth c D dA b base Q hC hR hk H locs ls hH hL)
theorem sx_if_le {x : Int} {off : Int} {tgt : Nat} (hd : decode y.2.1 pc = .ok (.ifCond .le off, 3)) (ht : (pc : Int) + off = (tgt : Int)) (hx : sx_r x) (kt : x ≤ 0 → sx_V y k L xs cs tgt l st h post) (kf : 0 < x → sx_V y k L xs cs (pc + 3) l st h post) : sx_V y k L xs cs pc l (.inl x :: st) h post := by
  intro p lc e R s m args below meth c D dA b base Q hC hR hk H locs ls hH hL
  have hz := sx_r0
  exact lv_if_le hC.1.1 hC.1.2.1 hd ht (fun q => kt ((sx_le hx hz).mp q) p lc e R s m args below meth c D dA b base Q hC hR hk H locs ls hH hL) (fun q => kf (by have q2 := (not_congr (sx_le hx hz)).mp q; omega) p lc e R s m args below meth c D dA b base Q hC hR hk H locs ls hH hL)
theorem sx_tswIn {dflt lo hi : Int} {offs : Array Int} {len : Nat} {x off : Int} {tgt : Nat} (hd : decode y.2.1 pc = .ok (.tableswitch dflt lo hi offs, len)) (hx : sx_r x) (h1 : lo ≤ x) (h2 : x ≤ hi) (ho : offs[(x - lo).toNat]? = some off) (ht : (pc : Int) + off = (tgt : Int)) (kk : sx_V y k L xs cs tgt l st h post) : sx_V y k L xs cs pc l (.inl x :: st) h post := by
  intro p lc e R s m args below meth c D dA b base Q hC hR hk H locs ls hH hL
  exact lv_tableIn hC.1.1 hC.1.2.1 hd (by rw [sx_ti hx]; omega) (by rw [sx_ti hx]; omega) (by rw [sx_ti hx]; exact ho) ht (kk p lc e R s m args below meth c D dA b base Q hC hR hk H locs ls hH hL)
theorem sx_tswOut {dflt lo hi : Int} {offs : Array Int} {len : Nat} {x : Int} {tgt : Nat} (hd : decode y.2.1 pc = .ok (.tableswitch dflt lo hi offs, len)) (hx : sx_r x) (h1 : x < lo ∨ hi < x) (ht : (pc : Int) + dflt = (tgt : Int)) (kk : sx_V y k L xs cs tgt l st h post) : sx_V y k L xs cs pc l (.inl x :: st) h post := by
  intro p lc e R s m args below meth c D dA b base Q hC hR hk H locs ls hH hL
  exact lv_tableOut hC.1.1 hC.1.2.1 hd (by rw [sx_ti hx]; exact h1) ht (kk p lc e R s m args below meth c D dA b base Q hC hR hk H locs ls hH hL)
end SXB
