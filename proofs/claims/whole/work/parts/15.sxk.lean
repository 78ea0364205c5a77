theorem sx_N_isN {w : Cond} (hw : w ∈ sx_N) : sx_isN w = true := (List.mem_filter.mp hw).2
theorem sx_N_same {w : Cond} (hw : w ∈ sx_N) {u U : State} (e : u.vm = U.vm) (hz : va_Nw w u) : va_Nw w U := by
  have h := sx_N_isN hw
  cases w with
  | fieldLinkNest a i b n d e2 => exact va_Nw.same rfl e hz
  | methodLinkNest a i x e2 => exact va_Nw.same rfl e hz
  | arrayOver t =>
    cases t with
    | object C => exact va_AO.moved (e ▸ Vm.Alike.refl u.vm) hz
    | _ => simp [sx_isN] at h
  | _ => simp [sx_isN] at h
theorem sx_N_warm {w : Cond} (hw : w ∈ sx_N) {s U : State} (hW : s.WarmedH U.vm) (hz : va_Nw w s) : va_Nw w U := by
  have h := sx_N_isN hw
  cases w with
  | fieldLinkNest a i b n d e => exact va_Nw.warmF hW hz
  | methodLinkNest a i x e => exact va_Nw.warmM hW hz
  | arrayOver t =>
    cases t with
    | object C => exact va_AO.moved hW.alike hz
    | _ => simp [sx_isN] at h
  | _ => simp [sx_isN] at h
theorem sx_good {y : sx_Y} (hc : Cond.code y.1 y.2.1 y.2.2.1 y.2.2.2 ∈ sx_T) : GoodIn sx_T (sx_ws y) := by
  intro w hw
  have hm : w ∈ sx_T := by
    rcases List.mem_cons.mp hw with rfl | h
    · exact hc
    · exact h
  exact ⟨hm, good_of_word (List.mem_filter.mp hm).2⟩
theorem sx_blind (av : List Value) (D : va_G) (dA : Nat → ClassId) (b base L : Nat) (xs : Nat → Int32) (h : sx_h) : FrameBlind (va_Pc av (sx_B D dA b base L xs h)) := by
  rintro a U g mk ⟨hv, hP, hsz, hK, hN, hX, hb⟩
  exact ⟨hv, hP, hsz, va_K.moved (u := U) (U := U.calling g mk a) (Vm.Alike.refl U.vm) hK, fun w hw => sx_N_same hw (u := U) (U := U.calling g mk a) rfl (hN w hw), va_X.moved (u := U) (U := U.calling g mk a) (Vm.Alike.refl U.vm) hX, hb⟩
/-- what a call of y' with n arguments beside its object needs of the tables -/
def sx_cd (y' : sx_Y) (n : Nat) : Prop := Cond.code y'.1 y'.2.1 y'.2.2.1 y'.2.2.2 ∈ sx_T ∧ Cond.initialized y'.1.cls ∈ sx_T ∧ (y'.1.cls ≠ "java/lang/invoke/MethodHandle" ∧ y'.1.cls ≠ "java/lang/invoke/VarHandle" ∧ (parseMethodDescriptor y'.1.desc).map (fun d => d.parameters.length) = some n) ∧ y'.2.2.1 ≤ 45
def sx_lk (own : String) (idx : Nat) (y' : sx_Y) : Prop := Cond.methodLink own idx y'.1 ∈ sx_T ∨ ∃ host, Cond.methodLinkNest own idx y'.1 host ∈ sx_N
section SXK
variable {y : sx_Y} {k : Nat × Nat × Nat} {L : Nat} {xs : Nat → Int32} {cs : Nat × Nat} {pc : Nat} {l : List (Option sx_v)} {st stk : List sx_v} {h : sx_h} {post post' : Option sx_v → sx_h → Prop}
theorem sx_pre {p : Program} {s : State} {m : MethodId} {args : Array Value} {meth : Method} {c : Code} {D : va_G} {dA : Nat → ClassId} {b base : Nat} {H : Heap} {locs : List Loc} (av : List sx_v)
    (hC : sx_C y p s m args meth c D dA b base L xs) (hH : sx_H D dA b base s H locs h) : ∀ U : State, U.heap = H → s.WarmedH U.vm → va_Pc (av.map (sx_e b base)) (sx_B D dA b base L xs h) (av.map (sx_e b base)).toArray U := by
  intro U hU hW
  obtain ⟨-, -, -, -, hK, hN, hX, hbb, hbs⟩ := hC
  refine ⟨rfl, by rw [hU]; exact hH.1, by rw [hU]; exact hH.2.1, va_K.moved hW.alike hK, fun w hw => sx_N_warm hw hW (hN w hw), ?_, hbb⟩
  rw [hU]
  exact va_X.moved hW.alike (hX.kept (hH.2.2.2.1 b (by omega) (by omega)))
/-- behind a call -/
theorem sx_after {p : Program} {lc : Launch} {e : Env} {R : Room} {s : State} {m : MethodId} {args : Array Value} {below : List Frame} {meth : Method} {c : Code} {D : va_G} {dA : Nat → ClassId} {b base : Nat} {Q : State → Prop} {H : Heap} {locs : List Loc} {ls : Array Slot} {rest st0 : List Value} {cells slots mc ms : Nat} {a : Array Value}
    (hr : va_Run p lc e R s m args below meth c H locs cells slots mc ms (F0 m pc ls st0) rest (sx_Q D dA b base post' a) (fun q => base ≤ q)) (hH : sx_H D dA b base s H locs h)
    (kk : ∀ (v : Option sx_v) (h' : sx_h) (H1 : Heap) (locs1 : List Loc), post' v h' → sx_H D dA b base s H1 locs1 h' → W p lc e R s m args below meth c H1 locs1 (cells + mc) (slots + ms) Q (F0 m (pc + 3) ls (v.toList.map (sx_e b base) ++ rest))) : W p lc e R s m args below meth c H locs cells slots Q (F0 m pc ls st0) := by
  intro T hT X
  obtain ⟨v, st₀, t, T', L', h0, X', hL, e1, e2, ⟨u, h', hv, hp, hP, hsz, hF1, hF2⟩, st⟩ := hr T hT X
  have hv : v = u.map (sx_e b base) := Outcome.returned.inj hv
  subst hv
  rw [h0] at hF1 hF2
  have hS := hH.2.2
  obtain ⟨t2, a1, b1⟩ := kk u h' T'.heap (locs ++ L') hp ⟨by rw [e1]; exact hP, by rw [e1]; exact hsz, ⟨Nat.le_trans hS.1 (by rw [e1]; exact hF1), fun q h1 h2 => by rw [e1, hF2 q (Nat.lt_of_lt_of_le h1 hS.1) h2]; exact hS.2.1 q h1 h2, fun q hq => by
    rcases List.mem_append.mp hq with h | h
    · exact hS.2.2 q h
    · exact hL q h⟩⟩ T' rfl X'
  refine ⟨t2, st t2 ?_, b1⟩
  cases u <;> exact a1
theorem sx_callV {y' : sx_Y} {k' : Nat × Nat × Nat} {av : List sx_v} {a idx ci n nn : Nat} {q : vw_C} (hM : sx_R y' k' L xs (sx_p a :: av) h post') (hd : decode y.2.1 pc = .ok (.invokevirtual idx, 3)) (hcd : sx_cd y' nn) (hlk : sx_lk y.1.cls idx y') (hw1 : Cond.instanceMethod y'.1 ∈ sx_T) (hw2 : Cond.selects y'.1.cls y'.1 y'.1 ∈ sx_T)
    (ho : sx_o h a ci n) (hq : sx_cl[ci]? = some q) (hqc : q.1 = y'.1.cls) (h100 : ci < 100) (hs : stk = av.reverse ++ sx_p a :: st) (hn : av.length = nn) (hst : (st.map sx_ct).sum ≤ 8) (hk' : k'.1 + 1 ≤ k.1 ∧ cs.1 + k'.2.1 ≤ k.2.1 ∧ cs.2 + k'.2.2 ≤ k.2.2)
    (kk : ∀ v h', post' v h' → sx_V y k L xs (cs.1 + k'.2.1, cs.2 + k'.2.2) (pc + 3) l (v.toList ++ st) h' post) : sx_V y k L xs cs pc l stk h post := by
  intro p lc e R s m args below meth c D dA b base Q hC hR hk H locs ls hH hL
  subst hs
  obtain ⟨hc1, hc2, hc3, hc4⟩ := hcd
  have hts := hC.1.2.2.2.2
  have hroom : 8 + (y'.2.2.1 + 11) + (sx_rm k').locals ≤ R.locals := by
    show 8 + (y'.2.2.1 + 11) + 64 * k'.1 ≤ R.locals
    omega
  have hrecv := va_recv hC.2.2.2.2.1 hH.1 hq (ho.obj (dA := dA) (b := b) (base := base) h100)
  rw [hqc] at hrecv
  have hp : PreV s H y'.1.cls (sx_ad b base a) (va_Pc ((sx_p a :: av).map (sx_e b base)) (sx_B D dA b base L xs h)) (av.map (sx_e b base)) := ⟨sx_blind _ _ _ _ _ _ _ _, hrecv, sx_pre (sx_p a :: av) hC hH⟩
  have hstack : ((av.reverse ++ sx_p a :: st).map (sx_e b base)) = (av.map (sx_e b base)).reverse ++ .ref (sx_ad b base a) :: st.map (sx_e b base) := by
    rw [List.map_append, List.map_reverse]; rfl
  have fin : va_Run p lc e R s m args below meth c H locs cs.1 cs.2 k'.2.1 k'.2.2 (F0 m pc ls ((av.reverse ++ sx_p a :: st).map (sx_e b base))) (st.map (sx_e b base)) (sx_Q D dA b base post' (Value.ref (sx_ad b base a) :: av.map (sx_e b base)).toArray) (fun q => base ≤ q) → W p lc e R s m args below meth c H locs cs.1 cs.2 Q (F0 m pc ls ((av.reverse ++ sx_p a :: st).map (sx_e b base))) := by
    intro hrun
    refine sx_after hrun hH (fun v h' H1 locs1 hpv hH1 => ?_)
    have h1 := kk v h' hpv p lc e R s m args below meth c D dA b base Q hC hR hk H1 locs1 ls hH1 hL
    rw [List.map_append] at h1
    exact h1
  rcases hlk with hl | ⟨host, hl⟩
  · exact fin (va_runV (As := av.map (sx_e b base)) (n := nn) hC.1 (hM lc D dA b base) ⟨callB_of nn hts (sx_good hc1) rfl rfl rfl (hts _ hc2) (hts _ hl) hc3 ⟨by show k'.1 + 1 ≤ R.frames; omega, hroom⟩, hts _ hw1, hts _ hw2⟩ hp rfl (by rw [List.length_map]; exact hn) hL.1 hstack (lv_room (by rw [sx_sum]; exact hst)) hd ⟨by omega, by omega⟩)
  · exact fin (va_runVN (As := av.map (sx_e b base)) (n := nn) (host := host) hC.1 (hM lc D dA b base) ⟨va_cnB nn hts (sx_good hc1) rfl rfl rfl (hC.2.2.2.2.2.1 _ hl) (hts _ hc2) hc3 ⟨by show k'.1 + 1 ≤ R.frames; omega, hroom⟩, hts _ hw1, hts _ hw2⟩ hp rfl (by rw [List.length_map]; exact hn) hL.1 hstack (lv_room (by rw [sx_sum]; exact hst)) hd ⟨by omega, by omega⟩)
theorem sx_callS {y' : sx_Y} {k' : Nat × Nat × Nat} {av : List sx_v} {idx nn : Nat} (hM : sx_R y' k' L xs av h post') (hd : decode y.2.1 pc = .ok (.invokestatic idx, 3)) (hcd : sx_cd y' nn) (hlk : sx_lk y.1.cls idx y') (hw1 : Cond.static y'.1 ∈ sx_T)
    (hs : stk = av.reverse ++ st) (hn : av.length = nn) (hst : (st.map sx_ct).sum ≤ 8) (hk' : k'.1 + 1 ≤ k.1 ∧ cs.1 + k'.2.1 ≤ k.2.1 ∧ cs.2 + k'.2.2 ≤ k.2.2)
    (kk : ∀ v h', post' v h' → sx_V y k L xs (cs.1 + k'.2.1, cs.2 + k'.2.2) (pc + 3) l (v.toList ++ st) h' post) : sx_V y k L xs cs pc l stk h post := by
  intro p lc e R s m args below meth c D dA b base Q hC hR hk H locs ls hH hL
  subst hs
  obtain ⟨hc1, hc2, hc3, hc4⟩ := hcd
  have hts := hC.1.2.2.2.2
  have hroom : 8 + (y'.2.2.1 + 11) + (sx_rm k').locals ≤ R.locals := by
    show 8 + (y'.2.2.1 + 11) + 64 * k'.1 ≤ R.locals
    omega
  have hp : PreS s H (va_Pc (av.map (sx_e b base)) (sx_B D dA b base L xs h)) (av.map (sx_e b base)) := ⟨sx_blind _ _ _ _ _ _ _ _, sx_pre av hC hH⟩
  have hstack : ((av.reverse ++ st).map (sx_e b base)) = (av.map (sx_e b base)).reverse ++ st.map (sx_e b base) := by
    rw [List.map_append, List.map_reverse]
  have fin : va_Run p lc e R s m args below meth c H locs cs.1 cs.2 k'.2.1 k'.2.2 (F0 m pc ls ((av.reverse ++ st).map (sx_e b base))) (st.map (sx_e b base)) (sx_Q D dA b base post' (av.map (sx_e b base)).toArray) (fun q => base ≤ q) → W p lc e R s m args below meth c H locs cs.1 cs.2 Q (F0 m pc ls ((av.reverse ++ st).map (sx_e b base))) := by
    intro hrun
    refine sx_after hrun hH (fun v h' H1 locs1 hpv hH1 => ?_)
    have h1 := kk v h' hpv p lc e R s m args below meth c D dA b base Q hC hR hk H1 locs1 ls hH1 hL
    rw [List.map_append] at h1
    exact h1
  rcases hlk with hl | ⟨host, hl⟩
  · exact fin (va_runS (As := av.map (sx_e b base)) (n := nn) hC.1 (hM lc D dA b base) ⟨callB_of nn hts (sx_good hc1) rfl rfl rfl (hts _ hc2) (hts _ hl) hc3 ⟨by show k'.1 + 1 ≤ R.frames; omega, hroom⟩, hts _ hw1⟩ hp rfl (by rw [List.length_map]; exact hn) hL.1 hstack (lv_room (by rw [sx_sum]; exact hst)) hd ⟨by omega, by omega⟩)
  · exact fin (va_runSN (As := av.map (sx_e b base)) (n := nn) (host := host) hC.1 (hM lc D dA b base) ⟨va_cnB nn hts (sx_good hc1) rfl rfl rfl (hC.2.2.2.2.2.1 _ hl) (hts _ hc2) hc3 ⟨by show k'.1 + 1 ≤ R.frames; omega, hroom⟩, hts _ hw1, trivial⟩ hp rfl (by rw [List.length_map]; exact hn) hL.1 hstack (lv_room (by rw [sx_sum]; exact hst)) hd ⟨by omega, by omega⟩)
theorem sx_callI {y' : sx_Y} {k' : Nat × Nat × Nat} {av : List sx_v} {a idx nn : Nat} (hM : sx_R y' k' L xs (sx_p a :: av) h post') (hd : decode y.2.1 pc = .ok (.invokespecial idx, 3)) (hcd : sx_cd y' nn) (hlk : sx_lk y.1.cls idx y') (hw1 : Cond.instanceMethod y'.1 ∈ sx_T) (hy1 : y'.1.name = "<init>") (hyr : y'.2.2.2 = none)
    (hs : stk = av.reverse ++ sx_p a :: st) (hn : av.length = nn) (hst : (st.map sx_ct).sum ≤ 8) (hk' : k'.1 + 1 ≤ k.1 ∧ cs.1 + k'.2.1 ≤ k.2.1 ∧ cs.2 + k'.2.2 ≤ k.2.2)
    (kk : ∀ v h', post' v h' → sx_V y k L xs (cs.1 + k'.2.1, cs.2 + k'.2.2) (pc + 3) l (v.toList ++ st) h' post) : sx_V y k L xs cs pc l stk h post := by
  intro p lc e R s m args below meth c D dA b base Q hC hR hk H locs ls hH hL
  subst hs
  obtain ⟨hc1, hc2, hc3, hc4⟩ := hcd
  have hts := hC.1.2.2.2.2
  have hroom : 8 + (y'.2.2.1 + 11) + (sx_rm k').locals ≤ R.locals := by
    show 8 + (y'.2.2.1 + 11) + 64 * k'.1 ≤ R.locals
    omega
  have hp : PreS s H (va_Pc ((sx_p a :: av).map (sx_e b base)) (sx_B D dA b base L xs h)) (.ref (sx_ad b base a) :: av.map (sx_e b base)) := ⟨sx_blind _ _ _ _ _ _ _ _, sx_pre (sx_p a :: av) hC hH⟩
  have hstack : ((av.reverse ++ sx_p a :: st).map (sx_e b base)) = (av.map (sx_e b base)).reverse ++ .ref (sx_ad b base a) :: st.map (sx_e b base) := by
    rw [List.map_append, List.map_reverse]; rfl
  have fin : va_Run p lc e R s m args below meth c H locs cs.1 cs.2 k'.2.1 k'.2.2 (F0 m pc ls ((av.reverse ++ sx_p a :: st).map (sx_e b base))) (st.map (sx_e b base)) (sx_Q D dA b base post' (Value.ref (sx_ad b base a) :: av.map (sx_e b base)).toArray) (fun q => base ≤ q) → W p lc e R s m args below meth c H locs cs.1 cs.2 Q (F0 m pc ls ((av.reverse ++ sx_p a :: st).map (sx_e b base))) := by
    intro hrun
    refine sx_after hrun hH (fun v h' H1 locs1 hpv hH1 => ?_)
    have h1 := kk v h' hpv p lc e R s m args below meth c D dA b base Q hC hR hk H1 locs1 ls hH1 hL
    rw [List.map_append] at h1
    exact h1
  rw [hyr] at hc1
  have hg : GoodIn sx_T (sx_ws y') := sx_good (by rw [hyr]; exact hc1)
  rcases hlk with hl | ⟨host, hl⟩
  · exact fin (va_runI (As := av.map (sx_e b base)) (n := nn) hC.1 (hM lc D dA b base) ⟨callB_of nn hts hg (by rw [sx_ws, hyr]) rfl rfl (hts _ hc2) (hts _ hl) hc3 ⟨by show k'.1 + 1 ≤ R.frames; omega, hroom⟩, hy1, hts _ hw1⟩ hp rfl (by rw [List.length_map]; exact hn) hL.1 hstack (lv_room (by rw [sx_sum]; exact hst)) hd ⟨by omega, by omega⟩)
  · exact fin (va_runIN (As := av.map (sx_e b base)) (n := nn) (host := host) hC.1 (hM lc D dA b base) ⟨va_cnB nn hts hg (by rw [sx_ws, hyr]) rfl rfl (hC.2.2.2.2.2.1 _ hl) (hts _ hc2) hc3 ⟨by show k'.1 + 1 ≤ R.frames; omega, hroom⟩, hy1, hts _ hw1⟩ hp rfl (by rw [List.length_map]; exact hn) hL.1 hstack (lv_room (by rw [sx_sum]; exact hst)) hd ⟨by omega, by omega⟩)
/-- weaker ends -/
theorem sx_V.mono {post2 : Option sx_v → sx_h → Prop} (hv : sx_V y k L xs cs pc l st h post) (hp : ∀ v h', post v h' → post2 v h') : sx_V y k L xs cs pc l st h post2 := by
  intro p lc e R s m args below meth c D dA b base Q hC hR hk H locs ls hH hL
  exact hv p lc e R s m args below meth c D dA b base Q hC hR (fun pcR lsR H locs v h' h1 h2 h3 => hk pcR lsR H locs v h' (hp v h' h1) h2 h3) H locs ls hH hL
end SXK
/-- a contract with a weaker end -/
theorem sx_Met_mono {lc : Launch} {y : sx_Y} {k : Nat × Nat × Nat} {Pc : Array Value → State → Prop} {D : va_G} {dA : Nat → ClassId} {b base : Nat} {post post2 : Option sx_v → sx_h → Prop} {free : Addr → Prop}
    (h : Met lc y.1 (sx_ws y) (sx_rm k) Pc (sx_Q D dA b base post) k.2.1 k.2.2 free) (hp : ∀ v h', post v h' → post2 v h') : Met lc y.1 (sx_ws y) (sx_rm k) Pc (sx_Q D dA b base post2) k.2.1 k.2.2 free := by
  intro p e ha hc hk s m args below hf happ hP hK
  obtain ⟨t, o, h1, h2, h3, ⟨⟨v, h', q1, q2, q3⟩, q4⟩⟩ := h p e ha hc hk s m args below hf happ hP hK
  exact ⟨t, o, h1, h2, h3, ⟨⟨v, h', q1, hp v h' q2, q3⟩, q4⟩⟩
theorem sx_R.mono {y : sx_Y} {k : Nat × Nat × Nat} {L : Nat} {xs : Nat → Int32} {av : List sx_v} {h : sx_h} {post post2 : Option sx_v → sx_h → Prop} (hR : sx_R y k L xs av h post) (hp : ∀ v h', post v h' → post2 v h') : sx_R y k L xs av h post2 := fun lc D dA b base => sx_Met_mono (hR lc D dA b base) hp
