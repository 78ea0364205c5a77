theorem sx_icmp_eqs {y : sx_Y} {k : Nat × Nat × Nat} {L : Nat} {xs : Nat → Int32} {cs : Nat × Nat} {pc : Nat} {l : List (Option sx_v)} {st : List sx_v} {h : sx_h} {post : Option sx_v → sx_h → Prop} {z : Int} {off : Int} {tgt : Nat} (hd : decode y.2.1 pc = .ok (.if_icmp .eq off, 3)) (ht : (pc : Int) + off = (tgt : Int)) (kt : sx_V y k L xs cs tgt l st h post) : sx_V y k L xs cs pc l (.inl z :: .inl z :: st) h post := by
  intro p lc e R s m args below meth c D dA b base Q hC hR hk H locs ls hH hL
  exact lv_icmp_eq hC.1.1 hC.1.2.1 hd ht (fun q => kt p lc e R s m args below meth c D dA b base Q hC hR hk H locs ls hH hL) (fun q => absurd rfl q)
def sx_h0 : sx_h := gh 0 zM []
set_option maxRecDepth 100000 in
set_option maxHeartbeats 4000000 in
theorem z_crew {L : Nat} {xs : Nat → Int32} (hL : L ≤ 3072) (i : Nat) (hi : i + 6 ≤ L) (hK : ∀ M, MRE M → sx_V y_Z_law (100, 1000, 100000) L xs (79, 4581) 965 [some (sx_p 0), some (sx_p 1), some (sx_p 51), some (.inl (i : Int))] [] (gm M) (fun v _ => v = some (.inl 1))) (M : Nat → Nat → Int) (hE : MRE M) : sx_V y_Z_law (100, 1000, 100000) L xs (79, 4581) 148 [some (sx_p 0), some (sx_p 1), some (sx_p 51), some (.inl (i : Int))] [] (gm M) (fun v _ => v = some (.inl 1)) := by
  refine sx_aload_n d_Z_law_148 rfl ?_
  refine sx_aload_n d_Z_law_149 rfl ?_
  refine sx_iload_n d_Z_law_150 rfl ?_
  refine sx_iconst d_Z_law_151 ?_
  refine sx_iadd d_Z_law_152 ?_
  refine sx_sld d_Z_law_153 (by omega) (by omega) (by omega) ?_
  obtain ⟨⟨f1, c1, s1⟩, ⟨hf1, hz1⟩, hC1⟩ := p_crew (L := L) (xs := xs) (sx_i32 (xs (Int.toNat ((i : Int) + 1)))) hE
  cases hz1
  refine sx_callV hC1 d_Z_law_154 cd_T_crew lk_Z_13 im_T_crew se_T_crew (go rfl rfl rfl) rfl rfl (by decide) (st := []) rfl rfl (Nat.le_of_ble_eq_true rfl) ⟨Nat.le_trans (Nat.succ_le_succ hf1) (Nat.le_of_ble_eq_true rfl), Nat.le_of_ble_eq_true rfl, Nat.le_of_ble_eq_true rfl⟩ (fun _ _ hq => ?_)
  obtain ⟨z, M1, ⟨f2, c2, s2⟩, rfl, rfl, ⟨hf2, hz2⟩, hR2⟩ := hq
  cases hz2
  show sx_V _ _ _ _ (79, 4581) _ _ [.inl z] (gm M1) _
  refine sx_aload_n d_Z_law_157 rfl ?_
  refine sx_aload_n d_Z_law_158 rfl ?_
  refine sx_iload_n d_Z_law_159 rfl ?_
  refine sx_iconst d_Z_law_160 ?_
  refine sx_iadd d_Z_law_161 ?_
  refine sx_sld d_Z_law_162 (by omega) (by omega) (by omega) ?_
  refine sx_callV hR2 d_Z_law_163 cd_M_crew lk_Z_17 im_M_crew se_M_crew (go rfl rfl rfl) rfl rfl (by decide) (st := [.inl z]) rfl rfl (Nat.le_of_ble_eq_true rfl) ⟨Nat.le_trans (Nat.succ_le_succ hf2) (Nat.le_of_ble_eq_true rfl), Nat.le_of_ble_eq_true rfl, Nat.le_of_ble_eq_true rfl⟩ (fun _ _ hq => ?_)
  obtain ⟨rfl, M3, rfl, hE3⟩ := hq
  show sx_V _ _ _ _ (79, 4581) _ _ [.inl z, .inl z] (gm M3) _
  refine sx_icmp_eqs (tgt := 965) d_Z_law_166 (by decide) ?_
  exact hK M3 hE3
set_option maxRecDepth 100000 in
set_option maxHeartbeats 4000000 in
theorem z_work {L : Nat} {xs : Nat → Int32} (hL : L ≤ 3072) (i : Nat) (hi : i + 6 ≤ L) (hK : ∀ M, MRE M → sx_V y_Z_law (100, 1000, 100000) L xs (79, 4581) 965 [some (sx_p 0), some (sx_p 1), some (sx_p 51), some (.inl (i : Int))] [] (gm M) (fun v _ => v = some (.inl 1))) (M : Nat → Nat → Int) (hE : MRE M) : sx_V y_Z_law (100, 1000, 100000) L xs (79, 4581) 171 [some (sx_p 0), some (sx_p 1), some (sx_p 51), some (.inl (i : Int))] [] (gm M) (fun v _ => v = some (.inl 1)) := by
  refine sx_aload_n d_Z_law_171 rfl ?_
  refine sx_aload_n d_Z_law_172 rfl ?_
  refine sx_iload_n d_Z_law_173 rfl ?_
  refine sx_iconst d_Z_law_174 ?_
  refine sx_iadd d_Z_law_175 ?_
  refine sx_sld d_Z_law_176 (by omega) (by omega) (by omega) ?_
  refine sx_aload_n d_Z_law_177 rfl ?_
  refine sx_iload_n d_Z_law_178 rfl ?_
  refine sx_iconst d_Z_law_179 ?_
  refine sx_iadd d_Z_law_180 ?_
  refine sx_sld d_Z_law_181 (by omega) (by omega) (by omega) ?_
  refine sx_aload_n d_Z_law_182 rfl ?_
  refine sx_iload_n d_Z_law_183 rfl ?_
  refine sx_iconst d_Z_law_184 ?_
  refine sx_iadd d_Z_law_185 ?_
  refine sx_sld d_Z_law_186 (by omega) (by omega) (by omega) ?_
  refine sx_aload_n d_Z_law_187 rfl ?_
  refine sx_iload_n d_Z_law_188 rfl ?_
  refine sx_iconst d_Z_law_189 ?_
  refine sx_iadd d_Z_law_190 ?_
  refine sx_sld d_Z_law_191 (by omega) (by omega) (by omega) ?_
  refine sx_aload_n d_Z_law_192 rfl ?_
  refine sx_iload_n d_Z_law_193 rfl ?_
  refine sx_iconst d_Z_law_194 ?_
  refine sx_iadd d_Z_law_195 ?_
  refine sx_sld d_Z_law_196 (by omega) (by omega) (by omega) ?_
  refine sx_if_eq (tgt := 204) d_Z_law_197 (by decide) (sx_i32 _) (fun hb1 => ?_) (fun hb1 => ?_)
  · refine sx_iconst d_Z_law_204 ?_
    obtain ⟨⟨f1, c1, s1⟩, ⟨hf1, hz1⟩, hC1⟩ := p_work (L := L) (xs := xs) (sx_i32 (xs (Int.toNat ((i : Int) + 1)))) (sx_i32 (xs (Int.toNat ((i : Int) + 2)))) (sx_i32 (xs (Int.toNat ((i : Int) + 3)))) (sx_i32 (xs (Int.toNat ((i : Int) + 4)))) (Or.inl rfl) hE
    cases hz1
    refine sx_callV hC1 d_Z_law_205 cd_T_work lk_Z_18 im_T_work se_T_work (go rfl rfl rfl) rfl rfl (by decide) (st := []) rfl rfl (Nat.le_of_ble_eq_true rfl) ⟨Nat.le_trans (Nat.succ_le_succ hf1) (Nat.le_of_ble_eq_true rfl), Nat.le_of_ble_eq_true rfl, Nat.le_of_ble_eq_true rfl⟩ (fun _ _ hq => ?_)
    obtain ⟨z, M1, ⟨f2, c2, s2⟩, rfl, rfl, ⟨hf2, hz2⟩, hR2⟩ := hq
    cases hz2
    show sx_V _ _ _ _ (79, 4581) _ _ [.inl z] (gm M1) _
    refine sx_aload_n d_Z_law_208 rfl ?_
    refine sx_aload_n d_Z_law_209 rfl ?_
    refine sx_iload_n d_Z_law_210 rfl ?_
    refine sx_iconst d_Z_law_211 ?_
    refine sx_iadd d_Z_law_212 ?_
    refine sx_sld d_Z_law_213 (by omega) (by omega) (by omega) ?_
    refine sx_aload_n d_Z_law_214 rfl ?_
    refine sx_iload_n d_Z_law_215 rfl ?_
    refine sx_iconst d_Z_law_216 ?_
    refine sx_iadd d_Z_law_217 ?_
    refine sx_sld d_Z_law_218 (by omega) (by omega) (by omega) ?_
    refine sx_aload_n d_Z_law_219 rfl ?_
    refine sx_iload_n d_Z_law_220 rfl ?_
    refine sx_iconst d_Z_law_221 ?_
    refine sx_iadd d_Z_law_222 ?_
    refine sx_sld d_Z_law_223 (by omega) (by omega) (by omega) ?_
    refine sx_aload_n d_Z_law_224 rfl ?_
    refine sx_iload_n d_Z_law_225 rfl ?_
    refine sx_iconst d_Z_law_226 ?_
    refine sx_iadd d_Z_law_227 ?_
    refine sx_sld d_Z_law_228 (by omega) (by omega) (by omega) ?_
    refine sx_aload_n d_Z_law_229 rfl ?_
    refine sx_iload_n d_Z_law_230 rfl ?_
    refine sx_iconst d_Z_law_231 ?_
    refine sx_iadd d_Z_law_232 ?_
    refine sx_sld d_Z_law_233 (by omega) (by omega) (by omega) ?_
    refine sx_if_eq (tgt := 241) d_Z_law_234 (by decide) (sx_i32 _) (fun _ => ?_) (fun q => absurd hb1 q)
    refine sx_iconst d_Z_law_241 ?_
    refine sx_callV hR2 d_Z_law_242 cd_M_work lk_Z_22 im_M_work se_M_work (go rfl rfl rfl) rfl rfl (by decide) (st := [.inl z]) rfl rfl (Nat.le_of_ble_eq_true rfl) ⟨Nat.le_trans (Nat.succ_le_succ hf2) (Nat.le_of_ble_eq_true rfl), Nat.le_of_ble_eq_true rfl, Nat.le_of_ble_eq_true rfl⟩ (fun _ _ hq => ?_)
    obtain ⟨rfl, M3, rfl, hE3⟩ := hq
    show sx_V _ _ _ _ (79, 4581) _ _ [.inl z, .inl z] (gm M3) _
    refine sx_icmp_eqs (tgt := 965) d_Z_law_245 (by decide) ?_
    exact hK M3 hE3
  · refine sx_iconst d_Z_law_200 ?_
    refine sx_goto (tgt := 205) d_Z_law_201 (by decide) ?_
    obtain ⟨⟨f1, c1, s1⟩, ⟨hf1, hz1⟩, hC1⟩ := p_work (L := L) (xs := xs) (sx_i32 (xs (Int.toNat ((i : Int) + 1)))) (sx_i32 (xs (Int.toNat ((i : Int) + 2)))) (sx_i32 (xs (Int.toNat ((i : Int) + 3)))) (sx_i32 (xs (Int.toNat ((i : Int) + 4)))) (Or.inr rfl) hE
    cases hz1
    refine sx_callV hC1 d_Z_law_205 cd_T_work lk_Z_18 im_T_work se_T_work (go rfl rfl rfl) rfl rfl (by decide) (st := []) rfl rfl (Nat.le_of_ble_eq_true rfl) ⟨Nat.le_trans (Nat.succ_le_succ hf1) (Nat.le_of_ble_eq_true rfl), Nat.le_of_ble_eq_true rfl, Nat.le_of_ble_eq_true rfl⟩ (fun _ _ hq => ?_)
    obtain ⟨z, M1, ⟨f2, c2, s2⟩, rfl, rfl, ⟨hf2, hz2⟩, hR2⟩ := hq
    cases hz2
    show sx_V _ _ _ _ (79, 4581) _ _ [.inl z] (gm M1) _
    refine sx_aload_n d_Z_law_208 rfl ?_
    refine sx_aload_n d_Z_law_209 rfl ?_
    refine sx_iload_n d_Z_law_210 rfl ?_
    refine sx_iconst d_Z_law_211 ?_
    refine sx_iadd d_Z_law_212 ?_
    refine sx_sld d_Z_law_213 (by omega) (by omega) (by omega) ?_
    refine sx_aload_n d_Z_law_214 rfl ?_
    refine sx_iload_n d_Z_law_215 rfl ?_
    refine sx_iconst d_Z_law_216 ?_
    refine sx_iadd d_Z_law_217 ?_
    refine sx_sld d_Z_law_218 (by omega) (by omega) (by omega) ?_
    refine sx_aload_n d_Z_law_219 rfl ?_
    refine sx_iload_n d_Z_law_220 rfl ?_
    refine sx_iconst d_Z_law_221 ?_
    refine sx_iadd d_Z_law_222 ?_
    refine sx_sld d_Z_law_223 (by omega) (by omega) (by omega) ?_
    refine sx_aload_n d_Z_law_224 rfl ?_
    refine sx_iload_n d_Z_law_225 rfl ?_
    refine sx_iconst d_Z_law_226 ?_
    refine sx_iadd d_Z_law_227 ?_
    refine sx_sld d_Z_law_228 (by omega) (by omega) (by omega) ?_
    refine sx_aload_n d_Z_law_229 rfl ?_
    refine sx_iload_n d_Z_law_230 rfl ?_
    refine sx_iconst d_Z_law_231 ?_
    refine sx_iadd d_Z_law_232 ?_
    refine sx_sld d_Z_law_233 (by omega) (by omega) (by omega) ?_
    refine sx_if_eq (tgt := 241) d_Z_law_234 (by decide) (sx_i32 _) (fun q => absurd q hb1) (fun _ => ?_)
    refine sx_iconst d_Z_law_237 ?_
    refine sx_goto (tgt := 242) d_Z_law_238 (by decide) ?_
    refine sx_callV hR2 d_Z_law_242 cd_M_work lk_Z_22 im_M_work se_M_work (go rfl rfl rfl) rfl rfl (by decide) (st := [.inl z]) rfl rfl (Nat.le_of_ble_eq_true rfl) ⟨Nat.le_trans (Nat.succ_le_succ hf2) (Nat.le_of_ble_eq_true rfl), Nat.le_of_ble_eq_true rfl, Nat.le_of_ble_eq_true rfl⟩ (fun _ _ hq => ?_)
    obtain ⟨rfl, M3, rfl, hE3⟩ := hq
    show sx_V _ _ _ _ (79, 4581) _ _ [.inl z, .inl z] (gm M3) _
    refine sx_icmp_eqs (tgt := 965) d_Z_law_245 (by decide) ?_
    exact hK M3 hE3
set_option maxRecDepth 100000 in
set_option maxHeartbeats 4000000 in
theorem z_after {L : Nat} {xs : Nat → Int32} (hL : L ≤ 3072) (i : Nat) (hi : i + 6 ≤ L) (hK : ∀ M, MRE M → sx_V y_Z_law (100, 1000, 100000) L xs (79, 4581) 965 [some (sx_p 0), some (sx_p 1), some (sx_p 51), some (.inl (i : Int))] [] (gm M) (fun v _ => v = some (.inl 1))) (M : Nat → Nat → Int) (hE : MRE M) : sx_V y_Z_law (100, 1000, 100000) L xs (79, 4581) 250 [some (sx_p 0), some (sx_p 1), some (sx_p 51), some (.inl (i : Int))] [] (gm M) (fun v _ => v = some (.inl 1)) := by
  refine sx_aload_n d_Z_law_250 rfl ?_
  refine sx_aload_n d_Z_law_251 rfl ?_
  refine sx_iload_n d_Z_law_252 rfl ?_
  refine sx_iconst d_Z_law_253 ?_
  refine sx_iadd d_Z_law_254 ?_
  refine sx_sld d_Z_law_255 (by omega) (by omega) (by omega) ?_
  refine sx_aload_n d_Z_law_256 rfl ?_
  refine sx_iload_n d_Z_law_257 rfl ?_
  refine sx_iconst d_Z_law_258 ?_
  refine sx_iadd d_Z_law_259 ?_
  refine sx_sld d_Z_law_260 (by omega) (by omega) (by omega) ?_
  refine sx_aload_n d_Z_law_261 rfl ?_
  refine sx_iload_n d_Z_law_262 rfl ?_
  refine sx_iconst d_Z_law_263 ?_
  refine sx_iadd d_Z_law_264 ?_
  refine sx_sld d_Z_law_265 (by omega) (by omega) (by omega) ?_
  obtain ⟨⟨f1, c1, s1⟩, ⟨hf1, hz1⟩, hC1⟩ := p_after (L := L) (xs := xs) (sx_i32 (xs (Int.toNat ((i : Int) + 1)))) (sx_i32 (xs (Int.toNat ((i : Int) + 2)))) (sx_i32 (xs (Int.toNat ((i : Int) + 3)))) hE
  cases hz1
  refine sx_callV hC1 d_Z_law_266 cd_T_after lk_Z_23 im_T_after se_T_after (go rfl rfl rfl) rfl rfl (by decide) (st := []) rfl rfl (Nat.le_of_ble_eq_true rfl) ⟨Nat.le_trans (Nat.succ_le_succ hf1) (Nat.le_of_ble_eq_true rfl), Nat.le_of_ble_eq_true rfl, Nat.le_of_ble_eq_true rfl⟩ (fun _ _ hq => ?_)
  obtain ⟨z, M1, ⟨f2, c2, s2⟩, rfl, rfl, ⟨hf2, hz2⟩, hR2⟩ := hq
  cases hz2
  show sx_V _ _ _ _ (79, 4581) _ _ [.inl z] (gm M1) _
  refine sx_aload_n d_Z_law_269 rfl ?_
  refine sx_aload_n d_Z_law_270 rfl ?_
  refine sx_iload_n d_Z_law_271 rfl ?_
  refine sx_iconst d_Z_law_272 ?_
  refine sx_iadd d_Z_law_273 ?_
  refine sx_sld d_Z_law_274 (by omega) (by omega) (by omega) ?_
  refine sx_aload_n d_Z_law_275 rfl ?_
  refine sx_iload_n d_Z_law_276 rfl ?_
  refine sx_iconst d_Z_law_277 ?_
  refine sx_iadd d_Z_law_278 ?_
  refine sx_sld d_Z_law_279 (by omega) (by omega) (by omega) ?_
  refine sx_aload_n d_Z_law_280 rfl ?_
  refine sx_iload_n d_Z_law_281 rfl ?_
  refine sx_iconst d_Z_law_282 ?_
  refine sx_iadd d_Z_law_283 ?_
  refine sx_sld d_Z_law_284 (by omega) (by omega) (by omega) ?_
  refine sx_callV hR2 d_Z_law_285 cd_M_after lk_Z_27 im_M_after se_M_after (go rfl rfl rfl) rfl rfl (by decide) (st := [.inl z]) rfl rfl (Nat.le_of_ble_eq_true rfl) ⟨Nat.le_trans (Nat.succ_le_succ hf2) (Nat.le_of_ble_eq_true rfl), Nat.le_of_ble_eq_true rfl, Nat.le_of_ble_eq_true rfl⟩ (fun _ _ hq => ?_)
  obtain ⟨rfl, M3, rfl, hE3⟩ := hq
  show sx_V _ _ _ _ (79, 4581) _ _ [.inl z, .inl z] (gm M3) _
  refine sx_icmp_eqs (tgt := 965) d_Z_law_288 (by decide) ?_
  exact hK M3 hE3
set_option maxRecDepth 100000 in
set_option maxHeartbeats 4000000 in
theorem z_season {L : Nat} {xs : Nat → Int32} (hL : L ≤ 3072) (i : Nat) (hi : i + 6 ≤ L) (hK : ∀ M, MRE M → sx_V y_Z_law (100, 1000, 100000) L xs (79, 4581) 965 [some (sx_p 0), some (sx_p 1), some (sx_p 51), some (.inl (i : Int))] [] (gm M) (fun v _ => v = some (.inl 1))) (M : Nat → Nat → Int) (hE : MRE M) : sx_V y_Z_law (100, 1000, 100000) L xs (79, 4581) 293 [some (sx_p 0), some (sx_p 1), some (sx_p 51), some (.inl (i : Int))] [] (gm M) (fun v _ => v = some (.inl 1)) := by
  refine sx_aload_n d_Z_law_293 rfl ?_
  refine sx_aload_n d_Z_law_294 rfl ?_
  refine sx_iload_n d_Z_law_295 rfl ?_
  refine sx_iconst d_Z_law_296 ?_
  refine sx_iadd d_Z_law_297 ?_
  refine sx_sld d_Z_law_298 (by omega) (by omega) (by omega) ?_
  refine sx_aload_n d_Z_law_299 rfl ?_
  refine sx_iload_n d_Z_law_300 rfl ?_
  refine sx_iconst d_Z_law_301 ?_
  refine sx_iadd d_Z_law_302 ?_
  refine sx_sld d_Z_law_303 (by omega) (by omega) (by omega) ?_
  refine sx_aload_n d_Z_law_304 rfl ?_
  refine sx_iload_n d_Z_law_305 rfl ?_
  refine sx_iconst d_Z_law_306 ?_
  refine sx_iadd d_Z_law_307 ?_
  refine sx_sld d_Z_law_308 (by omega) (by omega) (by omega) ?_
  obtain ⟨⟨f1, c1, s1⟩, ⟨hf1, hz1⟩, hC1⟩ := p_season (L := L) (xs := xs) (sx_i32 (xs (Int.toNat ((i : Int) + 1)))) (sx_i32 (xs (Int.toNat ((i : Int) + 2)))) (sx_i32 (xs (Int.toNat ((i : Int) + 3)))) hE
  cases hz1
  refine sx_callV hC1 d_Z_law_309 cd_T_season lk_Z_28 im_T_season se_T_season (go rfl rfl rfl) rfl rfl (by decide) (st := []) rfl rfl (Nat.le_of_ble_eq_true rfl) ⟨Nat.le_trans (Nat.succ_le_succ hf1) (Nat.le_of_ble_eq_true rfl), Nat.le_of_ble_eq_true rfl, Nat.le_of_ble_eq_true rfl⟩ (fun _ _ hq => ?_)
  obtain ⟨z, M1, ⟨f2, c2, s2⟩, rfl, rfl, ⟨hf2, hz2⟩, hR2⟩ := hq
  cases hz2
  show sx_V _ _ _ _ (79, 4581) _ _ [.inl z] (gm M1) _
  refine sx_aload_n d_Z_law_312 rfl ?_
  refine sx_aload_n d_Z_law_313 rfl ?_
  refine sx_iload_n d_Z_law_314 rfl ?_
  refine sx_iconst d_Z_law_315 ?_
  refine sx_iadd d_Z_law_316 ?_
  refine sx_sld d_Z_law_317 (by omega) (by omega) (by omega) ?_
  refine sx_aload_n d_Z_law_318 rfl ?_
  refine sx_iload_n d_Z_law_319 rfl ?_
  refine sx_iconst d_Z_law_320 ?_
  refine sx_iadd d_Z_law_321 ?_
  refine sx_sld d_Z_law_322 (by omega) (by omega) (by omega) ?_
  refine sx_aload_n d_Z_law_323 rfl ?_
  refine sx_iload_n d_Z_law_324 rfl ?_
  refine sx_iconst d_Z_law_325 ?_
  refine sx_iadd d_Z_law_326 ?_
  refine sx_sld d_Z_law_327 (by omega) (by omega) (by omega) ?_
  refine sx_callV hR2 d_Z_law_328 cd_M_season lk_Z_31 im_M_season se_M_season (go rfl rfl rfl) rfl rfl (by decide) (st := [.inl z]) rfl rfl (Nat.le_of_ble_eq_true rfl) ⟨Nat.le_trans (Nat.succ_le_succ hf2) (Nat.le_of_ble_eq_true rfl), Nat.le_of_ble_eq_true rfl, Nat.le_of_ble_eq_true rfl⟩ (fun _ _ hq => ?_)
  obtain ⟨rfl, M3, rfl, hE3⟩ := hq
  show sx_V _ _ _ _ (79, 4581) _ _ [.inl z, .inl z] (gm M3) _
  refine sx_icmp_eqs (tgt := 965) d_Z_law_331 (by decide) ?_
  exact hK M3 hE3
set_option maxRecDepth 100000 in
set_option maxHeartbeats 4000000 in
theorem z_bar {L : Nat} {xs : Nat → Int32} (hL : L ≤ 3072) (i : Nat) (hi : i + 6 ≤ L) (hK : ∀ M, MRE M → sx_V y_Z_law (100, 1000, 100000) L xs (79, 4581) 965 [some (sx_p 0), some (sx_p 1), some (sx_p 51), some (.inl (i : Int))] [] (gm M) (fun v _ => v = some (.inl 1))) (M : Nat → Nat → Int) (hE : MRE M) : sx_V y_Z_law (100, 1000, 100000) L xs (79, 4581) 336 [some (sx_p 0), some (sx_p 1), some (sx_p 51), some (.inl (i : Int))] [] (gm M) (fun v _ => v = some (.inl 1)) := by
  refine sx_aload_n d_Z_law_336 rfl ?_
  refine sx_aload_n d_Z_law_337 rfl ?_
  refine sx_iload_n d_Z_law_338 rfl ?_
  refine sx_iconst d_Z_law_339 ?_
  refine sx_iadd d_Z_law_340 ?_
  refine sx_sld d_Z_law_341 (by omega) (by omega) (by omega) ?_
  refine sx_aload_n d_Z_law_342 rfl ?_
  refine sx_iload_n d_Z_law_343 rfl ?_
  refine sx_iconst d_Z_law_344 ?_
  refine sx_iadd d_Z_law_345 ?_
  refine sx_sld d_Z_law_346 (by omega) (by omega) (by omega) ?_
  refine sx_aload_n d_Z_law_347 rfl ?_
  refine sx_iload_n d_Z_law_348 rfl ?_
  refine sx_iconst d_Z_law_349 ?_
  refine sx_iadd d_Z_law_350 ?_
  refine sx_sld d_Z_law_351 (by omega) (by omega) (by omega) ?_
  obtain ⟨⟨f1, c1, s1⟩, ⟨hf1, hz1⟩, hC1⟩ := p_bar (L := L) (xs := xs) (sx_i32 (xs (Int.toNat ((i : Int) + 1)))) (sx_i32 (xs (Int.toNat ((i : Int) + 2)))) (sx_i32 (xs (Int.toNat ((i : Int) + 3)))) hE
  cases hz1
  refine sx_callV hC1 d_Z_law_352 cd_T_bar lk_Z_32 im_T_bar se_T_bar (go rfl rfl rfl) rfl rfl (by decide) (st := []) rfl rfl (Nat.le_of_ble_eq_true rfl) ⟨Nat.le_trans (Nat.succ_le_succ hf1) (Nat.le_of_ble_eq_true rfl), Nat.le_of_ble_eq_true rfl, Nat.le_of_ble_eq_true rfl⟩ (fun _ _ hq => ?_)
  obtain ⟨z, M1, ⟨f2, c2, s2⟩, rfl, rfl, ⟨hf2, hz2⟩, hR2⟩ := hq
  cases hz2
  show sx_V _ _ _ _ (79, 4581) _ _ [.inl z] (gm M1) _
  refine sx_aload_n d_Z_law_355 rfl ?_
  refine sx_aload_n d_Z_law_356 rfl ?_
  refine sx_iload_n d_Z_law_357 rfl ?_
  refine sx_iconst d_Z_law_358 ?_
  refine sx_iadd d_Z_law_359 ?_
  refine sx_sld d_Z_law_360 (by omega) (by omega) (by omega) ?_
  refine sx_aload_n d_Z_law_361 rfl ?_
  refine sx_iload_n d_Z_law_362 rfl ?_
  refine sx_iconst d_Z_law_363 ?_
  refine sx_iadd d_Z_law_364 ?_
  refine sx_sld d_Z_law_365 (by omega) (by omega) (by omega) ?_
  refine sx_aload_n d_Z_law_366 rfl ?_
  refine sx_iload_n d_Z_law_367 rfl ?_
  refine sx_iconst d_Z_law_368 ?_
  refine sx_iadd d_Z_law_369 ?_
  refine sx_sld d_Z_law_370 (by omega) (by omega) (by omega) ?_
  refine sx_callV hR2 d_Z_law_371 cd_M_bar lk_Z_35 im_M_bar se_M_bar (go rfl rfl rfl) rfl rfl (by decide) (st := [.inl z]) rfl rfl (Nat.le_of_ble_eq_true rfl) ⟨Nat.le_trans (Nat.succ_le_succ hf2) (Nat.le_of_ble_eq_true rfl), Nat.le_of_ble_eq_true rfl, Nat.le_of_ble_eq_true rfl⟩ (fun _ _ hq => ?_)
  obtain ⟨rfl, M3, rfl, hE3⟩ := hq
  show sx_V _ _ _ _ (79, 4581) _ _ [.inl z, .inl z] (gm M3) _
  refine sx_icmp_eqs (tgt := 965) d_Z_law_374 (by decide) ?_
  exact hK M3 hE3
set_option maxRecDepth 100000 in
set_option maxHeartbeats 4000000 in
theorem z_rest {L : Nat} {xs : Nat → Int32} (hL : L ≤ 3072) (i : Nat) (hi : i + 6 ≤ L) (hK : ∀ M, MRE M → sx_V y_Z_law (100, 1000, 100000) L xs (79, 4581) 965 [some (sx_p 0), some (sx_p 1), some (sx_p 51), some (.inl (i : Int))] [] (gm M) (fun v _ => v = some (.inl 1))) (M : Nat → Nat → Int) (hE : MRE M) : sx_V y_Z_law (100, 1000, 100000) L xs (79, 4581) 379 [some (sx_p 0), some (sx_p 1), some (sx_p 51), some (.inl (i : Int))] [] (gm M) (fun v _ => v = some (.inl 1)) := by
  refine sx_aload_n d_Z_law_379 rfl ?_
  refine sx_aload_n d_Z_law_380 rfl ?_
  refine sx_iload_n d_Z_law_381 rfl ?_
  refine sx_iconst d_Z_law_382 ?_
  refine sx_iadd d_Z_law_383 ?_
  refine sx_sld d_Z_law_384 (by omega) (by omega) (by omega) ?_
  obtain ⟨⟨f1, c1, s1⟩, ⟨hf1, hz1⟩, hC1⟩ := p_rest (L := L) (xs := xs) (sx_i32 (xs (Int.toNat ((i : Int) + 1)))) hE
  cases hz1
  refine sx_callV hC1 d_Z_law_385 cd_T_rest lk_Z_36 im_T_rest se_T_rest (go rfl rfl rfl) rfl rfl (by decide) (st := []) rfl rfl (Nat.le_of_ble_eq_true rfl) ⟨Nat.le_trans (Nat.succ_le_succ hf1) (Nat.le_of_ble_eq_true rfl), Nat.le_of_ble_eq_true rfl, Nat.le_of_ble_eq_true rfl⟩ (fun _ _ hq => ?_)
  obtain ⟨z, M1, ⟨f2, c2, s2⟩, rfl, rfl, ⟨hf2, hz2⟩, hR2⟩ := hq
  cases hz2
  show sx_V _ _ _ _ (79, 4581) _ _ [.inl z] (gm M1) _
  refine sx_aload_n d_Z_law_388 rfl ?_
  refine sx_aload_n d_Z_law_389 rfl ?_
  refine sx_iload_n d_Z_law_390 rfl ?_
  refine sx_iconst d_Z_law_391 ?_
  refine sx_iadd d_Z_law_392 ?_
  refine sx_sld d_Z_law_393 (by omega) (by omega) (by omega) ?_
  refine sx_callV hR2 d_Z_law_394 cd_M_rest lk_Z_40 im_M_rest se_M_rest (go rfl rfl rfl) rfl rfl (by decide) (st := [.inl z]) rfl rfl (Nat.le_of_ble_eq_true rfl) ⟨Nat.le_trans (Nat.succ_le_succ hf2) (Nat.le_of_ble_eq_true rfl), Nat.le_of_ble_eq_true rfl, Nat.le_of_ble_eq_true rfl⟩ (fun _ _ hq => ?_)
  obtain ⟨rfl, M3, rfl, hE3⟩ := hq
  show sx_V _ _ _ _ (79, 4581) _ _ [.inl z, .inl z] (gm M3) _
  refine sx_icmp_eqs (tgt := 965) d_Z_law_397 (by decide) ?_
  exact hK M3 hE3
set_option maxRecDepth 100000 in
set_option maxHeartbeats 4000000 in
theorem z_most {L : Nat} {xs : Nat → Int32} (hL : L ≤ 3072) (i : Nat) (hi : i + 6 ≤ L) (hK : ∀ M, MRE M → sx_V y_Z_law (100, 1000, 100000) L xs (79, 4581) 965 [some (sx_p 0), some (sx_p 1), some (sx_p 51), some (.inl (i : Int))] [] (gm M) (fun v _ => v = some (.inl 1))) (M : Nat → Nat → Int) (hE : MRE M) : sx_V y_Z_law (100, 1000, 100000) L xs (79, 4581) 402 [some (sx_p 0), some (sx_p 1), some (sx_p 51), some (.inl (i : Int))] [] (gm M) (fun v _ => v = some (.inl 1)) := by
  refine sx_aload_n d_Z_law_402 rfl ?_
  refine sx_aload_n d_Z_law_403 rfl ?_
  refine sx_iload_n d_Z_law_404 rfl ?_
  refine sx_iconst d_Z_law_405 ?_
  refine sx_iadd d_Z_law_406 ?_
  refine sx_sld d_Z_law_407 (by omega) (by omega) (by omega) ?_
  refine sx_aload_n d_Z_law_408 rfl ?_
  refine sx_iload_n d_Z_law_409 rfl ?_
  refine sx_iconst d_Z_law_410 ?_
  refine sx_iadd d_Z_law_411 ?_
  refine sx_sld d_Z_law_412 (by omega) (by omega) (by omega) ?_
  obtain ⟨⟨f1, c1, s1⟩, ⟨hf1, hz1⟩, hC1⟩ := p_most (L := L) (xs := xs) (sx_i32 (xs (Int.toNat ((i : Int) + 1)))) (sx_i32 (xs (Int.toNat ((i : Int) + 2)))) hE
  cases hz1
  refine sx_callV hC1 d_Z_law_413 cd_T_most lk_Z_41 im_T_most se_T_most (go rfl rfl rfl) rfl rfl (by decide) (st := []) rfl rfl (Nat.le_of_ble_eq_true rfl) ⟨Nat.le_trans (Nat.succ_le_succ hf1) (Nat.le_of_ble_eq_true rfl), Nat.le_of_ble_eq_true rfl, Nat.le_of_ble_eq_true rfl⟩ (fun _ _ hq => ?_)
  obtain ⟨z, M1, ⟨f2, c2, s2⟩, rfl, rfl, ⟨hf2, hz2⟩, hR2⟩ := hq
  cases hz2
  show sx_V _ _ _ _ (79, 4581) _ _ [.inl z] (gm M1) _
  refine sx_aload_n d_Z_law_416 rfl ?_
  refine sx_aload_n d_Z_law_417 rfl ?_
  refine sx_iload_n d_Z_law_418 rfl ?_
  refine sx_iconst d_Z_law_419 ?_
  refine sx_iadd d_Z_law_420 ?_
  refine sx_sld d_Z_law_421 (by omega) (by omega) (by omega) ?_
  refine sx_aload_n d_Z_law_422 rfl ?_
  refine sx_iload_n d_Z_law_423 rfl ?_
  refine sx_iconst d_Z_law_424 ?_
  refine sx_iadd d_Z_law_425 ?_
  refine sx_sld d_Z_law_426 (by omega) (by omega) (by omega) ?_
  refine sx_callV hR2 d_Z_law_427 cd_M_most lk_Z_45 im_M_most se_M_most (go rfl rfl rfl) rfl rfl (by decide) (st := [.inl z]) rfl rfl (Nat.le_of_ble_eq_true rfl) ⟨Nat.le_trans (Nat.succ_le_succ hf2) (Nat.le_of_ble_eq_true rfl), Nat.le_of_ble_eq_true rfl, Nat.le_of_ble_eq_true rfl⟩ (fun _ _ hq => ?_)
  obtain ⟨rfl, M3, rfl, hE3⟩ := hq
  show sx_V _ _ _ _ (79, 4581) _ _ [.inl z, .inl z] (gm M3) _
  refine sx_icmp_eqs (tgt := 965) d_Z_law_430 (by decide) ?_
  exact hK M3 hE3
set_option maxRecDepth 100000 in
set_option maxHeartbeats 4000000 in
theorem z_learned {L : Nat} {xs : Nat → Int32} (hL : L ≤ 3072) (i : Nat) (hi : i + 6 ≤ L) (hK : ∀ M, MRE M → sx_V y_Z_law (100, 1000, 100000) L xs (79, 4581) 965 [some (sx_p 0), some (sx_p 1), some (sx_p 51), some (.inl (i : Int))] [] (gm M) (fun v _ => v = some (.inl 1))) (M : Nat → Nat → Int) (hE : MRE M) : sx_V y_Z_law (100, 1000, 100000) L xs (79, 4581) 435 [some (sx_p 0), some (sx_p 1), some (sx_p 51), some (.inl (i : Int))] [] (gm M) (fun v _ => v = some (.inl 1)) := by
  refine sx_aload_n d_Z_law_435 rfl ?_
  refine sx_aload_n d_Z_law_436 rfl ?_
  refine sx_iload_n d_Z_law_437 rfl ?_
  refine sx_iconst d_Z_law_438 ?_
  refine sx_iadd d_Z_law_439 ?_
  refine sx_sld d_Z_law_440 (by omega) (by omega) (by omega) ?_
  refine sx_aload_n d_Z_law_441 rfl ?_
  refine sx_iload_n d_Z_law_442 rfl ?_
  refine sx_iconst d_Z_law_443 ?_
  refine sx_iadd d_Z_law_444 ?_
  refine sx_sld d_Z_law_445 (by omega) (by omega) (by omega) ?_
  refine sx_aload_n d_Z_law_446 rfl ?_
  refine sx_iload_n d_Z_law_447 rfl ?_
  refine sx_iconst d_Z_law_448 ?_
  refine sx_iadd d_Z_law_449 ?_
  refine sx_sld d_Z_law_450 (by omega) (by omega) (by omega) ?_
  obtain ⟨⟨f1, c1, s1⟩, ⟨hf1, hz1⟩, hC1⟩ := p_learned (L := L) (xs := xs) (sx_i32 (xs (Int.toNat ((i : Int) + 1)))) (sx_i32 (xs (Int.toNat ((i : Int) + 2)))) (sx_i32 (xs (Int.toNat ((i : Int) + 3)))) hE
  cases hz1
  refine sx_callV hC1 d_Z_law_451 cd_T_learned lk_Z_46 im_T_learned se_T_learned (go rfl rfl rfl) rfl rfl (by decide) (st := []) rfl rfl (Nat.le_of_ble_eq_true rfl) ⟨Nat.le_trans (Nat.succ_le_succ hf1) (Nat.le_of_ble_eq_true rfl), Nat.le_of_ble_eq_true rfl, Nat.le_of_ble_eq_true rfl⟩ (fun _ _ hq => ?_)
  obtain ⟨z, M1, ⟨f2, c2, s2⟩, rfl, rfl, ⟨hf2, hz2⟩, hR2⟩ := hq
  cases hz2
  show sx_V _ _ _ _ (79, 4581) _ _ [.inl z] (gm M1) _
  refine sx_aload_n d_Z_law_454 rfl ?_
  refine sx_aload_n d_Z_law_455 rfl ?_
  refine sx_iload_n d_Z_law_456 rfl ?_
  refine sx_iconst d_Z_law_457 ?_
  refine sx_iadd d_Z_law_458 ?_
  refine sx_sld d_Z_law_459 (by omega) (by omega) (by omega) ?_
  refine sx_aload_n d_Z_law_460 rfl ?_
  refine sx_iload_n d_Z_law_461 rfl ?_
  refine sx_iconst d_Z_law_462 ?_
  refine sx_iadd d_Z_law_463 ?_
  refine sx_sld d_Z_law_464 (by omega) (by omega) (by omega) ?_
  refine sx_aload_n d_Z_law_465 rfl ?_
  refine sx_iload_n d_Z_law_466 rfl ?_
  refine sx_iconst d_Z_law_467 ?_
  refine sx_iadd d_Z_law_468 ?_
  refine sx_sld d_Z_law_469 (by omega) (by omega) (by omega) ?_
  refine sx_callV hR2 d_Z_law_470 cd_M_learned lk_Z_50 im_M_learned se_M_learned (go rfl rfl rfl) rfl rfl (by decide) (st := [.inl z]) rfl rfl (Nat.le_of_ble_eq_true rfl) ⟨Nat.le_trans (Nat.succ_le_succ hf2) (Nat.le_of_ble_eq_true rfl), Nat.le_of_ble_eq_true rfl, Nat.le_of_ble_eq_true rfl⟩ (fun _ _ hq => ?_)
  obtain ⟨rfl, M3, rfl, hE3⟩ := hq
  show sx_V _ _ _ _ (79, 4581) _ _ [.inl z, .inl z] (gm M3) _
  refine sx_icmp_eqs (tgt := 965) d_Z_law_473 (by decide) ?_
  exact hK M3 hE3
set_option maxRecDepth 100000 in
set_option maxHeartbeats 4000000 in
theorem z_run {L : Nat} {xs : Nat → Int32} (hL : L ≤ 3072) (i : Nat) (hi : i + 6 ≤ L) (hK : ∀ M, MRE M → sx_V y_Z_law (100, 1000, 100000) L xs (79, 4581) 965 [some (sx_p 0), some (sx_p 1), some (sx_p 51), some (.inl (i : Int))] [] (gm M) (fun v _ => v = some (.inl 1))) (M : Nat → Nat → Int) (hE : MRE M) : sx_V y_Z_law (100, 1000, 100000) L xs (79, 4581) 478 [some (sx_p 0), some (sx_p 1), some (sx_p 51), some (.inl (i : Int))] [] (gm M) (fun v _ => v = some (.inl 1)) := by
  refine sx_aload_n d_Z_law_478 rfl ?_
  refine sx_aload_n d_Z_law_479 rfl ?_
  refine sx_iload_n d_Z_law_480 rfl ?_
  refine sx_iconst d_Z_law_481 ?_
  refine sx_iadd d_Z_law_482 ?_
  refine sx_sld d_Z_law_483 (by omega) (by omega) (by omega) ?_
  obtain ⟨⟨f1, c1, s1⟩, ⟨hf1, hz1⟩, hC1⟩ := p_run (L := L) (xs := xs) (sx_i32 (xs (Int.toNat ((i : Int) + 1)))) hE
  cases hz1
  refine sx_callV hC1 d_Z_law_484 cd_T_run lk_Z_51 im_T_run se_T_run (go rfl rfl rfl) rfl rfl (by decide) (st := []) rfl rfl (Nat.le_of_ble_eq_true rfl) ⟨Nat.le_trans (Nat.succ_le_succ hf1) (Nat.le_of_ble_eq_true rfl), Nat.le_of_ble_eq_true rfl, Nat.le_of_ble_eq_true rfl⟩ (fun _ _ hq => ?_)
  obtain ⟨z, M1, ⟨f2, c2, s2⟩, rfl, rfl, ⟨hf2, hz2⟩, hR2⟩ := hq
  cases hz2
  show sx_V _ _ _ _ (79, 4581) _ _ [.inl z] (gm M1) _
  refine sx_aload_n d_Z_law_487 rfl ?_
  refine sx_aload_n d_Z_law_488 rfl ?_
  refine sx_iload_n d_Z_law_489 rfl ?_
  refine sx_iconst d_Z_law_490 ?_
  refine sx_iadd d_Z_law_491 ?_
  refine sx_sld d_Z_law_492 (by omega) (by omega) (by omega) ?_
  refine sx_callV hR2 d_Z_law_493 cd_M_run lk_Z_54 im_M_run se_M_run (go rfl rfl rfl) rfl rfl (by decide) (st := [.inl z]) rfl rfl (Nat.le_of_ble_eq_true rfl) ⟨Nat.le_trans (Nat.succ_le_succ hf2) (Nat.le_of_ble_eq_true rfl), Nat.le_of_ble_eq_true rfl, Nat.le_of_ble_eq_true rfl⟩ (fun _ _ hq => ?_)
  obtain ⟨rfl, M3, rfl, hE3⟩ := hq
  show sx_V _ _ _ _ (79, 4581) _ _ [.inl z, .inl z] (gm M3) _
  refine sx_icmp_eqs (tgt := 965) d_Z_law_496 (by decide) ?_
  exact hK M3 hE3
set_option maxRecDepth 100000 in
set_option maxHeartbeats 4000000 in
theorem z_proved {L : Nat} {xs : Nat → Int32} (hL : L ≤ 3072) (i : Nat) (hi : i + 6 ≤ L) (hK : ∀ M, MRE M → sx_V y_Z_law (100, 1000, 100000) L xs (79, 4581) 965 [some (sx_p 0), some (sx_p 1), some (sx_p 51), some (.inl (i : Int))] [] (gm M) (fun v _ => v = some (.inl 1))) (M : Nat → Nat → Int) (hE : MRE M) : sx_V y_Z_law (100, 1000, 100000) L xs (79, 4581) 501 [some (sx_p 0), some (sx_p 1), some (sx_p 51), some (.inl (i : Int))] [] (gm M) (fun v _ => v = some (.inl 1)) := by
  refine sx_aload_n d_Z_law_501 rfl ?_
  obtain ⟨⟨f1, c1, s1⟩, ⟨hf1, hz1⟩, hC1⟩ := p_proved (L := L) (xs := xs)  hE
  cases hz1
  refine sx_callV hC1 d_Z_law_502 cd_T_proved lk_Z_55 im_T_proved se_T_proved (go rfl rfl rfl) rfl rfl (by decide) (st := []) rfl rfl (Nat.le_of_ble_eq_true rfl) ⟨Nat.le_trans (Nat.succ_le_succ hf1) (Nat.le_of_ble_eq_true rfl), Nat.le_of_ble_eq_true rfl, Nat.le_of_ble_eq_true rfl⟩ (fun _ _ hq => ?_)
  obtain ⟨z, M1, ⟨f2, c2, s2⟩, rfl, rfl, ⟨hf2, hz2⟩, hR2⟩ := hq
  cases hz2
  show sx_V _ _ _ _ (79, 4581) _ _ [.inl z] (gm M1) _
  refine sx_aload_n d_Z_law_505 rfl ?_
  refine sx_callV hR2 d_Z_law_506 cd_M_proved lk_Z_59 im_M_proved se_M_proved (go rfl rfl rfl) rfl rfl (by decide) (st := [.inl z]) rfl rfl (Nat.le_of_ble_eq_true rfl) ⟨Nat.le_trans (Nat.succ_le_succ hf2) (Nat.le_of_ble_eq_true rfl), Nat.le_of_ble_eq_true rfl, Nat.le_of_ble_eq_true rfl⟩ (fun _ _ hq => ?_)
  obtain ⟨rfl, M3, rfl, hE3⟩ := hq
  show sx_V _ _ _ _ (79, 4581) _ _ [.inl z, .inl z] (gm M3) _
  refine sx_icmp_eqs (tgt := 965) d_Z_law_509 (by decide) ?_
  exact hK M3 hE3
set_option maxRecDepth 100000 in
set_option maxHeartbeats 4000000 in
theorem z_tried {L : Nat} {xs : Nat → Int32} (hL : L ≤ 3072) (i : Nat) (hi : i + 6 ≤ L) (hK : ∀ M, MRE M → sx_V y_Z_law (100, 1000, 100000) L xs (79, 4581) 965 [some (sx_p 0), some (sx_p 1), some (sx_p 51), some (.inl (i : Int))] [] (gm M) (fun v _ => v = some (.inl 1))) (M : Nat → Nat → Int) (hE : MRE M) : sx_V y_Z_law (100, 1000, 100000) L xs (79, 4581) 514 [some (sx_p 0), some (sx_p 1), some (sx_p 51), some (.inl (i : Int))] [] (gm M) (fun v _ => v = some (.inl 1)) := by
  refine sx_aload_n d_Z_law_514 rfl ?_
  obtain ⟨⟨f1, c1, s1⟩, ⟨hf1, hz1⟩, hC1⟩ := p_tried (L := L) (xs := xs)  hE
  cases hz1
  refine sx_callV hC1 d_Z_law_515 cd_T_tried lk_Z_60 im_T_tried se_T_tried (go rfl rfl rfl) rfl rfl (by decide) (st := []) rfl rfl (Nat.le_of_ble_eq_true rfl) ⟨Nat.le_trans (Nat.succ_le_succ hf1) (Nat.le_of_ble_eq_true rfl), Nat.le_of_ble_eq_true rfl, Nat.le_of_ble_eq_true rfl⟩ (fun _ _ hq => ?_)
  obtain ⟨z, M1, ⟨f2, c2, s2⟩, rfl, rfl, ⟨hf2, hz2⟩, hR2⟩ := hq
  cases hz2
  show sx_V _ _ _ _ (79, 4581) _ _ [.inl z] (gm M1) _
  refine sx_aload_n d_Z_law_518 rfl ?_
  refine sx_callV hR2 d_Z_law_519 cd_M_tried lk_Z_64 im_M_tried se_M_tried (go rfl rfl rfl) rfl rfl (by decide) (st := [.inl z]) rfl rfl (Nat.le_of_ble_eq_true rfl) ⟨Nat.le_trans (Nat.succ_le_succ hf2) (Nat.le_of_ble_eq_true rfl), Nat.le_of_ble_eq_true rfl, Nat.le_of_ble_eq_true rfl⟩ (fun _ _ hq => ?_)
  obtain ⟨rfl, M3, rfl, hE3⟩ := hq
  show sx_V _ _ _ _ (79, 4581) _ _ [.inl z, .inl z] (gm M3) _
  refine sx_icmp_eqs (tgt := 965) d_Z_law_522 (by decide) ?_
  exact hK M3 hE3
set_option maxRecDepth 100000 in
set_option maxHeartbeats 4000000 in
theorem z_told {L : Nat} {xs : Nat → Int32} (hL : L ≤ 3072) (i : Nat) (hi : i + 6 ≤ L) (hK : ∀ M, MRE M → sx_V y_Z_law (100, 1000, 100000) L xs (79, 4581) 965 [some (sx_p 0), some (sx_p 1), some (sx_p 51), some (.inl (i : Int))] [] (gm M) (fun v _ => v = some (.inl 1))) (M : Nat → Nat → Int) (hE : MRE M) : sx_V y_Z_law (100, 1000, 100000) L xs (79, 4581) 527 [some (sx_p 0), some (sx_p 1), some (sx_p 51), some (.inl (i : Int))] [] (gm M) (fun v _ => v = some (.inl 1)) := by
  refine sx_aload_n d_Z_law_527 rfl ?_
  refine sx_aload_n d_Z_law_528 rfl ?_
  refine sx_iload_n d_Z_law_529 rfl ?_
  refine sx_iconst d_Z_law_530 ?_
  refine sx_iadd d_Z_law_531 ?_
  refine sx_sld d_Z_law_532 (by omega) (by omega) (by omega) ?_
  refine sx_aload_n d_Z_law_533 rfl ?_
  refine sx_iload_n d_Z_law_534 rfl ?_
  refine sx_iconst d_Z_law_535 ?_
  refine sx_iadd d_Z_law_536 ?_
  refine sx_sld d_Z_law_537 (by omega) (by omega) (by omega) ?_
  obtain ⟨⟨f1, c1, s1⟩, ⟨hf1, hz1⟩, hC1⟩ := p_told (L := L) (xs := xs) (sx_i32 (xs (Int.toNat ((i : Int) + 1)))) (sx_i32 (xs (Int.toNat ((i : Int) + 2)))) hE
  cases hz1
  refine sx_callV hC1 d_Z_law_538 cd_T_told lk_Z_65 im_T_told se_T_told (go rfl rfl rfl) rfl rfl (by decide) (st := []) rfl rfl (Nat.le_of_ble_eq_true rfl) ⟨Nat.le_trans (Nat.succ_le_succ hf1) (Nat.le_of_ble_eq_true rfl), Nat.le_of_ble_eq_true rfl, Nat.le_of_ble_eq_true rfl⟩ (fun _ _ hq => ?_)
  obtain ⟨z, M1, ⟨f2, c2, s2⟩, rfl, rfl, ⟨hf2, hz2⟩, hR2⟩ := hq
  cases hz2
  show sx_V _ _ _ _ (79, 4581) _ _ [.inl z] (gm M1) _
  refine sx_aload_n d_Z_law_541 rfl ?_
  refine sx_aload_n d_Z_law_542 rfl ?_
  refine sx_iload_n d_Z_law_543 rfl ?_
  refine sx_iconst d_Z_law_544 ?_
  refine sx_iadd d_Z_law_545 ?_
  refine sx_sld d_Z_law_546 (by omega) (by omega) (by omega) ?_
  refine sx_aload_n d_Z_law_547 rfl ?_
  refine sx_iload_n d_Z_law_548 rfl ?_
  refine sx_iconst d_Z_law_549 ?_
  refine sx_iadd d_Z_law_550 ?_
  refine sx_sld d_Z_law_551 (by omega) (by omega) (by omega) ?_
  refine sx_callV hR2 d_Z_law_552 cd_M_told lk_Z_68 im_M_told se_M_told (go rfl rfl rfl) rfl rfl (by decide) (st := [.inl z]) rfl rfl (Nat.le_of_ble_eq_true rfl) ⟨Nat.le_trans (Nat.succ_le_succ hf2) (Nat.le_of_ble_eq_true rfl), Nat.le_of_ble_eq_true rfl, Nat.le_of_ble_eq_true rfl⟩ (fun _ _ hq => ?_)
  obtain ⟨rfl, M3, rfl, hE3⟩ := hq
  show sx_V _ _ _ _ (79, 4581) _ _ [.inl z, .inl z] (gm M3) _
  refine sx_icmp_eqs (tgt := 965) d_Z_law_555 (by decide) ?_
  exact hK M3 hE3
set_option maxRecDepth 100000 in
set_option maxHeartbeats 4000000 in
theorem z_at {L : Nat} {xs : Nat → Int32} (hL : L ≤ 3072) (i : Nat) (hi : i + 6 ≤ L) (hK : ∀ M, MRE M → sx_V y_Z_law (100, 1000, 100000) L xs (79, 4581) 965 [some (sx_p 0), some (sx_p 1), some (sx_p 51), some (.inl (i : Int))] [] (gm M) (fun v _ => v = some (.inl 1))) (M : Nat → Nat → Int) (hE : MRE M) : sx_V y_Z_law (100, 1000, 100000) L xs (79, 4581) 560 [some (sx_p 0), some (sx_p 1), some (sx_p 51), some (.inl (i : Int))] [] (gm M) (fun v _ => v = some (.inl 1)) := by
  refine sx_aload_n d_Z_law_560 rfl ?_
  refine sx_aload_n d_Z_law_561 rfl ?_
  refine sx_iload_n d_Z_law_562 rfl ?_
  refine sx_iconst d_Z_law_563 ?_
  refine sx_iadd d_Z_law_564 ?_
  refine sx_sld d_Z_law_565 (by omega) (by omega) (by omega) ?_
  refine sx_aload_n d_Z_law_566 rfl ?_
  refine sx_iload_n d_Z_law_567 rfl ?_
  refine sx_iconst d_Z_law_568 ?_
  refine sx_iadd d_Z_law_569 ?_
  refine sx_sld d_Z_law_570 (by omega) (by omega) (by omega) ?_
  obtain ⟨⟨f1, c1, s1⟩, ⟨hf1, hz1⟩, hC1⟩ := p_at (L := L) (xs := xs) (sx_i32 (xs (Int.toNat ((i : Int) + 1)))) (sx_i32 (xs (Int.toNat ((i : Int) + 2)))) hE
  cases hz1
  refine sx_callV hC1 d_Z_law_571 cd_T_at lk_Z_69 im_T_at se_T_at (go rfl rfl rfl) rfl rfl (by decide) (st := []) rfl rfl (Nat.le_of_ble_eq_true rfl) ⟨Nat.le_trans (Nat.succ_le_succ hf1) (Nat.le_of_ble_eq_true rfl), Nat.le_of_ble_eq_true rfl, Nat.le_of_ble_eq_true rfl⟩ (fun _ _ hq => ?_)
  obtain ⟨z, M1, ⟨f2, c2, s2⟩, rfl, rfl, ⟨hf2, hz2⟩, hR2⟩ := hq
  cases hz2
  show sx_V _ _ _ _ (79, 4581) _ _ [.inl z] (gm M1) _
  refine sx_aload_n d_Z_law_574 rfl ?_
  refine sx_aload_n d_Z_law_575 rfl ?_
  refine sx_iload_n d_Z_law_576 rfl ?_
  refine sx_iconst d_Z_law_577 ?_
  refine sx_iadd d_Z_law_578 ?_
  refine sx_sld d_Z_law_579 (by omega) (by omega) (by omega) ?_
  refine sx_aload_n d_Z_law_580 rfl ?_
  refine sx_iload_n d_Z_law_581 rfl ?_
  refine sx_iconst d_Z_law_582 ?_
  refine sx_iadd d_Z_law_583 ?_
  refine sx_sld d_Z_law_584 (by omega) (by omega) (by omega) ?_
  refine sx_callV hR2 d_Z_law_585 cd_M_at lk_Z_72 im_M_at se_M_at (go rfl rfl rfl) rfl rfl (by decide) (st := [.inl z]) rfl rfl (Nat.le_of_ble_eq_true rfl) ⟨Nat.le_trans (Nat.succ_le_succ hf2) (Nat.le_of_ble_eq_true rfl), Nat.le_of_ble_eq_true rfl, Nat.le_of_ble_eq_true rfl⟩ (fun _ _ hq => ?_)
  obtain ⟨rfl, M3, rfl, hE3⟩ := hq
  show sx_V _ _ _ _ (79, 4581) _ _ [.inl z, .inl z] (gm M3) _
  refine sx_icmp_eqs (tgt := 965) d_Z_law_588 (by decide) ?_
  exact hK M3 hE3
set_option maxRecDepth 100000 in
set_option maxHeartbeats 4000000 in
theorem z_passes {L : Nat} {xs : Nat → Int32} (hL : L ≤ 3072) (i : Nat) (hi : i + 6 ≤ L) (hK : ∀ M, MRE M → sx_V y_Z_law (100, 1000, 100000) L xs (79, 4581) 965 [some (sx_p 0), some (sx_p 1), some (sx_p 51), some (.inl (i : Int))] [] (gm M) (fun v _ => v = some (.inl 1))) (M : Nat → Nat → Int) (hE : MRE M) : sx_V y_Z_law (100, 1000, 100000) L xs (79, 4581) 593 [some (sx_p 0), some (sx_p 1), some (sx_p 51), some (.inl (i : Int))] [] (gm M) (fun v _ => v = some (.inl 1)) := by
  refine sx_aload_n d_Z_law_593 rfl ?_
  refine sx_aload_n d_Z_law_594 rfl ?_
  refine sx_iload_n d_Z_law_595 rfl ?_
  refine sx_iconst d_Z_law_596 ?_
  refine sx_iadd d_Z_law_597 ?_
  refine sx_sld d_Z_law_598 (by omega) (by omega) (by omega) ?_
  refine sx_aload_n d_Z_law_599 rfl ?_
  refine sx_iload_n d_Z_law_600 rfl ?_
  refine sx_iconst d_Z_law_601 ?_
  refine sx_iadd d_Z_law_602 ?_
  refine sx_sld d_Z_law_603 (by omega) (by omega) (by omega) ?_
  refine sx_aload_n d_Z_law_604 rfl ?_
  refine sx_iload_n d_Z_law_605 rfl ?_
  refine sx_iconst d_Z_law_606 ?_
  refine sx_iadd d_Z_law_607 ?_
  refine sx_sld d_Z_law_608 (by omega) (by omega) (by omega) ?_
  refine sx_if_eq (tgt := 616) d_Z_law_609 (by decide) (sx_i32 _) (fun hb1 => ?_) (fun hb1 => ?_)
  · refine sx_iconst d_Z_law_616 ?_
    refine sx_aload_n d_Z_law_617 rfl ?_
    refine sx_iload_n d_Z_law_618 rfl ?_
    refine sx_iconst d_Z_law_619 ?_
    refine sx_iadd d_Z_law_620 ?_
    refine sx_sld d_Z_law_621 (by omega) (by omega) (by omega) ?_
    obtain ⟨⟨f1, c1, s1⟩, ⟨hf1, hz1⟩, hC1⟩ := p_passes (L := L) (xs := xs) (sx_i32 (xs (Int.toNat ((i : Int) + 1)))) (sx_i32 (xs (Int.toNat ((i : Int) + 2)))) (Or.inl rfl) (sx_i32 (xs (Int.toNat ((i : Int) + 4)))) hE
    cases hz1
    refine sx_callV hC1 d_Z_law_622 cd_T_passes lk_Z_73 im_T_passes se_T_passes (go rfl rfl rfl) rfl rfl (by decide) (st := []) rfl rfl (Nat.le_of_ble_eq_true rfl) ⟨Nat.le_trans (Nat.succ_le_succ hf1) (Nat.le_of_ble_eq_true rfl), Nat.le_of_ble_eq_true rfl, Nat.le_of_ble_eq_true rfl⟩ (fun _ _ hq => ?_)
    obtain ⟨z, M1, ⟨f2, c2, s2⟩, rfl, rfl, ⟨hf2, hz2⟩, hR2⟩ := hq
    cases hz2
    show sx_V _ _ _ _ (79, 4581) _ _ [.inl z] (gm M1) _
    refine sx_aload_n d_Z_law_625 rfl ?_
    refine sx_aload_n d_Z_law_626 rfl ?_
    refine sx_iload_n d_Z_law_627 rfl ?_
    refine sx_iconst d_Z_law_628 ?_
    refine sx_iadd d_Z_law_629 ?_
    refine sx_sld d_Z_law_630 (by omega) (by omega) (by omega) ?_
    refine sx_aload_n d_Z_law_631 rfl ?_
    refine sx_iload_n d_Z_law_632 rfl ?_
    refine sx_iconst d_Z_law_633 ?_
    refine sx_iadd d_Z_law_634 ?_
    refine sx_sld d_Z_law_635 (by omega) (by omega) (by omega) ?_
    refine sx_aload_n d_Z_law_636 rfl ?_
    refine sx_iload_n d_Z_law_637 rfl ?_
    refine sx_iconst d_Z_law_638 ?_
    refine sx_iadd d_Z_law_639 ?_
    refine sx_sld d_Z_law_640 (by omega) (by omega) (by omega) ?_
    refine sx_if_eq (tgt := 648) d_Z_law_641 (by decide) (sx_i32 _) (fun _ => ?_) (fun q => absurd hb1 q)
    refine sx_iconst d_Z_law_648 ?_
    refine sx_aload_n d_Z_law_649 rfl ?_
    refine sx_iload_n d_Z_law_650 rfl ?_
    refine sx_iconst d_Z_law_651 ?_
    refine sx_iadd d_Z_law_652 ?_
    refine sx_sld d_Z_law_653 (by omega) (by omega) (by omega) ?_
    refine sx_callV hR2 d_Z_law_654 cd_M_passes lk_Z_77 im_M_passes se_M_passes (go rfl rfl rfl) rfl rfl (by decide) (st := [.inl z]) rfl rfl (Nat.le_of_ble_eq_true rfl) ⟨Nat.le_trans (Nat.succ_le_succ hf2) (Nat.le_of_ble_eq_true rfl), Nat.le_of_ble_eq_true rfl, Nat.le_of_ble_eq_true rfl⟩ (fun _ _ hq => ?_)
    obtain ⟨rfl, M3, rfl, hE3⟩ := hq
    show sx_V _ _ _ _ (79, 4581) _ _ [.inl z, .inl z] (gm M3) _
    refine sx_icmp_eqs (tgt := 965) d_Z_law_657 (by decide) ?_
    exact hK M3 hE3
  · refine sx_iconst d_Z_law_612 ?_
    refine sx_goto (tgt := 617) d_Z_law_613 (by decide) ?_
    refine sx_aload_n d_Z_law_617 rfl ?_
    refine sx_iload_n d_Z_law_618 rfl ?_
    refine sx_iconst d_Z_law_619 ?_
    refine sx_iadd d_Z_law_620 ?_
    refine sx_sld d_Z_law_621 (by omega) (by omega) (by omega) ?_
    obtain ⟨⟨f1, c1, s1⟩, ⟨hf1, hz1⟩, hC1⟩ := p_passes (L := L) (xs := xs) (sx_i32 (xs (Int.toNat ((i : Int) + 1)))) (sx_i32 (xs (Int.toNat ((i : Int) + 2)))) (Or.inr rfl) (sx_i32 (xs (Int.toNat ((i : Int) + 4)))) hE
    cases hz1
    refine sx_callV hC1 d_Z_law_622 cd_T_passes lk_Z_73 im_T_passes se_T_passes (go rfl rfl rfl) rfl rfl (by decide) (st := []) rfl rfl (Nat.le_of_ble_eq_true rfl) ⟨Nat.le_trans (Nat.succ_le_succ hf1) (Nat.le_of_ble_eq_true rfl), Nat.le_of_ble_eq_true rfl, Nat.le_of_ble_eq_true rfl⟩ (fun _ _ hq => ?_)
    obtain ⟨z, M1, ⟨f2, c2, s2⟩, rfl, rfl, ⟨hf2, hz2⟩, hR2⟩ := hq
    cases hz2
    show sx_V _ _ _ _ (79, 4581) _ _ [.inl z] (gm M1) _
    refine sx_aload_n d_Z_law_625 rfl ?_
    refine sx_aload_n d_Z_law_626 rfl ?_
    refine sx_iload_n d_Z_law_627 rfl ?_
    refine sx_iconst d_Z_law_628 ?_
    refine sx_iadd d_Z_law_629 ?_
    refine sx_sld d_Z_law_630 (by omega) (by omega) (by omega) ?_
    refine sx_aload_n d_Z_law_631 rfl ?_
    refine sx_iload_n d_Z_law_632 rfl ?_
    refine sx_iconst d_Z_law_633 ?_
    refine sx_iadd d_Z_law_634 ?_
    refine sx_sld d_Z_law_635 (by omega) (by omega) (by omega) ?_
    refine sx_aload_n d_Z_law_636 rfl ?_
    refine sx_iload_n d_Z_law_637 rfl ?_
    refine sx_iconst d_Z_law_638 ?_
    refine sx_iadd d_Z_law_639 ?_
    refine sx_sld d_Z_law_640 (by omega) (by omega) (by omega) ?_
    refine sx_if_eq (tgt := 648) d_Z_law_641 (by decide) (sx_i32 _) (fun q => absurd q hb1) (fun _ => ?_)
    refine sx_iconst d_Z_law_644 ?_
    refine sx_goto (tgt := 649) d_Z_law_645 (by decide) ?_
    refine sx_aload_n d_Z_law_649 rfl ?_
    refine sx_iload_n d_Z_law_650 rfl ?_
    refine sx_iconst d_Z_law_651 ?_
    refine sx_iadd d_Z_law_652 ?_
    refine sx_sld d_Z_law_653 (by omega) (by omega) (by omega) ?_
    refine sx_callV hR2 d_Z_law_654 cd_M_passes lk_Z_77 im_M_passes se_M_passes (go rfl rfl rfl) rfl rfl (by decide) (st := [.inl z]) rfl rfl (Nat.le_of_ble_eq_true rfl) ⟨Nat.le_trans (Nat.succ_le_succ hf2) (Nat.le_of_ble_eq_true rfl), Nat.le_of_ble_eq_true rfl, Nat.le_of_ble_eq_true rfl⟩ (fun _ _ hq => ?_)
    obtain ⟨rfl, M3, rfl, hE3⟩ := hq
    show sx_V _ _ _ _ (79, 4581) _ _ [.inl z, .inl z] (gm M3) _
    refine sx_icmp_eqs (tgt := 965) d_Z_law_657 (by decide) ?_
    exact hK M3 hE3
set_option maxRecDepth 100000 in
set_option maxHeartbeats 4000000 in
theorem z_crosses {L : Nat} {xs : Nat → Int32} (hL : L ≤ 3072) (i : Nat) (hi : i + 6 ≤ L) (hK : ∀ M, MRE M → sx_V y_Z_law (100, 1000, 100000) L xs (79, 4581) 965 [some (sx_p 0), some (sx_p 1), some (sx_p 51), some (.inl (i : Int))] [] (gm M) (fun v _ => v = some (.inl 1))) (M : Nat → Nat → Int) (hE : MRE M) : sx_V y_Z_law (100, 1000, 100000) L xs (79, 4581) 662 [some (sx_p 0), some (sx_p 1), some (sx_p 51), some (.inl (i : Int))] [] (gm M) (fun v _ => v = some (.inl 1)) := by
  refine sx_aload_n d_Z_law_662 rfl ?_
  refine sx_aload_n d_Z_law_663 rfl ?_
  refine sx_iload_n d_Z_law_664 rfl ?_
  refine sx_iconst d_Z_law_665 ?_
  refine sx_iadd d_Z_law_666 ?_
  refine sx_sld d_Z_law_667 (by omega) (by omega) (by omega) ?_
  refine sx_aload_n d_Z_law_668 rfl ?_
  refine sx_iload_n d_Z_law_669 rfl ?_
  refine sx_iconst d_Z_law_670 ?_
  refine sx_iadd d_Z_law_671 ?_
  refine sx_sld d_Z_law_672 (by omega) (by omega) (by omega) ?_
  obtain ⟨⟨f1, c1, s1⟩, ⟨hf1, hz1⟩, hC1⟩ := p_crosses (L := L) (xs := xs) (sx_i32 (xs (Int.toNat ((i : Int) + 1)))) (sx_i32 (xs (Int.toNat ((i : Int) + 2)))) hE
  cases hz1
  refine sx_callV hC1 d_Z_law_673 cd_T_crosses lk_Z_78 im_T_crosses se_T_crosses (go rfl rfl rfl) rfl rfl (by decide) (st := []) rfl rfl (Nat.le_of_ble_eq_true rfl) ⟨Nat.le_trans (Nat.succ_le_succ hf1) (Nat.le_of_ble_eq_true rfl), Nat.le_of_ble_eq_true rfl, Nat.le_of_ble_eq_true rfl⟩ (fun _ _ hq => ?_)
  obtain ⟨z, M1, ⟨f2, c2, s2⟩, rfl, rfl, ⟨hf2, hz2⟩, hR2⟩ := hq
  cases hz2
  show sx_V _ _ _ _ (79, 4581) _ _ [.inl z] (gm M1) _
  refine sx_aload_n d_Z_law_676 rfl ?_
  refine sx_aload_n d_Z_law_677 rfl ?_
  refine sx_iload_n d_Z_law_678 rfl ?_
  refine sx_iconst d_Z_law_679 ?_
  refine sx_iadd d_Z_law_680 ?_
  refine sx_sld d_Z_law_681 (by omega) (by omega) (by omega) ?_
  refine sx_aload_n d_Z_law_682 rfl ?_
  refine sx_iload_n d_Z_law_683 rfl ?_
  refine sx_iconst d_Z_law_684 ?_
  refine sx_iadd d_Z_law_685 ?_
  refine sx_sld d_Z_law_686 (by omega) (by omega) (by omega) ?_
  refine sx_callV hR2 d_Z_law_687 cd_M_crosses lk_Z_82 im_M_crosses se_M_crosses (go rfl rfl rfl) rfl rfl (by decide) (st := [.inl z]) rfl rfl (Nat.le_of_ble_eq_true rfl) ⟨Nat.le_trans (Nat.succ_le_succ hf2) (Nat.le_of_ble_eq_true rfl), Nat.le_of_ble_eq_true rfl, Nat.le_of_ble_eq_true rfl⟩ (fun _ _ hq => ?_)
  obtain ⟨rfl, M3, rfl, hE3⟩ := hq
  show sx_V _ _ _ _ (79, 4581) _ _ [.inl z, .inl z] (gm M3) _
  refine sx_icmp_eqs (tgt := 965) d_Z_law_690 (by decide) ?_
  exact hK M3 hE3
set_option maxRecDepth 100000 in
set_option maxHeartbeats 4000000 in
theorem z_under {L : Nat} {xs : Nat → Int32} (hL : L ≤ 3072) (i : Nat) (hi : i + 6 ≤ L) (hK : ∀ M, MRE M → sx_V y_Z_law (100, 1000, 100000) L xs (79, 4581) 965 [some (sx_p 0), some (sx_p 1), some (sx_p 51), some (.inl (i : Int))] [] (gm M) (fun v _ => v = some (.inl 1))) (M : Nat → Nat → Int) (hE : MRE M) : sx_V y_Z_law (100, 1000, 100000) L xs (79, 4581) 695 [some (sx_p 0), some (sx_p 1), some (sx_p 51), some (.inl (i : Int))] [] (gm M) (fun v _ => v = some (.inl 1)) := by
  refine sx_aload_n d_Z_law_695 rfl ?_
  refine sx_aload_n d_Z_law_696 rfl ?_
  refine sx_iload_n d_Z_law_697 rfl ?_
  refine sx_iconst d_Z_law_698 ?_
  refine sx_iadd d_Z_law_699 ?_
  refine sx_sld d_Z_law_700 (by omega) (by omega) (by omega) ?_
  refine sx_aload_n d_Z_law_701 rfl ?_
  refine sx_iload_n d_Z_law_702 rfl ?_
  refine sx_iconst d_Z_law_703 ?_
  refine sx_iadd d_Z_law_704 ?_
  refine sx_sld d_Z_law_705 (by omega) (by omega) (by omega) ?_
  obtain ⟨⟨f1, c1, s1⟩, ⟨hf1, hz1⟩, hC1⟩ := p_under (L := L) (xs := xs) (sx_i32 (xs (Int.toNat ((i : Int) + 1)))) (sx_i32 (xs (Int.toNat ((i : Int) + 2)))) hE
  cases hz1
  refine sx_callV hC1 d_Z_law_706 cd_T_under lk_Z_83 im_T_under se_T_under (go rfl rfl rfl) rfl rfl (by decide) (st := []) rfl rfl (Nat.le_of_ble_eq_true rfl) ⟨Nat.le_trans (Nat.succ_le_succ hf1) (Nat.le_of_ble_eq_true rfl), Nat.le_of_ble_eq_true rfl, Nat.le_of_ble_eq_true rfl⟩ (fun _ _ hq => ?_)
  obtain ⟨z, M1, ⟨f2, c2, s2⟩, rfl, rfl, ⟨hf2, hz2⟩, hR2⟩ := hq
  cases hz2
  show sx_V _ _ _ _ (79, 4581) _ _ [.inl z] (gm M1) _
  refine sx_aload_n d_Z_law_709 rfl ?_
  refine sx_aload_n d_Z_law_710 rfl ?_
  refine sx_iload_n d_Z_law_711 rfl ?_
  refine sx_iconst d_Z_law_712 ?_
  refine sx_iadd d_Z_law_713 ?_
  refine sx_sld d_Z_law_714 (by omega) (by omega) (by omega) ?_
  refine sx_aload_n d_Z_law_715 rfl ?_
  refine sx_iload_n d_Z_law_716 rfl ?_
  refine sx_iconst d_Z_law_717 ?_
  refine sx_iadd d_Z_law_718 ?_
  refine sx_sld d_Z_law_719 (by omega) (by omega) (by omega) ?_
  refine sx_callV hR2 d_Z_law_720 cd_M_under lk_Z_86 im_M_under se_M_under (go rfl rfl rfl) rfl rfl (by decide) (st := [.inl z]) rfl rfl (Nat.le_of_ble_eq_true rfl) ⟨Nat.le_trans (Nat.succ_le_succ hf2) (Nat.le_of_ble_eq_true rfl), Nat.le_of_ble_eq_true rfl, Nat.le_of_ble_eq_true rfl⟩ (fun _ _ hq => ?_)
  obtain ⟨rfl, M3, rfl, hE3⟩ := hq
  show sx_V _ _ _ _ (79, 4581) _ _ [.inl z, .inl z] (gm M3) _
  refine sx_icmp_eqs (tgt := 965) d_Z_law_723 (by decide) ?_
  exact hK M3 hE3
set_option maxRecDepth 100000 in
set_option maxHeartbeats 4000000 in
theorem z_bound {L : Nat} {xs : Nat → Int32} (hL : L ≤ 3072) (i : Nat) (hi : i + 6 ≤ L) (hK : ∀ M, MRE M → sx_V y_Z_law (100, 1000, 100000) L xs (79, 4581) 965 [some (sx_p 0), some (sx_p 1), some (sx_p 51), some (.inl (i : Int))] [] (gm M) (fun v _ => v = some (.inl 1))) (M : Nat → Nat → Int) (hE : MRE M) : sx_V y_Z_law (100, 1000, 100000) L xs (79, 4581) 728 [some (sx_p 0), some (sx_p 1), some (sx_p 51), some (.inl (i : Int))] [] (gm M) (fun v _ => v = some (.inl 1)) := by
  refine sx_aload_n d_Z_law_728 rfl ?_
  obtain ⟨⟨f1, c1, s1⟩, ⟨hf1, hz1⟩, hC1⟩ := p_bound (L := L) (xs := xs)  hE
  cases hz1
  refine sx_callV hC1 d_Z_law_729 cd_T_bound lk_Z_87 im_T_bound se_T_bound (go rfl rfl rfl) rfl rfl (by decide) (st := []) rfl rfl (Nat.le_of_ble_eq_true rfl) ⟨Nat.le_trans (Nat.succ_le_succ hf1) (Nat.le_of_ble_eq_true rfl), Nat.le_of_ble_eq_true rfl, Nat.le_of_ble_eq_true rfl⟩ (fun _ _ hq => ?_)
  obtain ⟨z, M1, ⟨f2, c2, s2⟩, rfl, rfl, ⟨hf2, hz2⟩, hR2⟩ := hq
  cases hz2
  show sx_V _ _ _ _ (79, 4581) _ _ [.inl z] (gm M1) _
  refine sx_aload_n d_Z_law_732 rfl ?_
  refine sx_callV hR2 d_Z_law_733 cd_M_bound lk_Z_90 im_M_bound se_M_bound (go rfl rfl rfl) rfl rfl (by decide) (st := [.inl z]) rfl rfl (Nat.le_of_ble_eq_true rfl) ⟨Nat.le_trans (Nat.succ_le_succ hf2) (Nat.le_of_ble_eq_true rfl), Nat.le_of_ble_eq_true rfl, Nat.le_of_ble_eq_true rfl⟩ (fun _ _ hq => ?_)
  obtain ⟨rfl, M3, rfl, hE3⟩ := hq
  show sx_V _ _ _ _ (79, 4581) _ _ [.inl z, .inl z] (gm M3) _
  refine sx_icmp_eqs (tgt := 965) d_Z_law_736 (by decide) ?_
  exact hK M3 hE3
set_option maxRecDepth 100000 in
set_option maxHeartbeats 4000000 in
theorem z_lone {L : Nat} {xs : Nat → Int32} (hL : L ≤ 3072) (i : Nat) (hi : i + 6 ≤ L) (hK : ∀ M, MRE M → sx_V y_Z_law (100, 1000, 100000) L xs (79, 4581) 965 [some (sx_p 0), some (sx_p 1), some (sx_p 51), some (.inl (i : Int))] [] (gm M) (fun v _ => v = some (.inl 1))) (M : Nat → Nat → Int) (hE : MRE M) : sx_V y_Z_law (100, 1000, 100000) L xs (79, 4581) 741 [some (sx_p 0), some (sx_p 1), some (sx_p 51), some (.inl (i : Int))] [] (gm M) (fun v _ => v = some (.inl 1)) := by
  refine sx_aload_n d_Z_law_741 rfl ?_
  refine sx_aload_n d_Z_law_742 rfl ?_
  refine sx_iload_n d_Z_law_743 rfl ?_
  refine sx_iconst d_Z_law_744 ?_
  refine sx_iadd d_Z_law_745 ?_
  refine sx_sld d_Z_law_746 (by omega) (by omega) (by omega) ?_
  obtain ⟨⟨f1, c1, s1⟩, ⟨hf1, hz1⟩, hC1⟩ := p_lone (L := L) (xs := xs) (sx_i32 (xs (Int.toNat ((i : Int) + 1)))) hE
  cases hz1
  refine sx_callV hC1 d_Z_law_747 cd_T_lone lk_Z_91 im_T_lone se_T_lone (go rfl rfl rfl) rfl rfl (by decide) (st := []) rfl rfl (Nat.le_of_ble_eq_true rfl) ⟨Nat.le_trans (Nat.succ_le_succ hf1) (Nat.le_of_ble_eq_true rfl), Nat.le_of_ble_eq_true rfl, Nat.le_of_ble_eq_true rfl⟩ (fun _ _ hq => ?_)
  obtain ⟨z, M1, ⟨f2, c2, s2⟩, rfl, rfl, ⟨hf2, hz2⟩, hR2⟩ := hq
  cases hz2
  show sx_V _ _ _ _ (79, 4581) _ _ [.inl z] (gm M1) _
  refine sx_aload_n d_Z_law_750 rfl ?_
  refine sx_aload_n d_Z_law_751 rfl ?_
  refine sx_iload_n d_Z_law_752 rfl ?_
  refine sx_iconst d_Z_law_753 ?_
  refine sx_iadd d_Z_law_754 ?_
  refine sx_sld d_Z_law_755 (by omega) (by omega) (by omega) ?_
  refine sx_callV hR2 d_Z_law_756 cd_M_lone lk_Z_94 im_M_lone se_M_lone (go rfl rfl rfl) rfl rfl (by decide) (st := [.inl z]) rfl rfl (Nat.le_of_ble_eq_true rfl) ⟨Nat.le_trans (Nat.succ_le_succ hf2) (Nat.le_of_ble_eq_true rfl), Nat.le_of_ble_eq_true rfl, Nat.le_of_ble_eq_true rfl⟩ (fun _ _ hq => ?_)
  obtain ⟨rfl, M3, rfl, hE3⟩ := hq
  show sx_V _ _ _ _ (79, 4581) _ _ [.inl z, .inl z] (gm M3) _
  refine sx_icmp_eqs (tgt := 965) d_Z_law_759 (by decide) ?_
  exact hK M3 hE3
set_option maxRecDepth 100000 in
set_option maxHeartbeats 4000000 in
theorem z_late {L : Nat} {xs : Nat → Int32} (hL : L ≤ 3072) (i : Nat) (hi : i + 6 ≤ L) (hK : ∀ M, MRE M → sx_V y_Z_law (100, 1000, 100000) L xs (79, 4581) 965 [some (sx_p 0), some (sx_p 1), some (sx_p 51), some (.inl (i : Int))] [] (gm M) (fun v _ => v = some (.inl 1))) (M : Nat → Nat → Int) (hE : MRE M) : sx_V y_Z_law (100, 1000, 100000) L xs (79, 4581) 764 [some (sx_p 0), some (sx_p 1), some (sx_p 51), some (.inl (i : Int))] [] (gm M) (fun v _ => v = some (.inl 1)) := by
  refine sx_aload_n d_Z_law_764 rfl ?_
  refine sx_aload_n d_Z_law_765 rfl ?_
  refine sx_iload_n d_Z_law_766 rfl ?_
  refine sx_iconst d_Z_law_767 ?_
  refine sx_iadd d_Z_law_768 ?_
  refine sx_sld d_Z_law_769 (by omega) (by omega) (by omega) ?_
  refine sx_aload_n d_Z_law_770 rfl ?_
  refine sx_iload_n d_Z_law_771 rfl ?_
  refine sx_iconst d_Z_law_772 ?_
  refine sx_iadd d_Z_law_773 ?_
  refine sx_sld d_Z_law_774 (by omega) (by omega) (by omega) ?_
  obtain ⟨⟨f1, c1, s1⟩, ⟨hf1, hz1⟩, hC1⟩ := p_late (L := L) (xs := xs) (sx_i32 (xs (Int.toNat ((i : Int) + 1)))) (sx_i32 (xs (Int.toNat ((i : Int) + 2)))) hE
  cases hz1
  refine sx_callV hC1 d_Z_law_775 cd_T_late lk_Z_95 im_T_late se_T_late (go rfl rfl rfl) rfl rfl (by decide) (st := []) rfl rfl (Nat.le_of_ble_eq_true rfl) ⟨Nat.le_trans (Nat.succ_le_succ hf1) (Nat.le_of_ble_eq_true rfl), Nat.le_of_ble_eq_true rfl, Nat.le_of_ble_eq_true rfl⟩ (fun _ _ hq => ?_)
  obtain ⟨z, M1, ⟨f2, c2, s2⟩, rfl, rfl, ⟨hf2, hz2⟩, hR2⟩ := hq
  cases hz2
  show sx_V _ _ _ _ (79, 4581) _ _ [.inl z] (gm M1) _
  refine sx_aload_n d_Z_law_778 rfl ?_
  refine sx_aload_n d_Z_law_779 rfl ?_
  refine sx_iload_n d_Z_law_780 rfl ?_
  refine sx_iconst d_Z_law_781 ?_
  refine sx_iadd d_Z_law_782 ?_
  refine sx_sld d_Z_law_783 (by omega) (by omega) (by omega) ?_
  refine sx_aload_n d_Z_law_784 rfl ?_
  refine sx_iload_n d_Z_law_785 rfl ?_
  refine sx_iconst d_Z_law_786 ?_
  refine sx_iadd d_Z_law_787 ?_
  refine sx_sld d_Z_law_788 (by omega) (by omega) (by omega) ?_
  refine sx_callV hR2 d_Z_law_789 cd_M_late lk_Z_98 im_M_late se_M_late (go rfl rfl rfl) rfl rfl (by decide) (st := [.inl z]) rfl rfl (Nat.le_of_ble_eq_true rfl) ⟨Nat.le_trans (Nat.succ_le_succ hf2) (Nat.le_of_ble_eq_true rfl), Nat.le_of_ble_eq_true rfl, Nat.le_of_ble_eq_true rfl⟩ (fun _ _ hq => ?_)
  obtain ⟨rfl, M3, rfl, hE3⟩ := hq
  show sx_V _ _ _ _ (79, 4581) _ _ [.inl z, .inl z] (gm M3) _
  refine sx_icmp_eqs (tgt := 965) d_Z_law_792 (by decide) ?_
  exact hK M3 hE3
set_option maxRecDepth 100000 in
set_option maxHeartbeats 4000000 in
theorem z_freeze {L : Nat} {xs : Nat → Int32} (hL : L ≤ 3072) (i : Nat) (hi : i + 6 ≤ L) (hK : ∀ M, MRE M → sx_V y_Z_law (100, 1000, 100000) L xs (79, 4581) 965 [some (sx_p 0), some (sx_p 1), some (sx_p 51), some (.inl (i : Int))] [] (gm M) (fun v _ => v = some (.inl 1))) (M : Nat → Nat → Int) (hE : MRE M) : sx_V y_Z_law (100, 1000, 100000) L xs (79, 4581) 797 [some (sx_p 0), some (sx_p 1), some (sx_p 51), some (.inl (i : Int))] [] (gm M) (fun v _ => v = some (.inl 1)) := by
  refine sx_aload_n d_Z_law_797 rfl ?_
  refine sx_aload_n d_Z_law_798 rfl ?_
  refine sx_iload_n d_Z_law_799 rfl ?_
  refine sx_iconst d_Z_law_800 ?_
  refine sx_iadd d_Z_law_801 ?_
  refine sx_sld d_Z_law_802 (by omega) (by omega) (by omega) ?_
  obtain ⟨⟨f1, c1, s1⟩, ⟨hf1, hz1⟩, hC1⟩ := p_freeze (L := L) (xs := xs) (sx_i32 (xs (Int.toNat ((i : Int) + 1)))) hE
  cases hz1
  refine sx_callV hC1 d_Z_law_803 cd_T_freeze lk_Z_99 im_T_freeze se_T_freeze (go rfl rfl rfl) rfl rfl (by decide) (st := []) rfl rfl (Nat.le_of_ble_eq_true rfl) ⟨Nat.le_trans (Nat.succ_le_succ hf1) (Nat.le_of_ble_eq_true rfl), Nat.le_of_ble_eq_true rfl, Nat.le_of_ble_eq_true rfl⟩ (fun _ _ hq => ?_)
  obtain ⟨z, M1, ⟨f2, c2, s2⟩, rfl, rfl, ⟨hf2, hz2⟩, hR2⟩ := hq
  cases hz2
  show sx_V _ _ _ _ (79, 4581) _ _ [.inl z] (gm M1) _
  refine sx_aload_n d_Z_law_806 rfl ?_
  refine sx_aload_n d_Z_law_807 rfl ?_
  refine sx_iload_n d_Z_law_808 rfl ?_
  refine sx_iconst d_Z_law_809 ?_
  refine sx_iadd d_Z_law_810 ?_
  refine sx_sld d_Z_law_811 (by omega) (by omega) (by omega) ?_
  refine sx_callV hR2 d_Z_law_812 cd_M_freeze lk_Z_102 im_M_freeze se_M_freeze (go rfl rfl rfl) rfl rfl (by decide) (st := [.inl z]) rfl rfl (Nat.le_of_ble_eq_true rfl) ⟨Nat.le_trans (Nat.succ_le_succ hf2) (Nat.le_of_ble_eq_true rfl), Nat.le_of_ble_eq_true rfl, Nat.le_of_ble_eq_true rfl⟩ (fun _ _ hq => ?_)
  obtain ⟨rfl, M3, rfl, hE3⟩ := hq
  show sx_V _ _ _ _ (79, 4581) _ _ [.inl z, .inl z] (gm M3) _
  refine sx_icmp_eqs (tgt := 965) d_Z_law_815 (by decide) ?_
  exact hK M3 hE3
set_option maxRecDepth 100000 in
set_option maxHeartbeats 4000000 in
theorem z_replan {L : Nat} {xs : Nat → Int32} (hL : L ≤ 3072) (i : Nat) (hi : i + 6 ≤ L) (hK : ∀ M, MRE M → sx_V y_Z_law (100, 1000, 100000) L xs (79, 4581) 965 [some (sx_p 0), some (sx_p 1), some (sx_p 51), some (.inl (i : Int))] [] (gm M) (fun v _ => v = some (.inl 1))) (M : Nat → Nat → Int) (hE : MRE M) : sx_V y_Z_law (100, 1000, 100000) L xs (79, 4581) 820 [some (sx_p 0), some (sx_p 1), some (sx_p 51), some (.inl (i : Int))] [] (gm M) (fun v _ => v = some (.inl 1)) := by
  refine sx_aload_n d_Z_law_820 rfl ?_
  refine sx_aload_n d_Z_law_821 rfl ?_
  refine sx_iload_n d_Z_law_822 rfl ?_
  refine sx_iconst d_Z_law_823 ?_
  refine sx_iadd d_Z_law_824 ?_
  refine sx_sld d_Z_law_825 (by omega) (by omega) (by omega) ?_
  obtain ⟨⟨f1, c1, s1⟩, ⟨hf1, hz1⟩, hC1⟩ := p_replan (L := L) (xs := xs) (sx_i32 (xs (Int.toNat ((i : Int) + 1)))) hE
  cases hz1
  refine sx_callV hC1 d_Z_law_826 cd_T_replan lk_Z_103 im_T_replan se_T_replan (go rfl rfl rfl) rfl rfl (by decide) (st := []) rfl rfl (Nat.le_of_ble_eq_true rfl) ⟨Nat.le_trans (Nat.succ_le_succ hf1) (Nat.le_of_ble_eq_true rfl), Nat.le_of_ble_eq_true rfl, Nat.le_of_ble_eq_true rfl⟩ (fun _ _ hq => ?_)
  obtain ⟨z, M1, ⟨f2, c2, s2⟩, rfl, rfl, ⟨hf2, hz2⟩, hR2⟩ := hq
  cases hz2
  show sx_V _ _ _ _ (79, 4581) _ _ [.inl z] (gm M1) _
  refine sx_aload_n d_Z_law_829 rfl ?_
  refine sx_aload_n d_Z_law_830 rfl ?_
  refine sx_iload_n d_Z_law_831 rfl ?_
  refine sx_iconst d_Z_law_832 ?_
  refine sx_iadd d_Z_law_833 ?_
  refine sx_sld d_Z_law_834 (by omega) (by omega) (by omega) ?_
  refine sx_callV hR2 d_Z_law_835 cd_M_replan lk_Z_106 im_M_replan se_M_replan (go rfl rfl rfl) rfl rfl (by decide) (st := [.inl z]) rfl rfl (Nat.le_of_ble_eq_true rfl) ⟨Nat.le_trans (Nat.succ_le_succ hf2) (Nat.le_of_ble_eq_true rfl), Nat.le_of_ble_eq_true rfl, Nat.le_of_ble_eq_true rfl⟩ (fun _ _ hq => ?_)
  obtain ⟨rfl, M3, rfl, hE3⟩ := hq
  show sx_V _ _ _ _ (79, 4581) _ _ [.inl z, .inl z] (gm M3) _
  refine sx_icmp_eqs (tgt := 965) d_Z_law_838 (by decide) ?_
  exact hK M3 hE3
set_option maxRecDepth 100000 in
set_option maxHeartbeats 4000000 in
theorem z_moved {L : Nat} {xs : Nat → Int32} (hL : L ≤ 3072) (i : Nat) (hi : i + 6 ≤ L) (hK : ∀ M, MRE M → sx_V y_Z_law (100, 1000, 100000) L xs (79, 4581) 965 [some (sx_p 0), some (sx_p 1), some (sx_p 51), some (.inl (i : Int))] [] (gm M) (fun v _ => v = some (.inl 1))) (M : Nat → Nat → Int) (hE : MRE M) : sx_V y_Z_law (100, 1000, 100000) L xs (79, 4581) 843 [some (sx_p 0), some (sx_p 1), some (sx_p 51), some (.inl (i : Int))] [] (gm M) (fun v _ => v = some (.inl 1)) := by
  refine sx_aload_n d_Z_law_843 rfl ?_
  refine sx_aload_n d_Z_law_844 rfl ?_
  refine sx_iload_n d_Z_law_845 rfl ?_
  refine sx_iconst d_Z_law_846 ?_
  refine sx_iadd d_Z_law_847 ?_
  refine sx_sld d_Z_law_848 (by omega) (by omega) (by omega) ?_
  obtain ⟨⟨f1, c1, s1⟩, ⟨hf1, hz1⟩, hC1⟩ := p_moved (L := L) (xs := xs) (sx_i32 (xs (Int.toNat ((i : Int) + 1)))) hE
  cases hz1
  refine sx_callV hC1 d_Z_law_849 cd_T_moved lk_Z_107 im_T_moved se_T_moved (go rfl rfl rfl) rfl rfl (by decide) (st := []) rfl rfl (Nat.le_of_ble_eq_true rfl) ⟨Nat.le_trans (Nat.succ_le_succ hf1) (Nat.le_of_ble_eq_true rfl), Nat.le_of_ble_eq_true rfl, Nat.le_of_ble_eq_true rfl⟩ (fun _ _ hq => ?_)
  obtain ⟨z, M1, ⟨f2, c2, s2⟩, rfl, rfl, ⟨hf2, hz2⟩, hR2⟩ := hq
  cases hz2
  show sx_V _ _ _ _ (79, 4581) _ _ [.inl z] (gm M1) _
  refine sx_aload_n d_Z_law_852 rfl ?_
  refine sx_aload_n d_Z_law_853 rfl ?_
  refine sx_iload_n d_Z_law_854 rfl ?_
  refine sx_iconst d_Z_law_855 ?_
  refine sx_iadd d_Z_law_856 ?_
  refine sx_sld d_Z_law_857 (by omega) (by omega) (by omega) ?_
  refine sx_callV hR2 d_Z_law_858 cd_M_moved lk_Z_110 im_M_moved se_M_moved (go rfl rfl rfl) rfl rfl (by decide) (st := [.inl z]) rfl rfl (Nat.le_of_ble_eq_true rfl) ⟨Nat.le_trans (Nat.succ_le_succ hf2) (Nat.le_of_ble_eq_true rfl), Nat.le_of_ble_eq_true rfl, Nat.le_of_ble_eq_true rfl⟩ (fun _ _ hq => ?_)
  obtain ⟨rfl, M3, rfl, hE3⟩ := hq
  show sx_V _ _ _ _ (79, 4581) _ _ [.inl z, .inl z] (gm M3) _
  refine sx_icmp_eqs (tgt := 965) d_Z_law_861 (by decide) ?_
  exact hK M3 hE3
set_option maxRecDepth 100000 in
set_option maxHeartbeats 4000000 in
theorem z_slack {L : Nat} {xs : Nat → Int32} (hL : L ≤ 3072) (i : Nat) (hi : i + 6 ≤ L) (hK : ∀ M, MRE M → sx_V y_Z_law (100, 1000, 100000) L xs (79, 4581) 965 [some (sx_p 0), some (sx_p 1), some (sx_p 51), some (.inl (i : Int))] [] (gm M) (fun v _ => v = some (.inl 1))) (M : Nat → Nat → Int) (hE : MRE M) : sx_V y_Z_law (100, 1000, 100000) L xs (79, 4581) 866 [some (sx_p 0), some (sx_p 1), some (sx_p 51), some (.inl (i : Int))] [] (gm M) (fun v _ => v = some (.inl 1)) := by
  refine sx_aload_n d_Z_law_866 rfl ?_
  refine sx_aload_n d_Z_law_867 rfl ?_
  refine sx_iload_n d_Z_law_868 rfl ?_
  refine sx_iconst d_Z_law_869 ?_
  refine sx_iadd d_Z_law_870 ?_
  refine sx_sld d_Z_law_871 (by omega) (by omega) (by omega) ?_
  obtain ⟨⟨f1, c1, s1⟩, ⟨hf1, hz1⟩, hC1⟩ := p_slack (L := L) (xs := xs) (sx_i32 (xs (Int.toNat ((i : Int) + 1)))) hE
  cases hz1
  refine sx_callV hC1 d_Z_law_872 cd_T_slack lk_Z_111 im_T_slack se_T_slack (go rfl rfl rfl) rfl rfl (by decide) (st := []) rfl rfl (Nat.le_of_ble_eq_true rfl) ⟨Nat.le_trans (Nat.succ_le_succ hf1) (Nat.le_of_ble_eq_true rfl), Nat.le_of_ble_eq_true rfl, Nat.le_of_ble_eq_true rfl⟩ (fun _ _ hq => ?_)
  obtain ⟨z, M1, ⟨f2, c2, s2⟩, rfl, rfl, ⟨hf2, hz2⟩, hR2⟩ := hq
  cases hz2
  show sx_V _ _ _ _ (79, 4581) _ _ [.inl z] (gm M1) _
  refine sx_aload_n d_Z_law_875 rfl ?_
  refine sx_aload_n d_Z_law_876 rfl ?_
  refine sx_iload_n d_Z_law_877 rfl ?_
  refine sx_iconst d_Z_law_878 ?_
  refine sx_iadd d_Z_law_879 ?_
  refine sx_sld d_Z_law_880 (by omega) (by omega) (by omega) ?_
  refine sx_callV hR2 d_Z_law_881 cd_M_slack lk_Z_114 im_M_slack se_M_slack (go rfl rfl rfl) rfl rfl (by decide) (st := [.inl z]) rfl rfl (Nat.le_of_ble_eq_true rfl) ⟨Nat.le_trans (Nat.succ_le_succ hf2) (Nat.le_of_ble_eq_true rfl), Nat.le_of_ble_eq_true rfl, Nat.le_of_ble_eq_true rfl⟩ (fun _ _ hq => ?_)
  obtain ⟨rfl, M3, rfl, hE3⟩ := hq
  show sx_V _ _ _ _ (79, 4581) _ _ [.inl z, .inl z] (gm M3) _
  refine sx_icmp_eqs (tgt := 965) d_Z_law_884 (by decide) ?_
  exact hK M3 hE3
set_option maxRecDepth 100000 in
set_option maxHeartbeats 4000000 in
theorem z_odds {L : Nat} {xs : Nat → Int32} (hL : L ≤ 3072) (i : Nat) (hi : i + 6 ≤ L) (hK : ∀ M, MRE M → sx_V y_Z_law (100, 1000, 100000) L xs (79, 4581) 965 [some (sx_p 0), some (sx_p 1), some (sx_p 51), some (.inl (i : Int))] [] (gm M) (fun v _ => v = some (.inl 1))) (M : Nat → Nat → Int) (hE : MRE M) : sx_V y_Z_law (100, 1000, 100000) L xs (79, 4581) 889 [some (sx_p 0), some (sx_p 1), some (sx_p 51), some (.inl (i : Int))] [] (gm M) (fun v _ => v = some (.inl 1)) := by
  refine sx_aload_n d_Z_law_889 rfl ?_
  refine sx_aload_n d_Z_law_890 rfl ?_
  refine sx_iload_n d_Z_law_891 rfl ?_
  refine sx_iconst d_Z_law_892 ?_
  refine sx_iadd d_Z_law_893 ?_
  refine sx_sld d_Z_law_894 (by omega) (by omega) (by omega) ?_
  refine sx_aload_n d_Z_law_895 rfl ?_
  refine sx_iload_n d_Z_law_896 rfl ?_
  refine sx_iconst d_Z_law_897 ?_
  refine sx_iadd d_Z_law_898 ?_
  refine sx_sld d_Z_law_899 (by omega) (by omega) (by omega) ?_
  refine sx_aload_n d_Z_law_900 rfl ?_
  refine sx_iload_n d_Z_law_901 rfl ?_
  refine sx_iconst d_Z_law_902 ?_
  refine sx_iadd d_Z_law_903 ?_
  refine sx_sld d_Z_law_904 (by omega) (by omega) (by omega) ?_
  refine sx_aload_n d_Z_law_905 rfl ?_
  refine sx_iload_n d_Z_law_906 rfl ?_
  refine sx_iconst d_Z_law_907 ?_
  refine sx_iadd d_Z_law_908 ?_
  refine sx_sld d_Z_law_909 (by omega) (by omega) (by omega) ?_
  obtain ⟨⟨f1, c1, s1⟩, ⟨hf1, hz1⟩, hC1⟩ := p_odds (L := L) (xs := xs) (sx_i32 (xs (Int.toNat ((i : Int) + 1)))) (sx_i32 (xs (Int.toNat ((i : Int) + 2)))) (sx_i32 (xs (Int.toNat ((i : Int) + 3)))) (sx_i32 (xs (Int.toNat ((i : Int) + 4)))) hE
  cases hz1
  refine sx_callV hC1 d_Z_law_910 cd_T_odds lk_Z_115 im_T_odds se_T_odds (go rfl rfl rfl) rfl rfl (by decide) (st := []) rfl rfl (Nat.le_of_ble_eq_true rfl) ⟨Nat.le_trans (Nat.succ_le_succ hf1) (Nat.le_of_ble_eq_true rfl), Nat.le_of_ble_eq_true rfl, Nat.le_of_ble_eq_true rfl⟩ (fun _ _ hq => ?_)
  obtain ⟨z, M1, ⟨f2, c2, s2⟩, rfl, rfl, ⟨hf2, hz2⟩, hR2⟩ := hq
  cases hz2
  show sx_V _ _ _ _ (79, 4581) _ _ [.inl z] (gm M1) _
  refine sx_aload_n d_Z_law_913 rfl ?_
  refine sx_aload_n d_Z_law_914 rfl ?_
  refine sx_iload_n d_Z_law_915 rfl ?_
  refine sx_iconst d_Z_law_916 ?_
  refine sx_iadd d_Z_law_917 ?_
  refine sx_sld d_Z_law_918 (by omega) (by omega) (by omega) ?_
  refine sx_aload_n d_Z_law_919 rfl ?_
  refine sx_iload_n d_Z_law_920 rfl ?_
  refine sx_iconst d_Z_law_921 ?_
  refine sx_iadd d_Z_law_922 ?_
  refine sx_sld d_Z_law_923 (by omega) (by omega) (by omega) ?_
  refine sx_aload_n d_Z_law_924 rfl ?_
  refine sx_iload_n d_Z_law_925 rfl ?_
  refine sx_iconst d_Z_law_926 ?_
  refine sx_iadd d_Z_law_927 ?_
  refine sx_sld d_Z_law_928 (by omega) (by omega) (by omega) ?_
  refine sx_aload_n d_Z_law_929 rfl ?_
  refine sx_iload_n d_Z_law_930 rfl ?_
  refine sx_iconst d_Z_law_931 ?_
  refine sx_iadd d_Z_law_932 ?_
  refine sx_sld d_Z_law_933 (by omega) (by omega) (by omega) ?_
  refine sx_callV hR2 d_Z_law_934 cd_M_odds lk_Z_119 im_M_odds se_M_odds (go rfl rfl rfl) rfl rfl (by decide) (st := [.inl z]) rfl rfl (Nat.le_of_ble_eq_true rfl) ⟨Nat.le_trans (Nat.succ_le_succ hf2) (Nat.le_of_ble_eq_true rfl), Nat.le_of_ble_eq_true rfl, Nat.le_of_ble_eq_true rfl⟩ (fun _ _ hq => ?_)
  obtain ⟨rfl, M3, rfl, hE3⟩ := hq
  show sx_V _ _ _ _ (79, 4581) _ _ [.inl z, .inl z] (gm M3) _
  refine sx_icmp_eqs (tgt := 965) d_Z_law_937 (by decide) ?_
  exact hK M3 hE3
set_option maxRecDepth 100000 in
set_option maxHeartbeats 4000000 in
theorem z_count {L : Nat} {xs : Nat → Int32} (hL : L ≤ 3072) (i : Nat) (hi : i + 6 ≤ L) (hK : ∀ M, MRE M → sx_V y_Z_law (100, 1000, 100000) L xs (79, 4581) 965 [some (sx_p 0), some (sx_p 1), some (sx_p 51), some (.inl (i : Int))] [] (gm M) (fun v _ => v = some (.inl 1))) (M : Nat → Nat → Int) (hE : MRE M) : sx_V y_Z_law (100, 1000, 100000) L xs (79, 4581) 942 [some (sx_p 0), some (sx_p 1), some (sx_p 51), some (.inl (i : Int))] [] (gm M) (fun v _ => v = some (.inl 1)) := by
  refine sx_aload_n d_Z_law_942 rfl ?_
  refine sx_aload_n d_Z_law_943 rfl ?_
  refine sx_iload_n d_Z_law_944 rfl ?_
  refine sx_iconst d_Z_law_945 ?_
  refine sx_iadd d_Z_law_946 ?_
  refine sx_sld d_Z_law_947 (by omega) (by omega) (by omega) ?_
  obtain ⟨⟨f1, c1, s1⟩, ⟨hf1, hz1⟩, hC1⟩ := p_count (L := L) (xs := xs) (sx_i32 (xs (Int.toNat ((i : Int) + 1)))) hE
  cases hz1
  refine sx_callV hC1 d_Z_law_948 cd_T_count lk_Z_120 im_T_count se_T_count (go rfl rfl rfl) rfl rfl (by decide) (st := []) rfl rfl (Nat.le_of_ble_eq_true rfl) ⟨Nat.le_trans (Nat.succ_le_succ hf1) (Nat.le_of_ble_eq_true rfl), Nat.le_of_ble_eq_true rfl, Nat.le_of_ble_eq_true rfl⟩ (fun _ _ hq => ?_)
  obtain ⟨z, M1, ⟨f2, c2, s2⟩, rfl, rfl, ⟨hf2, hz2⟩, hR2⟩ := hq
  cases hz2
  show sx_V _ _ _ _ (79, 4581) _ _ [.inl z] (gm M1) _
  refine sx_aload_n d_Z_law_951 rfl ?_
  refine sx_aload_n d_Z_law_952 rfl ?_
  refine sx_iload_n d_Z_law_953 rfl ?_
  refine sx_iconst d_Z_law_954 ?_
  refine sx_iadd d_Z_law_955 ?_
  refine sx_sld d_Z_law_956 (by omega) (by omega) (by omega) ?_
  refine sx_callV hR2 d_Z_law_957 cd_M_count lk_Z_123 im_M_count se_M_count (go rfl rfl rfl) rfl rfl (by decide) (st := [.inl z]) rfl rfl (Nat.le_of_ble_eq_true rfl) ⟨Nat.le_trans (Nat.succ_le_succ hf2) (Nat.le_of_ble_eq_true rfl), Nat.le_of_ble_eq_true rfl, Nat.le_of_ble_eq_true rfl⟩ (fun _ _ hq => ?_)
  obtain ⟨rfl, M3, rfl, hE3⟩ := hq
  show sx_V _ _ _ _ (79, 4581) _ _ [.inl z, .inl z] (gm M3) _
  refine sx_icmp_eqs (tgt := 965) d_Z_law_960 (by decide) ?_
  exact hK M3 hE3
