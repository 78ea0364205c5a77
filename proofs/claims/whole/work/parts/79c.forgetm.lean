/-- the memory with the plan forgotten -/
def fgC (a k : Nat) : Prop := (a = 1 ∧ k = 7) ∨ (14 ≤ a ∧ a < 20 ∧ (k = 9 ∨ k = 10)) ∨ ((a = 69 ∨ a = 70 ∨ a = 71) ∧ k < 6) ∨ (a = 51 ∧ k = 19)
noncomputable def fgx (M : Nat → Nat → Int) : Nat → Nat → Int := fun a k => @ite _ (fgC a k) (Classical.propDecidable _) 0 (M a k)
theorem fgx_0 {M : Nat → Nat → Int} {a k : Nat} (h : (a = 1 ∧ k = 7) ∨ (14 ≤ a ∧ a < 20 ∧ (k = 9 ∨ k = 10)) ∨ ((a = 69 ∨ a = 70 ∨ a = 71) ∧ k < 6) ∨ (a = 51 ∧ k = 19)) : fgx M a k = 0 := by unfold fgx; rw [if_pos (show fgC a k from h)]
theorem fgx_ne {M : Nat → Nat → Int} {a k : Nat} (h : ¬ ((a = 1 ∧ k = 7) ∨ (14 ≤ a ∧ a < 20 ∧ (k = 9 ∨ k = 10)) ∨ ((a = 69 ∨ a = 70 ∨ a = 71) ∧ k < 6) ∨ (a = 51 ∧ k = 19))) : fgx M a k = M a k := by unfold fgx; rw [if_neg (show ¬ fgC a k from h)]
theorem fgx_dr (M : Nat → Nat → Int) : dr (fgx M) = dr M := by
  funext d
  unfold dr
  rw [fgx_ne (by omega)]
theorem MR.fg {M : Nat → Nat → Int} {nc nw nb : Nat} (hM : MR M nc nw nb) : MR (fgx M) nc nw nb := by
  have w6 := hM.w6
  have z17 : fgx M 1 7 = 0 := fgx_0 (by omega)
  exact ⟨(by unfold IDy; rw [fgx_dr]; simp (disch := omega) only [fgx_ne]; exact hM.dy),
    (fun a k => by unfold fgx; split; exact ⟨by decide, by decide⟩; exact hM.ir a k),
    (by simp (disch := omega) only [fgx_ne]; exact hM.cn),
    hM.c4,
    (by simp (disch := omega) only [fgx_ne]; exact hM.wn),
    hM.w6,
    (by simp (disch := omega) only [fgx_ne]; exact hM.bn),
    hM.b8,
    (fun w hw => by have k := hM.ws w hw; refine ⟨?_, ?_, fun d => ?_, ?_, ?_⟩; (unfold IW; simp (disch := omega) only [fgx_ne]; exact k.1); (unfold IS; rw [fgx_0 (a := 14 + w) (k := 9) (by omega)]; simp (disch := omega) only [fgx_ne]; obtain ⟨s1, s2, s3, s4, s5, s6⟩ := k.2.1; exact ⟨s1, s2, s3, s4, by decide, by decide⟩); (unfold IB wx; simp (disch := omega) only [fgx_ne]; exact k.2.2.1 d); (simp (disch := omega) only [fgx_ne]; exact k.2.2.2.1); (simp (disch := omega) only [fgx_ne]; exact k.2.2.2.2)),
    (by simp (disch := omega) only [fgx_ne]; exact hM.gp),
    (by simp (disch := omega) only [fgx_ne]; exact hM.mcn),
    (by simp (disch := omega) only [fgx_ne]; exact hM.mwn),
    (by simp (disch := omega) only [fgx_ne]; exact hM.mbn),
    (by simp (disch := omega) only [fgx_ne]; exact hM.mrs),
    (by simp (disch := omega) only [fgx_ne]; exact hM.mkd),
    (fun w hw => by simp (disch := omega) only [fgx_ne]; exact hM.mcr w hw),
    (fun w hw => by simp (disch := omega) only [fgx_ne]; exact hM.mfr w hw),
    (fun w hw => by simp (disch := omega) only [fgx_ne]; exact hM.mto w hw),
    (fun w hw => by simp (disch := omega) only [fgx_ne]; exact hM.msp w hw),
    (fun w hw => by simp (disch := omega) only [fgx_ne]; exact hM.mbo w hw),
    (by simp (disch := omega) only [fgx_ne]; exact hM.mgp),
    (fun w hw => by simp (disch := omega) only [fgx_ne]; exact hM.mfi w hw),
    (fun w hw => by simp (disch := omega) only [fgx_ne]; exact hM.mla w hw),
    (by simp (disch := omega) only [fgx_ne]; exact hM.mb1),
    (by simp (disch := omega) only [fgx_ne]; exact hM.mb2),
    (by simp (disch := omega) only [fgx_ne]; exact hM.mb3),
    (by simp (disch := omega) only [fgx_ne]; exact hM.mre),
    (by simp (disch := omega) only [fgx_ne]; exact hM.mmo),
    (fun w hw => ⟨by rw [fgx_0 (by omega), fgx_0 (by omega)], Or.inl (fgx_0 (by omega))⟩),
    (fun w hw => by rw [fgx_0 (by omega), fgx_0 (by omega)]),
    (Or.inl z17),
    (by rw [z17, fgx_0 (by omega)]),
    (fun z => absurd z17 z),
    (fun z => absurd z17 z),
    (fun z => absurd z17 z),
    (fun z => absurd z17 z),
    (fun _ w hw => fgx_0 (by omega)),
    (fun z => absurd z17 z),
    (by simp (disch := omega) only [fgx_ne]; exact hM.mpr),
    (by simp (disch := omega) only [fgx_ne]; exact hM.mtr),
    (fun w h1 h2 => by have k := hM.fresh w h1 h2; refine ⟨?_, ?_, fgx_0 (by omega), fgx_0 (by omega), fgx_0 (by omega), fgx_0 (by omega)⟩; (rw [fgx_ne (by omega)]; exact k.1); (rw [fgx_ne (by omega)]; exact k.2.1)),
    (by simp (disch := omega) only [fgx_ne]; exact hM.freshg),
    (by simp (disch := omega) only [fgx_ne]; exact hM.self),
    (by simp (disch := omega) only [fgx_ne]; exact hM.mo),
    (by simp (disch := omega) only [fgx_ne]; exact hM.mbw),
    (fun z => absurd z17 z)⟩
