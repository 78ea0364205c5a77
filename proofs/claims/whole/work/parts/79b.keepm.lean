/-- cells that no call leaves a meaning in -/
def sq (M M2 : Nat → Nat → Int) : Prop := ∀ a k, a ≠ 21 → ¬ (25 ≤ a ∧ a ≤ 49) → a ≠ 65 → a < 72 → M2 a k = M a k
section SQ
variable {M M2 : Nat → Nat → Int}
theorem sq.e (h : sq M M2) {a : Nat} (h1 : a ≠ 21) (h2 : ¬ (25 ≤ a ∧ a ≤ 49)) (h3 : a ≠ 65) (h4 : a < 72) : M2 a = M a := funext fun k => h a k h1 h2 h3 h4
theorem sq.w (h : sq M M2) {w : Nat} (hw : w < 6) : M2 (14 + w) = M (14 + w) := h.e (by omega) (by omega) (by omega) (by omega)
theorem sq_dr (h : sq M M2) : dr M2 = dr M := by
  funext d
  simp only [dr, h.e (a := 4) (by decide) (by decide) (by decide) (by decide)]
theorem sq_IDy (h : sq M M2) (hI : IDy M) : IDy M2 := by
  unfold IDy
  simp only [sq_dr h, h.e (a := 3) (by decide) (by decide) (by decide) (by decide), h.e (a := 4) (by decide) (by decide) (by decide) (by decide), h.e (a := 5) (by decide) (by decide) (by decide) (by decide), h.e (a := 6) (by decide) (by decide) (by decide) (by decide)]
  exact hI
theorem sq_IW (h : sq M M2) {w : Nat} (hw : w < 6) (hI : IW M w) : IW M2 w := by unfold IW; simp only [h.w hw]; exact hI
theorem sq_IS (h : sq M M2) {w : Nat} (hw : w < 6) (hI : IS M w) : IS M2 w := by unfold IS; simp only [h.w hw]; exact hI
theorem sq_IB (h : sq M M2) {w nb : Nat} (hw : w < 6) {d : Int} (hI : IB M nb w d) : IB M2 nb w d := by
  unfold IB wx
  simp only [h.w hw, h.e (a := 11) (by decide) (by decide) (by decide) (by decide), h.e (a := 12) (by decide) (by decide) (by decide) (by decide), h.e (a := 13) (by decide) (by decide) (by decide) (by decide)]
  exact hI
theorem sq_eT (h : sq M M2) {w : Nat} (hw : w < 6) (s : Int) : eT M2 w s = eT M w s := by simp only [eT, Dd, Bd, sq_dr h, h.w hw]
theorem sq_gE (h : sq M M2) (S : Nat → Int) {n : Nat} (hn : n ≤ 6) : gE M2 S n = gE M S n := by
  induction n with
  | zero => rfl
  | succ n ih => simp only [gE, ih (by omega), sq_eT h (show n < 6 by omega)]
theorem sq_WKs (h : sq M M2) {nw nb : Nat} (h6 : nw ≤ 6) (hW : WKs M nw nb) : WKs M2 nw nb := fun w hw => by
  have k := hW w hw
  refine ⟨sq_IW h (by omega) k.1, sq_IS h (by omega) k.2.1, fun d => sq_IB h (by omega) (k.2.2.1 d), ?_, ?_⟩
  · rw [h.w (show w < 6 by omega)]; exact k.2.2.2.1
  · rw [h.w (show w < 6 by omega)]; exact k.2.2.2.2
end SQ
theorem MR.q {M M2 : Nat → Nat → Int} {nc nw nb : Nat} (hM : MR M nc nw nb) (h : sq M M2) (hR : IR M2) : MR M2 nc nw nb := by
  have e1 := h.e (a := 1) (by decide) (by decide) (by decide) (by decide)
  have e2 := h.e (a := 2) (by decide) (by decide) (by decide) (by decide)
  have e3 := h.e (a := 3) (by decide) (by decide) (by decide) (by decide)
  have e4 := h.e (a := 4) (by decide) (by decide) (by decide) (by decide)
  have e5 := h.e (a := 5) (by decide) (by decide) (by decide) (by decide)
  have e6 := h.e (a := 6) (by decide) (by decide) (by decide) (by decide)
  have e7 := h.e (a := 7) (by decide) (by decide) (by decide) (by decide)
  have e9 := h.e (a := 9) (by decide) (by decide) (by decide) (by decide)
  have e10 := h.e (a := 10) (by decide) (by decide) (by decide) (by decide)
  have e11 := h.e (a := 11) (by decide) (by decide) (by decide) (by decide)
  have e12 := h.e (a := 12) (by decide) (by decide) (by decide) (by decide)
  have e13 := h.e (a := 13) (by decide) (by decide) (by decide) (by decide)
  have e23 := h.e (a := 23) (by decide) (by decide) (by decide) (by decide)
  have e24 := h.e (a := 24) (by decide) (by decide) (by decide) (by decide)
  have e50 := h.e (a := 50) (by decide) (by decide) (by decide) (by decide)
  have e51 := h.e (a := 51) (by decide) (by decide) (by decide) (by decide)
  have e52 := h.e (a := 52) (by decide) (by decide) (by decide) (by decide)
  have e53 := h.e (a := 53) (by decide) (by decide) (by decide) (by decide)
  have e54 := h.e (a := 54) (by decide) (by decide) (by decide) (by decide)
  have e55 := h.e (a := 55) (by decide) (by decide) (by decide) (by decide)
  have e56 := h.e (a := 56) (by decide) (by decide) (by decide) (by decide)
  have e57 := h.e (a := 57) (by decide) (by decide) (by decide) (by decide)
  have e58 := h.e (a := 58) (by decide) (by decide) (by decide) (by decide)
  have e59 := h.e (a := 59) (by decide) (by decide) (by decide) (by decide)
  have e60 := h.e (a := 60) (by decide) (by decide) (by decide) (by decide)
  have e61 := h.e (a := 61) (by decide) (by decide) (by decide) (by decide)
  have e62 := h.e (a := 62) (by decide) (by decide) (by decide) (by decide)
  have e63 := h.e (a := 63) (by decide) (by decide) (by decide) (by decide)
  have e64 := h.e (a := 64) (by decide) (by decide) (by decide) (by decide)
  have e66 := h.e (a := 66) (by decide) (by decide) (by decide) (by decide)
  have e67 := h.e (a := 67) (by decide) (by decide) (by decide) (by decide)
  have e68 := h.e (a := 68) (by decide) (by decide) (by decide) (by decide)
  have e69 := h.e (a := 69) (by decide) (by decide) (by decide) (by decide)
  have e70 := h.e (a := 70) (by decide) (by decide) (by decide) (by decide)
  have e71 := h.e (a := 71) (by decide) (by decide) (by decide) (by decide)
  have w6 := hM.w6
  have ew : ∀ w, w < nw → M2 (14 + w) = M (14 + w) := fun w hw => h.w (by omega)
  have ew6 : ∀ w, w < 6 → M2 (14 + w) = M (14 + w) := fun w hw => h.w hw
  exact ⟨sq_IDy h hM.dy, hR, (by simp only [e1, e2, e3, e4, e5, e6, e7, e9, e10, e11, e12, e13, e23, e24, e50, e51, e52, e53, e54, e55, e56, e57, e58, e59, e60, e61, e62, e63, e64, e66, e67, e68, e69, e70, e71]; exact hM.cn), hM.c4, (by simp only [e1, e2, e3, e4, e5, e6, e7, e9, e10, e11, e12, e13, e23, e24, e50, e51, e52, e53, e54, e55, e56, e57, e58, e59, e60, e61, e62, e63, e64, e66, e67, e68, e69, e70, e71]; exact hM.wn), hM.w6, (by simp only [e1, e2, e3, e4, e5, e6, e7, e9, e10, e11, e12, e13, e23, e24, e50, e51, e52, e53, e54, e55, e56, e57, e58, e59, e60, e61, e62, e63, e64, e66, e67, e68, e69, e70, e71]; exact hM.bn), hM.b8, sq_WKs h w6 hM.ws, (by simp only [e1, e2, e3, e4, e5, e6, e7, e9, e10, e11, e12, e13, e23, e24, e50, e51, e52, e53, e54, e55, e56, e57, e58, e59, e60, e61, e62, e63, e64, e66, e67, e68, e69, e70, e71]; exact hM.gp), (by simp only [e1, e2, e3, e4, e5, e6, e7, e9, e10, e11, e12, e13, e23, e24, e50, e51, e52, e53, e54, e55, e56, e57, e58, e59, e60, e61, e62, e63, e64, e66, e67, e68, e69, e70, e71]; exact hM.mcn), (by simp only [e1, e2, e3, e4, e5, e6, e7, e9, e10, e11, e12, e13, e23, e24, e50, e51, e52, e53, e54, e55, e56, e57, e58, e59, e60, e61, e62, e63, e64, e66, e67, e68, e69, e70, e71]; exact hM.mwn), (by simp only [e1, e2, e3, e4, e5, e6, e7, e9, e10, e11, e12, e13, e23, e24, e50, e51, e52, e53, e54, e55, e56, e57, e58, e59, e60, e61, e62, e63, e64, e66, e67, e68, e69, e70, e71]; exact hM.mbn), (by simp only [e1, e2, e3, e4, e5, e6, e7, e9, e10, e11, e12, e13, e23, e24, e50, e51, e52, e53, e54, e55, e56, e57, e58, e59, e60, e61, e62, e63, e64, e66, e67, e68, e69, e70, e71]; exact hM.mrs), (by simp only [e1, e2, e3, e4, e5, e6, e7, e9, e10, e11, e12, e13, e23, e24, e50, e51, e52, e53, e54, e55, e56, e57, e58, e59, e60, e61, e62, e63, e64, e66, e67, e68, e69, e70, e71]; exact hM.mkd), (fun w hw => by simp only [e1, e2, e3, e4, e5, e6, e7, e9, e10, e11, e12, e13, e23, e24, e50, e51, e52, e53, e54, e55, e56, e57, e58, e59, e60, e61, e62, e63, e64, e66, e67, e68, e69, e70, e71, ew w hw]; exact hM.mcr w hw), (fun w hw => by simp only [e1, e2, e3, e4, e5, e6, e7, e9, e10, e11, e12, e13, e23, e24, e50, e51, e52, e53, e54, e55, e56, e57, e58, e59, e60, e61, e62, e63, e64, e66, e67, e68, e69, e70, e71, ew w hw]; exact hM.mfr w hw), (fun w hw => by simp only [e1, e2, e3, e4, e5, e6, e7, e9, e10, e11, e12, e13, e23, e24, e50, e51, e52, e53, e54, e55, e56, e57, e58, e59, e60, e61, e62, e63, e64, e66, e67, e68, e69, e70, e71, ew w hw]; exact hM.mto w hw), (fun w hw => by simp only [e1, e2, e3, e4, e5, e6, e7, e9, e10, e11, e12, e13, e23, e24, e50, e51, e52, e53, e54, e55, e56, e57, e58, e59, e60, e61, e62, e63, e64, e66, e67, e68, e69, e70, e71, ew w hw]; exact hM.msp w hw), (fun w hw => by simp only [e1, e2, e3, e4, e5, e6, e7, e9, e10, e11, e12, e13, e23, e24, e50, e51, e52, e53, e54, e55, e56, e57, e58, e59, e60, e61, e62, e63, e64, e66, e67, e68, e69, e70, e71, ew w hw]; exact hM.mbo w hw), (by simp only [e1, e2, e3, e4, e5, e6, e7, e9, e10, e11, e12, e13, e23, e24, e50, e51, e52, e53, e54, e55, e56, e57, e58, e59, e60, e61, e62, e63, e64, e66, e67, e68, e69, e70, e71]; exact hM.mgp), (fun w hw => by simp only [e1, e2, e3, e4, e5, e6, e7, e9, e10, e11, e12, e13, e23, e24, e50, e51, e52, e53, e54, e55, e56, e57, e58, e59, e60, e61, e62, e63, e64, e66, e67, e68, e69, e70, e71, ew w hw]; exact hM.mfi w hw), (fun w hw => by simp only [e1, e2, e3, e4, e5, e6, e7, e9, e10, e11, e12, e13, e23, e24, e50, e51, e52, e53, e54, e55, e56, e57, e58, e59, e60, e61, e62, e63, e64, e66, e67, e68, e69, e70, e71, ew w hw]; exact hM.mla w hw), (by simp only [e1, e2, e3, e4, e5, e6, e7, e9, e10, e11, e12, e13, e23, e24, e50, e51, e52, e53, e54, e55, e56, e57, e58, e59, e60, e61, e62, e63, e64, e66, e67, e68, e69, e70, e71]; exact hM.mb1), (by simp only [e1, e2, e3, e4, e5, e6, e7, e9, e10, e11, e12, e13, e23, e24, e50, e51, e52, e53, e54, e55, e56, e57, e58, e59, e60, e61, e62, e63, e64, e66, e67, e68, e69, e70, e71]; exact hM.mb2), (by simp only [e1, e2, e3, e4, e5, e6, e7, e9, e10, e11, e12, e13, e23, e24, e50, e51, e52, e53, e54, e55, e56, e57, e58, e59, e60, e61, e62, e63, e64, e66, e67, e68, e69, e70, e71]; exact hM.mb3), (by simp only [e1, e2, e3, e4, e5, e6, e7, e9, e10, e11, e12, e13, e23, e24, e50, e51, e52, e53, e54, e55, e56, e57, e58, e59, e60, e61, e62, e63, e64, e66, e67, e68, e69, e70, e71]; exact hM.mre), (by simp only [e1, e2, e3, e4, e5, e6, e7, e9, e10, e11, e12, e13, e23, e24, e50, e51, e52, e53, e54, e55, e56, e57, e58, e59, e60, e61, e62, e63, e64, e66, e67, e68, e69, e70, e71]; exact hM.mmo), (fun w hw => by simp only [e1, e2, e3, e4, e5, e6, e7, e9, e10, e11, e12, e13, e23, e24, e50, e51, e52, e53, e54, e55, e56, e57, e58, e59, e60, e61, e62, e63, e64, e66, e67, e68, e69, e70, e71, ew w hw]; exact hM.mfz w hw), (fun w hw => by simp only [e1, e2, e3, e4, e5, e6, e7, e9, e10, e11, e12, e13, e23, e24, e50, e51, e52, e53, e54, e55, e56, e57, e58, e59, e60, e61, e62, e63, e64, e66, e67, e68, e69, e70, e71, ew w hw]; exact hM.mlt w hw), (by simp only [e1, e2, e3, e4, e5, e6, e7, e9, e10, e11, e12, e13, e23, e24, e50, e51, e52, e53, e54, e55, e56, e57, e58, e59, e60, e61, e62, e63, e64, e66, e67, e68, e69, e70, e71]; exact hM.h01), (by simp only [e1, e2, e3, e4, e5, e6, e7, e9, e10, e11, e12, e13, e23, e24, e50, e51, e52, e53, e54, e55, e56, e57, e58, e59, e60, e61, e62, e63, e64, e66, e67, e68, e69, e70, e71]; exact hM.mha), (by simp only [e1, e2, e3, e4, e5, e6, e7, e9, e10, e11, e12, e13, e23, e24, e50, e51, e52, e53, e54, e55, e56, e57, e58, e59, e60, e61, e62, e63, e64, e66, e67, e68, e69, e70, e71]; exact hM.pl), (by rw [sq_dr h]; simp only [e1, e2, e3, e4, e5, e6, e7, e9, e10, e11, e12, e13, e23, e24, e50, e51, e52, e53, e54, e55, e56, e57, e58, e59, e60, e61, e62, e63, e64, e66, e67, e68, e69, e70, e71]; exact hM.plw), (by simp only [e1, e2, e3, e4, e5, e6, e7, e9, e10, e11, e12, e13, e23, e24, e50, e51, e52, e53, e54, e55, e56, e57, e58, e59, e60, e61, e62, e63, e64, e66, e67, e68, e69, e70, e71]; exact hM.mst), (by rw [sq_gE h _ w6]; simp only [e1, e2, e3, e4, e5, e6, e7, e9, e10, e11, e12, e13, e23, e24, e50, e51, e52, e53, e54, e55, e56, e57, e58, e59, e60, e61, e62, e63, e64, e66, e67, e68, e69, e70, e71]; exact hM.pen), (fun z w hw => by rw [ew w hw]; rw [e1] at z; exact hM.nofz z w hw), (by simp only [e1, e2, e3, e4, e5, e6, e7, e9, e10, e11, e12, e13, e23, e24, e50, e51, e52, e53, e54, e55, e56, e57, e58, e59, e60, e61, e62, e63, e64, e66, e67, e68, e69, e70, e71]; exact hM.mmv), (by simp only [e1, e2, e3, e4, e5, e6, e7, e9, e10, e11, e12, e13, e23, e24, e50, e51, e52, e53, e54, e55, e56, e57, e58, e59, e60, e61, e62, e63, e64, e66, e67, e68, e69, e70, e71]; exact hM.mpr), (by simp only [e1, e2, e3, e4, e5, e6, e7, e9, e10, e11, e12, e13, e23, e24, e50, e51, e52, e53, e54, e55, e56, e57, e58, e59, e60, e61, e62, e63, e64, e66, e67, e68, e69, e70, e71]; exact hM.mtr), (fun w h1 h2 => by simp only [e1, e2, e3, e4, e5, e6, e7, e9, e10, e11, e12, e13, e23, e24, e50, e51, e52, e53, e54, e55, e56, e57, e58, e59, e60, e61, e62, e63, e64, e66, e67, e68, e69, e70, e71, ew6 w h2]; exact hM.fresh w h1 h2), (by simp only [e1, e2, e3, e4, e5, e6, e7, e9, e10, e11, e12, e13, e23, e24, e50, e51, e52, e53, e54, e55, e56, e57, e58, e59, e60, e61, e62, e63, e64, e66, e67, e68, e69, e70, e71]; exact hM.freshg), (by simp only [e1, e2, e3, e4, e5, e6, e7, e9, e10, e11, e12, e13, e23, e24, e50, e51, e52, e53, e54, e55, e56, e57, e58, e59, e60, e61, e62, e63, e64, e66, e67, e68, e69, e70, e71]; exact hM.self), (by simp only [e1, e2, e3, e4, e5, e6, e7, e9, e10, e11, e12, e13, e23, e24, e50, e51, e52, e53, e54, e55, e56, e57, e58, e59, e60, e61, e62, e63, e64, e66, e67, e68, e69, e70, e71]; exact hM.mo), (by simp only [e1, e2, e3, e4, e5, e6, e7, e9, e10, e11, e12, e13, e23, e24, e50, e51, e52, e53, e54, e55, e56, e57, e58, e59, e60, e61, e62, e63, e64, e66, e67, e68, e69, e70, e71]; exact hM.mbw), (by simp only [e1]; exact hM.h7w)⟩
