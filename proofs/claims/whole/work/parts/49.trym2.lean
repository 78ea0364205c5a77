section STW
variable {M M1 M2 : Nat → Nat → Int} {ag g : Int} {nw l nb : Nat} {S D : Nat → Int} {r : (Int × sB) × Bool}
theorem ST.win (h : ST M ag g nw l S D r M1) {j : Nat} (hj : j < 12) (hf : fr (35 + j) M1 M2) (hR : IR M2) : ST M ag g nw l S D r M2 := by
  obtain ⟨h1, h2, h3, h4, h5, h6, h7, h8⟩ := h
  have e : ∀ a k, a < 35 → M2 a k = M1 a k := fun a k ha => hf a k (by omega)
  refine ⟨fun a k ha => (hf a k (by omega)).trans (h1 a k ha), hR, (e _ _ (by decide)).trans h3, (e _ _ (by decide)).trans h4, (e _ _ (by decide)).trans h5, (e _ _ (by decide)).trans h6, eb_c h7 (fun k _ => e 25 k (by decide)) (fun i => ⟨e 30 i (by decide), e 31 i (by decide)⟩), fun i hi => ?_⟩
  rw [e 27 i (by decide), e 28 i (by decide), e 33 i (by decide), e 34 i (by decide)]
  exact h8 i hi
theorem WN.fr {d d2 : Nat} (h : WN M nb l S D d M1) (hne : d ≠ d2) (hf : fr (35 + (2 * l + d2)) M1 M2) : WN M nb l S D d M2 := by
  unfold WN
  rw [hf (35 + (2 * l + d)) 0 (by omega), hf (35 + (2 * l + d)) 1 (by omega)]
  exact h
theorem wfr_fr {d : Nat} (hf : fr (35 + (2 * l + d)) M1 M2) : wfr l M1 M2 := fun j k hj => hf _ _ (by omega)
theorem x_R_open {L : Nat} {xs : Nat → Int32} (hP : PH M nw nb) (hl : l < nw) (hSV : SV l S D) (hST : ST M ag g nw l S D r M1) (d : Nat) (hd : d < 2) :
    sx_R y_R_open (3, 0, 0) L xs [sx_p 20, sx_p (35 + (2 * l + d)), sx_p 26, .inl (l : Int), .inl (d : Int), .inl (l : Int)] (gm M1) (fun v h2 => v = none ∧ ∃ M2, h2 = gm M2 ∧ fr (35 + (2 * l + d)) M1 M2 ∧ IR M2 ∧ WN M nb l S D d M2) := by
  obtain ⟨hI, hRM, hnw, hnw6, hnb, hnb8, hWk, hgp⟩ := id hP
  have hl6 : l < 6 := by omega
  have hlo := hST.1.lo
  have h8 := hST.2.2.2.2.2.2.2
  refine (c_R_open (L := L) (xs := xs) M1 (lo_IDy hlo hI) hST.2.1 (35 + (2 * l + d)) (fun _ => go_i _ (by omega)) (by omega) 26 27 28 (fun _ => go rfl rfl rfl) (fun _ => go rfl rfl rfl) (fun _ => go rfl rfl rfl) (fun _ => rfl) (fun _ => rfl) (by omega) (by omega) l hl6 (lo_IW hlo hl6 (hWk l hl).1) (lo_IS hlo hl6 (hWk l hl).2.1) (d : Int) (by omega) nb ((hlo 2 10 (by decide)).trans hnb) hnb8 (lo_IB hlo hl6 ((hWk l hl).2.2.1 _)) l (by omega) (fun o ho => lo_IW hlo (by omega) (hWk o (by omega)).1) (fun o ho => by rw [(h8 o ho).1]; have := hSV o ho; omega) (fun j hj => by rw [hlo 9 j (by decide)]; exact hgp j hj)).mono ?_
  rintro v h2 ⟨rfl, M2, rfl, k1, k2, k3, k4⟩
  refine ⟨rfl, M2, rfl, k1, k2, fun n => ?_, fun n => ?_⟩
  · rw [k3 n, lo_oL hlo hl6]
    exact and_congr Iff.rfl ⟨fun q o ho => (kLs_c (S1 := M1 27) (D1 := M1 28) hlo (by omega) hl6 (h8 o ho).1 (h8 o ho).2.1 _ _).mp (q o ho (by omega)), fun q o ho _ => (kLs_c (S1 := M1 27) (D1 := M1 28) hlo (by omega) hl6 (h8 o ho).1 (h8 o ho).2.1 _ _).mpr (q o ho)⟩
  · rw [k4 n, lo_oG hlo hl6]
    exact and_congr Iff.rfl ⟨fun q o ho => (kGs_c (S1 := M1 27) (D1 := M1 28) hlo (by omega) hl6 (h8 o ho).1 (h8 o ho).2.1 _ _).mp (q o ho (by omega)), fun q o ho _ => (kGs_c (S1 := M1 27) (D1 := M1 28) hlo (by omega) hl6 (h8 o ho).1 (h8 o ho).2.1 _ _).mpr (q o ho)⟩
end STW
