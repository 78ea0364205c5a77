def sx_h0 : sx_h := (0, fun _ => (0, 0), fun _ _ => 0, fun _ _ => none)
theorem zz_law (L : Nat) (xs : Nat → Int32) (hL : L ≤ 3072) : sx_V y_Z_law (100, 1000, 100000) L xs (0, 0) 0 [some (sx_p 0), none, none, none] [] sx_h0 (fun v _ => v = some (.inl 1)) := by
  sorry
