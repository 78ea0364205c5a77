def g_shl : List (Nat × Nat) := [(0, 0), (8, 11), (1, 11), (0, 4), (101, 200), (100, 200), (100, 200), (100, 4), (102, 6), (100, 36), (100, 4), (100, 8), (100, 8), (100, 8), (7, 11), (7, 11), (7, 11), (7, 11), (7, 11), (7, 11), (3, 3), (6, 2), (2, 2), (100, 6), (100, 6), (4, 15), (2, 2), (100, 6), (100, 6), (2, 2), (100, 6), (100, 6), (103, 12), (100, 6), (100, 6), (6, 2), (6, 2), (6, 2), (6, 2), (6, 2), (6, 2), (6, 2), (6, 2), (6, 2), (6, 2), (6, 2), (6, 2), (6, 2), (5, 4), (100, 6), (101, 6), (9, 38), (100, 4), (100, 6), (100, 6), (100, 6), (100, 6), (101, 6), (100, 36), (100, 6), (100, 6), (100, 8), (100, 8), (100, 8), (101, 200), (101, 400), (100, 4), (100, 6), (100, 6), (101, 6), (100, 6), (101, 6), (100, 7), (100, 7), (100, 7), (100, 1407), (100, 1407), (100, 6), (100, 6), (100, 6)]
def g_rfl : List (List (Option Nat)) := [[], [some 2, some 20, some 22, some 25, some 47, some 48, some 50], [some 3, some 7, some 8, some 9, some 10, some 11, some 12, some 13], [some 4, some 5, some 6], [], [], [], [], [some 14, some 15, some 16, some 17, some 18, some 19], [], [], [], [], [], [], [], [], [], [], [], [some 2, some 3, some 21], [], [some 23, some 24], [], [], [some 2, some 20, some 22, some 26, some 29, some 32, some 33, some 34], [some 27, some 28], [], [], [some 30, some 31], [], [], [some 35, some 36, some 37, some 38, some 39, some 40, some 41, some 42, some 43, some 44, some 45, some 46], [], [], [], [], [], [], [], [], [], [], [], [], [], [], [], [some 2, some 22, some 49], [], [], [none, some 52, none, some 53, some 54, some 55, some 56, some 57, some 58, some 59, some 60, none, some 61, some 62, some 63, none, some 64, some 65, some 66, none, some 67, some 68, some 69, some 70, some 71, none, none, some 72, some 73, some 74, some 75, some 76, some 77, none, none, none, some 78, some 79], [], [], [], [], [], [], [], [], [], [], [], [], [], [], [], [], [], [], [], [], [], [], [], [], [], [], [], []]
/-- the heap behind the two constructors: cells and references stay, numbers change -/
def gm (M : Nat → Nat → Int) : sx_h := (79, (fun a => g_shl.getD a (0, 0)), M, (fun a k => (g_rfl.getD a []).getD k none))
theorem go {M : Nat → Nat → Int} {a t n : Nat} (h1 : (a != 0) = true) (h2 : Nat.ble a 79 = true) (h3 : g_shl.getD a (0, 0) = (t, n)) : sx_o (gm M) a t n := ⟨by simpa using h1, Nat.le_of_ble_eq_true h2, h3⟩
theorem go_w (M : Nat → Nat → Int) {w : Nat} (hw : w < 6) : sx_o (gm M) (14 + w) 7 11 := by
  match w, hw with
  | 0, _ => exact go rfl rfl rfl
  | 1, _ => exact go rfl rfl rfl
  | 2, _ => exact go rfl rfl rfl
  | 3, _ => exact go rfl rfl rfl
  | 4, _ => exact go rfl rfl rfl
  | 5, _ => exact go rfl rfl rfl
  | w + 6, hw => omega
theorem go_i (M : Nat → Nat → Int) {j : Nat} (hj : j < 12) : sx_o (gm M) (35 + j) 6 2 := by
  match j, hj with
  | 0, _ => exact go rfl rfl rfl
  | 1, _ => exact go rfl rfl rfl
  | 2, _ => exact go rfl rfl rfl
  | 3, _ => exact go rfl rfl rfl
  | 4, _ => exact go rfl rfl rfl
  | 5, _ => exact go rfl rfl rfl
  | 6, _ => exact go rfl rfl rfl
  | 7, _ => exact go rfl rfl rfl
  | 8, _ => exact go rfl rfl rfl
  | 9, _ => exact go rfl rfl rfl
  | 10, _ => exact go rfl rfl rfl
  | 11, _ => exact go rfl rfl rfl
  | j + 12, hj => omega
theorem gr_w (M : Nat → Nat → Int) {w : Nat} (hw : w < 6) : (gm M).2.2.2 8 w = some (14 + w) := by
  match w, hw with
  | 0, _ => rfl
  | 1, _ => rfl
  | 2, _ => rfl
  | 3, _ => rfl
  | 4, _ => rfl
  | 5, _ => rfl
  | w + 6, hw => omega
theorem gr_i (M : Nat → Nat → Int) {j : Nat} (hj : j < 12) : (gm M).2.2.2 32 j = some (35 + j) := by
  match j, hj with
  | 0, _ => rfl
  | 1, _ => rfl
  | 2, _ => rfl
  | 3, _ => rfl
  | 4, _ => rfl
  | 5, _ => rfl
  | 6, _ => rfl
  | 7, _ => rfl
  | 8, _ => rfl
  | 9, _ => rfl
  | 10, _ => rfl
  | 11, _ => rfl
  | j + 12, hj => omega
