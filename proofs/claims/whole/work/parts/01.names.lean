def sx_fin : List Cond → List Cond := fun l => l.filter goodWord
def sx_isN : Cond → Bool
  | .fieldLinkNest .. => true
  | .methodLinkNest .. => true
  | .arrayOver (.object _) => true
  | _ => false
def sx_T : List Cond := lw_tbl.filter goodWord
def sx_N : List Cond := lw_tbl.filter sx_isN
def ff_D : u_T := fun k => match k with
  | 0 => ("PlaceTimePlans$Days", "resting", "[Z", true)
  | 1 => ("PlaceTimePlans$Days", "workingBefore", "[I", true)
  | 2 => ("PlaceTimePlans$Days", "workingDays", "[I", true)
  | _ => ("PlaceTimePlans$Days", "rests", "I", false)
def ft_D : Nat → FieldType := fun k => match k with
  | 0 => .array (.boolean)
  | 1 => .array (.int)
  | 2 => .array (.int)
  | _ => .int
theorem fn_D : ∀ a, a < 4 → ∀ b, b < 4 → a ≠ b → (ff_D a).2.1 ≠ (ff_D b).2.1 := by decide +kernel
theorem ft_D_ok : ∀ k, k < 4 → parseFieldDescriptor (ff_D k).2.2.1 = some (ft_D k) := by decide +kernel
theorem fi_D : ∀ w ∈ u_ws "PlaceTimePlans$Days" ff_D 4, w ∈ tables_1 := by decide +kernel
theorem fg_D : ∀ w ∈ u_ws "PlaceTimePlans$Days" ff_D 4, goodWord w = true := by decide +kernel
def ff_L : u_T := fun k => match k with
  | 0 => ("PlaceTimePlans$Line", "days", "LPlaceTimePlans$Days;", true)
  | 1 => ("PlaceTimePlans$Line", "crewKinds", "[I", true)
  | 2 => ("PlaceTimePlans$Line", "works", "[LPlaceTimePlans$Work;", true)
  | 3 => ("PlaceTimePlans$Line", "gaps", "[I", true)
  | 4 => ("PlaceTimePlans$Line", "mosts", "[I", true)
  | 5 => ("PlaceTimePlans$Line", "barWorks", "[I", true)
  | 6 => ("PlaceTimePlans$Line", "barPlaces", "[I", true)
  | 7 => ("PlaceTimePlans$Line", "barDays", "[I", true)
  | 8 => ("PlaceTimePlans$Line", "crewCount", "I", false)
  | 9 => ("PlaceTimePlans$Line", "workCount", "I", false)
  | _ => ("PlaceTimePlans$Line", "barCount", "I", false)
def ft_L : Nat → FieldType := fun k => match k with
  | 0 => .object "PlaceTimePlans$Days"
  | 1 => .array (.int)
  | 2 => .array (.object "PlaceTimePlans$Work")
  | 3 => .array (.int)
  | 4 => .array (.int)
  | 5 => .array (.int)
  | 6 => .array (.int)
  | 7 => .array (.int)
  | 8 => .int
  | 9 => .int
  | _ => .int
theorem fn_L : ∀ a, a < 11 → ∀ b, b < 11 → a ≠ b → (ff_L a).2.1 ≠ (ff_L b).2.1 := by decide +kernel
theorem ft_L_ok : ∀ k, k < 11 → parseFieldDescriptor (ff_L k).2.2.1 = some (ft_L k) := by decide +kernel
theorem fi_L : ∀ w ∈ u_ws "PlaceTimePlans$Line" ff_L 11, w ∈ tables_1 := by decide +kernel
theorem fg_L : ∀ w ∈ u_ws "PlaceTimePlans$Line" ff_L 11, goodWord w = true := by decide +kernel
def ff_P : u_T := fun k => match k with
  | 0 => ("PlaceTimePlans$Placing", "starts", "[I", true)
  | _ => ("PlaceTimePlans$Placing", "ways", "[I", true)
def ft_P : Nat → FieldType := fun k => match k with
  | 0 => .array (.int)
  | _ => .array (.int)
theorem fn_P : ∀ a, a < 2 → ∀ b, b < 2 → a ≠ b → (ff_P a).2.1 ≠ (ff_P b).2.1 := by decide +kernel
theorem ft_P_ok : ∀ k, k < 2 → parseFieldDescriptor (ff_P k).2.2.1 = some (ft_P k) := by decide +kernel
theorem fi_P : ∀ w ∈ u_ws "PlaceTimePlans$Placing" ff_P 2, w ∈ tables_1 := by decide +kernel
theorem fg_P : ∀ w ∈ u_ws "PlaceTimePlans$Placing" ff_P 2, goodWord w = true := by decide +kernel
def ff_R : u_T := fun k => match k with
  | 0 => ("PlaceTimePlans$Rules", "line", "LPlaceTimePlans$Line;", true)
  | 1 => ("PlaceTimePlans$Rules", "days", "LPlaceTimePlans$Days;", true)
  | _ => ("PlaceTimePlans$Rules", "alone", "LPlaceTimePlans$Window;", true)
def ft_R : Nat → FieldType := fun k => match k with
  | 0 => .object "PlaceTimePlans$Line"
  | 1 => .object "PlaceTimePlans$Days"
  | _ => .object "PlaceTimePlans$Window"
theorem fn_R : ∀ a, a < 3 → ∀ b, b < 3 → a ≠ b → (ff_R a).2.1 ≠ (ff_R b).2.1 := by decide +kernel
theorem ft_R_ok : ∀ k, k < 3 → parseFieldDescriptor (ff_R k).2.2.1 = some (ft_R k) := by decide +kernel
theorem fi_R : ∀ w ∈ u_ws "PlaceTimePlans$Rules" ff_R 3, w ∈ tables_1 := by decide +kernel
theorem fg_R : ∀ w ∈ u_ws "PlaceTimePlans$Rules" ff_R 3, goodWord w = true := by decide +kernel
def ff_S : u_T := fun k => match k with
  | 0 => ("PlaceTimePlans$Search", "line", "LPlaceTimePlans$Line;", true)
  | 1 => ("PlaceTimePlans$Search", "rules", "LPlaceTimePlans$Rules;", true)
  | 2 => ("PlaceTimePlans$Search", "home", "LPlaceTimePlans$Placing;", true)
  | 3 => ("PlaceTimePlans$Search", "now", "LPlaceTimePlans$Placing;", true)
  | 4 => ("PlaceTimePlans$Search", "best", "LPlaceTimePlans$Placing;", true)
  | 5 => ("PlaceTimePlans$Search", "windows", "[LPlaceTimePlans$Window;", true)
  | 6 => ("PlaceTimePlans$Search", "ends", "[I", true)
  | 7 => ("PlaceTimePlans$Search", "moves", "[I", true)
  | 8 => ("PlaceTimePlans$Search", "again", "Z", false)
  | 9 => ("PlaceTimePlans$Search", "granted", "I", false)
  | 10 => ("PlaceTimePlans$Search", "done", "I", false)
  | 11 => ("PlaceTimePlans$Search", "cutOff", "Z", false)
  | 12 => ("PlaceTimePlans$Search", "found", "Z", false)
  | 13 => ("PlaceTimePlans$Search", "bestEnd", "I", false)
  | _ => ("PlaceTimePlans$Search", "bestMoves", "I", false)
def ft_S : Nat → FieldType := fun k => match k with
  | 0 => .object "PlaceTimePlans$Line"
  | 1 => .object "PlaceTimePlans$Rules"
  | 2 => .object "PlaceTimePlans$Placing"
  | 3 => .object "PlaceTimePlans$Placing"
  | 4 => .object "PlaceTimePlans$Placing"
  | 5 => .array (.object "PlaceTimePlans$Window")
  | 6 => .array (.int)
  | 7 => .array (.int)
  | 8 => .boolean
  | 9 => .int
  | 10 => .int
  | 11 => .boolean
  | 12 => .boolean
  | 13 => .int
  | _ => .int
theorem fn_S : ∀ a, a < 15 → ∀ b, b < 15 → a ≠ b → (ff_S a).2.1 ≠ (ff_S b).2.1 := by decide +kernel
theorem ft_S_ok : ∀ k, k < 15 → parseFieldDescriptor (ff_S k).2.2.1 = some (ft_S k) := by decide +kernel
theorem fi_S : ∀ w ∈ u_ws "PlaceTimePlans$Search" ff_S 15, w ∈ tables_1 := by decide +kernel
theorem fg_S : ∀ w ∈ u_ws "PlaceTimePlans$Search" ff_S 15, goodWord w = true := by decide +kernel
def ff_H : u_T := fun k => match k with
  | 0 => ("PlaceTimePlans$Weather", "line", "LPlaceTimePlans$Line;", true)
  | 1 => ("PlaceTimePlans$Weather", "plan", "LPlaceTimePlans$Placing;", true)
  | 2 => ("PlaceTimePlans$Weather", "daysLeft", "[I", true)
  | _ => ("PlaceTimePlans$Weather", "state", "I", false)
def ft_H : Nat → FieldType := fun k => match k with
  | 0 => .object "PlaceTimePlans$Line"
  | 1 => .object "PlaceTimePlans$Placing"
  | 2 => .array (.int)
  | _ => .int
theorem fn_H : ∀ a, a < 4 → ∀ b, b < 4 → a ≠ b → (ff_H a).2.1 ≠ (ff_H b).2.1 := by decide +kernel
theorem ft_H_ok : ∀ k, k < 4 → parseFieldDescriptor (ff_H k).2.2.1 = some (ft_H k) := by decide +kernel
theorem fi_H : ∀ w ∈ u_ws "PlaceTimePlans$Weather" ff_H 4, w ∈ tables_1 := by decide +kernel
theorem fg_H : ∀ w ∈ u_ws "PlaceTimePlans$Weather" ff_H 4, goodWord w = true := by decide +kernel
def ff_W : u_T := fun k => match k with
  | 0 => ("PlaceTimePlans$Window", "least", "I", false)
  | _ => ("PlaceTimePlans$Window", "greatest", "I", false)
def ft_W : Nat → FieldType := fun k => match k with
  | 0 => .int
  | _ => .int
theorem fn_W : ∀ a, a < 2 → ∀ b, b < 2 → a ≠ b → (ff_W a).2.1 ≠ (ff_W b).2.1 := by decide +kernel
theorem ft_W_ok : ∀ k, k < 2 → parseFieldDescriptor (ff_W k).2.2.1 = some (ft_W k) := by decide +kernel
theorem fi_W : ∀ w ∈ u_ws "PlaceTimePlans$Window" ff_W 2, w ∈ tables_1 := by decide +kernel
theorem fg_W : ∀ w ∈ u_ws "PlaceTimePlans$Window" ff_W 2, goodWord w = true := by decide +kernel
def ff_K : u_T := fun k => match k with
  | 0 => ("PlaceTimePlans$Work", "crewNumber", "I", false)
  | 1 => ("PlaceTimePlans$Work", "kind", "I", false)
  | 2 => ("PlaceTimePlans$Work", "from", "I", false)
  | 3 => ("PlaceTimePlans$Work", "to", "I", false)
  | 4 => ("PlaceTimePlans$Work", "speed", "I", false)
  | 5 => ("PlaceTimePlans$Work", "daysNeeded", "I", false)
  | 6 => ("PlaceTimePlans$Work", "bothWays", "Z", false)
  | 7 => ("PlaceTimePlans$Work", "seasonFirst", "I", false)
  | 8 => ("PlaceTimePlans$Work", "seasonLast", "I", false)
  | 9 => ("PlaceTimePlans$Work", "notBefore", "I", false)
  | _ => ("PlaceTimePlans$Work", "frozen", "Z", false)
def ft_K : Nat → FieldType := fun k => match k with
  | 0 => .int
  | 1 => .int
  | 2 => .int
  | 3 => .int
  | 4 => .int
  | 5 => .int
  | 6 => .boolean
  | 7 => .int
  | 8 => .int
  | 9 => .int
  | _ => .boolean
theorem fn_K : ∀ a, a < 11 → ∀ b, b < 11 → a ≠ b → (ff_K a).2.1 ≠ (ff_K b).2.1 := by decide +kernel
theorem ft_K_ok : ∀ k, k < 11 → parseFieldDescriptor (ff_K k).2.2.1 = some (ft_K k) := by decide +kernel
theorem fi_K : ∀ w ∈ u_ws "PlaceTimePlans$Work" ff_K 11, w ∈ tables_1 := by decide +kernel
theorem fg_K : ∀ w ∈ u_ws "PlaceTimePlans$Work" ff_K 11, goodWord w = true := by decide +kernel
def ff_T : u_T := fun k => match k with
  | 0 => ("PlaceTimePlans", "line", "LPlaceTimePlans$Line;", true)
  | 1 => ("PlaceTimePlans", "rules", "LPlaceTimePlans$Rules;", true)
  | 2 => ("PlaceTimePlans", "plan", "LPlaceTimePlans$Placing;", true)
  | 3 => ("PlaceTimePlans", "search", "LPlaceTimePlans$Search;", true)
  | 4 => ("PlaceTimePlans", "room", "LPlaceTimePlans$Window;", true)
  | 5 => ("PlaceTimePlans", "weather", "LPlaceTimePlans$Weather;", true)
  | 6 => ("PlaceTimePlans", "movedWorks", "[Z", true)
  | 7 => ("PlaceTimePlans", "planAtHand", "Z", false)
  | 8 => ("PlaceTimePlans", "planEnd", "I", false)
  | 9 => ("PlaceTimePlans", "lastProved", "Z", false)
  | _ => ("PlaceTimePlans", "lastTried", "I", false)
def ft_T : Nat → FieldType := fun k => match k with
  | 0 => .object "PlaceTimePlans$Line"
  | 1 => .object "PlaceTimePlans$Rules"
  | 2 => .object "PlaceTimePlans$Placing"
  | 3 => .object "PlaceTimePlans$Search"
  | 4 => .object "PlaceTimePlans$Window"
  | 5 => .object "PlaceTimePlans$Weather"
  | 6 => .array (.boolean)
  | 7 => .boolean
  | 8 => .int
  | 9 => .boolean
  | _ => .int
theorem fn_T : ∀ a, a < 11 → ∀ b, b < 11 → a ≠ b → (ff_T a).2.1 ≠ (ff_T b).2.1 := by decide +kernel
theorem ft_T_ok : ∀ k, k < 11 → parseFieldDescriptor (ff_T k).2.2.1 = some (ft_T k) := by decide +kernel
theorem fi_T : ∀ w ∈ u_ws "PlaceTimePlans" ff_T 11, w ∈ tables_1 := by decide +kernel
theorem fg_T : ∀ w ∈ u_ws "PlaceTimePlans" ff_T 11, goodWord w = true := by decide +kernel
def ff_M : u_T := fun k => match k with
  | 0 => ("PlaceTimePlansModel", "crews", "I", false)
  | 1 => ("PlaceTimePlansModel", "kinds", "[I", true)
  | 2 => ("PlaceTimePlansModel", "works", "I", false)
  | 3 => ("PlaceTimePlansModel", "crewOf", "[I", true)
  | 4 => ("PlaceTimePlansModel", "froms", "[I", true)
  | 5 => ("PlaceTimePlansModel", "tos", "[I", true)
  | 6 => ("PlaceTimePlansModel", "speeds", "[I", true)
  | 7 => ("PlaceTimePlansModel", "both", "[Z", true)
  | 8 => ("PlaceTimePlansModel", "gaps", "[I", true)
  | 9 => ("PlaceTimePlansModel", "firsts", "[I", true)
  | 10 => ("PlaceTimePlansModel", "lasts", "[I", true)
  | 11 => ("PlaceTimePlansModel", "bars", "I", false)
  | 12 => ("PlaceTimePlansModel", "barWork", "[I", true)
  | 13 => ("PlaceTimePlansModel", "barPlace", "[I", true)
  | 14 => ("PlaceTimePlansModel", "barUntil", "[I", true)
  | 15 => ("PlaceTimePlansModel", "rests", "I", false)
  | 16 => ("PlaceTimePlansModel", "rest", "[Z", true)
  | 17 => ("PlaceTimePlansModel", "wet", "[Z", true)
  | 18 => ("PlaceTimePlansModel", "most", "[I", true)
  | 19 => ("PlaceTimePlansModel", "has", "Z", false)
  | 20 => ("PlaceTimePlansModel", "starts", "[I", true)
  | 21 => ("PlaceTimePlansModel", "ways", "[I", true)
  | 22 => ("PlaceTimePlansModel", "frozen", "[Z", true)
  | 23 => ("PlaceTimePlansModel", "lates", "[I", true)
  | 24 => ("PlaceTimePlansModel", "moved", "[Z", true)
  | 25 => ("PlaceTimePlansModel", "proved", "Z", false)
  | 26 => ("PlaceTimePlansModel", "tried", "I", false)
  | 27 => ("PlaceTimePlansModel", "begin", "[I", true)
  | 28 => ("PlaceTimePlansModel", "way", "[I", true)
  | 29 => ("PlaceTimePlansModel", "end", "[I", true)
  | 30 => ("PlaceTimePlansModel", "arrive", "[I", true)
  | 31 => ("PlaceTimePlansModel", "leave", "[I", true)
  | 32 => ("PlaceTimePlansModel", "nextTry", "[I", true)
  | 33 => ("PlaceTimePlansModel", "hasBest", "Z", false)
  | 34 => ("PlaceTimePlansModel", "bestEnd", "I", false)
  | 35 => ("PlaceTimePlansModel", "bestMoved", "I", false)
  | 36 => ("PlaceTimePlansModel", "bestStart", "[I", true)
  | _ => ("PlaceTimePlansModel", "bestWay", "[I", true)
def ft_M : Nat → FieldType := fun k => match k with
  | 0 => .int
  | 1 => .array (.int)
  | 2 => .int
  | 3 => .array (.int)
  | 4 => .array (.int)
  | 5 => .array (.int)
  | 6 => .array (.int)
  | 7 => .array (.boolean)
  | 8 => .array (.int)
  | 9 => .array (.int)
  | 10 => .array (.int)
  | 11 => .int
  | 12 => .array (.int)
  | 13 => .array (.int)
  | 14 => .array (.int)
  | 15 => .int
  | 16 => .array (.boolean)
  | 17 => .array (.boolean)
  | 18 => .array (.int)
  | 19 => .boolean
  | 20 => .array (.int)
  | 21 => .array (.int)
  | 22 => .array (.boolean)
  | 23 => .array (.int)
  | 24 => .array (.boolean)
  | 25 => .boolean
  | 26 => .int
  | 27 => .array (.int)
  | 28 => .array (.int)
  | 29 => .array (.int)
  | 30 => .array (.int)
  | 31 => .array (.int)
  | 32 => .array (.int)
  | 33 => .boolean
  | 34 => .int
  | 35 => .int
  | 36 => .array (.int)
  | _ => .array (.int)
theorem fn_M : ∀ a, a < 38 → ∀ b, b < 38 → a ≠ b → (ff_M a).2.1 ≠ (ff_M b).2.1 := by decide +kernel
theorem ft_M_ok : ∀ k, k < 38 → parseFieldDescriptor (ff_M k).2.2.1 = some (ft_M k) := by decide +kernel
theorem fi_M : ∀ w ∈ u_ws "PlaceTimePlansModel" ff_M 38, w ∈ tables_1 := by decide +kernel
theorem fg_M : ∀ w ∈ u_ws "PlaceTimePlansModel" ff_M 38, goodWord w = true := by decide +kernel
abbrev sx_cl : List vw_C := [("PlaceTimePlans$Days", ff_D, 4), ("PlaceTimePlans$Line", ff_L, 11), ("PlaceTimePlans$Placing", ff_P, 2), ("PlaceTimePlans$Rules", ff_R, 3), ("PlaceTimePlans$Search", ff_S, 15), ("PlaceTimePlans$Weather", ff_H, 4), ("PlaceTimePlans$Window", ff_W, 2), ("PlaceTimePlans$Work", ff_K, 11), ("PlaceTimePlans", ff_T, 11), ("PlaceTimePlansModel", ff_M, 38)]
abbrev sx_ty : List FieldType := [.int, .boolean, .object "PlaceTimePlans$Work", .object "PlaceTimePlans$Window"]
def sx_fty : Nat → Nat → FieldType := fun c => match c with
  | 0 => ft_D
  | 1 => ft_L
  | 2 => ft_P
  | 3 => ft_R
  | 4 => ft_S
  | 5 => ft_H
  | 6 => ft_W
  | 7 => ft_K
  | 8 => ft_T
  | _ => ft_M
/-- a field that holds a number -/
def sx_isI (c k : Nat) : Bool := match sx_fty c k with
  | .int => true
  | .boolean => true
  | _ => false
theorem sx_inT {w : Cond} (h : w ∈ tables_1) (hg : goodWord w = true) : w ∈ sx_T := List.mem_filter.mpr ⟨List.mem_append_right _ h, hg⟩
theorem sx_inN {w : Cond} (h : w ∈ tables_1) (hg : sx_isN w = true) : w ∈ sx_N := List.mem_filter.mpr ⟨List.mem_append_right _ h, hg⟩
theorem sx_cls : ∀ (ci : Nat) (q : vw_C), sx_cl[ci]? = some q → (∀ w ∈ u_ws q.1 q.2.1 q.2.2, w ∈ sx_T) ∧ (∀ k, k < q.2.2 → parseFieldDescriptor (q.2.1 k).2.2.1 = some (sx_fty ci k)) ∧ (∀ a, a < q.2.2 → ∀ b, b < q.2.2 → a ≠ b → (q.2.1 a).2.1 ≠ (q.2.1 b).2.1) ∧ (∀ k, k < q.2.2 → defaultValue (sx_fty ci k) = if sx_isI ci k = true then .int 0 else .null) := by
  intro ci q hq
  match ci, hq with
  | 0, hq => cases hq; exact ⟨fun w h => sx_inT (fi_D w h) (fg_D w h), ft_D_ok, fn_D, by decide +kernel⟩
  | 1, hq => cases hq; exact ⟨fun w h => sx_inT (fi_L w h) (fg_L w h), ft_L_ok, fn_L, by decide +kernel⟩
  | 2, hq => cases hq; exact ⟨fun w h => sx_inT (fi_P w h) (fg_P w h), ft_P_ok, fn_P, by decide +kernel⟩
  | 3, hq => cases hq; exact ⟨fun w h => sx_inT (fi_R w h) (fg_R w h), ft_R_ok, fn_R, by decide +kernel⟩
  | 4, hq => cases hq; exact ⟨fun w h => sx_inT (fi_S w h) (fg_S w h), ft_S_ok, fn_S, by decide +kernel⟩
  | 5, hq => cases hq; exact ⟨fun w h => sx_inT (fi_H w h) (fg_H w h), ft_H_ok, fn_H, by decide +kernel⟩
  | 6, hq => cases hq; exact ⟨fun w h => sx_inT (fi_W w h) (fg_W w h), ft_W_ok, fn_W, by decide +kernel⟩
  | 7, hq => cases hq; exact ⟨fun w h => sx_inT (fi_K w h) (fg_K w h), ft_K_ok, fn_K, by decide +kernel⟩
  | 8, hq => cases hq; exact ⟨fun w h => sx_inT (fi_T w h) (fg_T w h), ft_T_ok, fn_T, by decide +kernel⟩
  | 9, hq => cases hq; exact ⟨fun w h => sx_inT (fi_M w h) (fg_M w h), ft_M_ok, fn_M, by decide +kernel⟩
  | k + 10, hq => simp [sx_cl] at hq
