/-! classes, their fields, the words of the tables; printed by a program of mine -/
def wx_TW : u_T := fun k => match k with
  | 0 => ("WidthCampaigns", "plant", "LWidthCampaigns$Plant;", true)
  | 1 => ("WidthCampaigns", "trial", "LWidthCampaigns$Line;", true)
  | 2 => ("WidthCampaigns", "standing", "LWidthCampaigns$Line;", true)
  | 3 => ("WidthCampaigns", "search", "LWidthCampaigns$Search;", true)
  | 4 => ("WidthCampaigns", "scratch", "[I", true)
  | 5 => ("WidthCampaigns", "ordered", "Z", false)
  | _ => ("WidthCampaigns", "searched", "Z", false)
def wx_tW : Nat → FieldType := fun k => match k with
  | 0 => (.object "WidthCampaigns$Plant")
  | 1 => (.object "WidthCampaigns$Line")
  | 2 => (.object "WidthCampaigns$Line")
  | 3 => (.object "WidthCampaigns$Search")
  | 4 => (.array .int)
  | 5 => .boolean
  | _ => .boolean
theorem wx_nW : ∀ a, a < 7 → ∀ b, b < 7 → a ≠ b → (wx_TW a).2.1 ≠ (wx_TW b).2.1 := by decide +kernel
theorem wx_toW : ∀ k, k < 7 → parseFieldDescriptor (wx_TW k).2.2.1 = some (wx_tW k) := by decide +kernel
def wx_TP : u_T := fun k => match k with
  | 0 => ("WidthCampaigns$Plant", "width", "[I", true)
  | 1 => ("WidthCampaigns$Plant", "thick", "[I", true)
  | 2 => ("WidthCampaigns$Plant", "hard", "[I", true)
  | 3 => ("WidthCampaigns$Plant", "kilometres", "[I", true)
  | 4 => ("WidthCampaigns$Plant", "last", "[I", true)
  | 5 => ("WidthCampaigns$Plant", "oldPlace", "[I", true)
  | 6 => ("WidthCampaigns$Plant", "jumpCost", "[[I", true)
  | 7 => ("WidthCampaigns$Plant", "hardJumps", "LWidthCampaigns$JumpTable;", true)
  | 8 => ("WidthCampaigns$Plant", "thickJumps", "LWidthCampaigns$JumpTable;", true)
  | 9 => ("WidthCampaigns$Plant", "groups", "LWidthCampaigns$WidthGroups;", true)
  | 10 => ("WidthCampaigns$Plant", "count", "I", false)
  | 11 => ("WidthCampaigns$Plant", "rise", "I", false)
  | 12 => ("WidthCampaigns$Plant", "wear", "I", false)
  | 13 => ("WidthCampaigns$Plant", "changeCents", "I", false)
  | _ => ("WidthCampaigns$Plant", "movedCents", "I", false)
def wx_tP : Nat → FieldType := fun k => match k with
  | 0 => (.array .int)
  | 1 => (.array .int)
  | 2 => (.array .int)
  | 3 => (.array .int)
  | 4 => (.array .int)
  | 5 => (.array .int)
  | 6 => (.array (.array .int))
  | 7 => (.object "WidthCampaigns$JumpTable")
  | 8 => (.object "WidthCampaigns$JumpTable")
  | 9 => (.object "WidthCampaigns$WidthGroups")
  | 10 => .int
  | 11 => .int
  | 12 => .int
  | 13 => .int
  | _ => .int
theorem wx_nP : ∀ a, a < 15 → ∀ b, b < 15 → a ≠ b → (wx_TP a).2.1 ≠ (wx_TP b).2.1 := by decide +kernel
theorem wx_toP : ∀ k, k < 15 → parseFieldDescriptor (wx_TP k).2.2.1 = some (wx_tP k) := by decide +kernel
def wx_TJ : u_T := fun k => match k with
  | 0 => ("WidthCampaigns$JumpTable", "from", "[I", true)
  | 1 => ("WidthCampaigns$JumpTable", "to", "[I", true)
  | 2 => ("WidthCampaigns$JumpTable", "cost", "[I", true)
  | _ => ("WidthCampaigns$JumpTable", "rows", "I", false)
def wx_tJ : Nat → FieldType := fun k => match k with
  | 0 => (.array .int)
  | 1 => (.array .int)
  | 2 => (.array .int)
  | _ => .int
theorem wx_nJ : ∀ a, a < 4 → ∀ b, b < 4 → a ≠ b → (wx_TJ a).2.1 ≠ (wx_TJ b).2.1 := by decide +kernel
theorem wx_toJ : ∀ k, k < 4 → parseFieldDescriptor (wx_TJ k).2.2.1 = some (wx_tJ k) := by decide +kernel
def wx_TG : u_T := fun k => match k with
  | 0 => ("WidthCampaigns$WidthGroups", "from", "[I", true)
  | 1 => ("WidthCampaigns$WidthGroups", "to", "[I", true)
  | 2 => ("WidthCampaigns$WidthGroups", "most", "[I", true)
  | _ => ("WidthCampaigns$WidthGroups", "count", "I", false)
def wx_tG : Nat → FieldType := fun k => match k with
  | 0 => (.array .int)
  | 1 => (.array .int)
  | 2 => (.array .int)
  | _ => .int
theorem wx_nG : ∀ a, a < 4 → ∀ b, b < 4 → a ≠ b → (wx_TG a).2.1 ≠ (wx_TG b).2.1 := by decide +kernel
theorem wx_toG : ∀ k, k < 4 → parseFieldDescriptor (wx_TG k).2.2.1 = some (wx_tG k) := by decide +kernel
def wx_TL : u_T := fun k => match k with
  | 0 => ("WidthCampaigns$Line", "plant", "LWidthCampaigns$Plant;", true)
  | 1 => ("WidthCampaigns$Line", "coils", "[I", true)
  | 2 => ("WidthCampaigns$Line", "stands", "[Z", true)
  | 3 => ("WidthCampaigns$Line", "changeAhead", "[Z", true)
  | 4 => ("WidthCampaigns$Line", "penalty", "[I", true)
  | 5 => ("WidthCampaigns$Line", "changes", "[I", true)
  | 6 => ("WidthCampaigns$Line", "moved", "[I", true)
  | 7 => ("WidthCampaigns$Line", "rolled", "[I", true)
  | 8 => ("WidthCampaigns$Line", "rolledInGroup", "[[I", true)
  | _ => ("WidthCampaigns$Line", "length", "I", false)
def wx_tL : Nat → FieldType := fun k => match k with
  | 0 => (.object "WidthCampaigns$Plant")
  | 1 => (.array .int)
  | 2 => (.array .boolean)
  | 3 => (.array .boolean)
  | 4 => (.array .int)
  | 5 => (.array .int)
  | 6 => (.array .int)
  | 7 => (.array .int)
  | 8 => (.array (.array .int))
  | _ => .int
theorem wx_nL : ∀ a, a < 10 → ∀ b, b < 10 → a ≠ b → (wx_TL a).2.1 ≠ (wx_TL b).2.1 := by decide +kernel
theorem wx_toL : ∀ k, k < 10 → parseFieldDescriptor (wx_TL k).2.2.1 = some (wx_tL k) := by decide +kernel
def wx_TS : u_T := fun k => match k with
  | 0 => ("WidthCampaigns$Search", "plant", "LWidthCampaigns$Plant;", true)
  | 1 => ("WidthCampaigns$Search", "line", "LWidthCampaigns$Line;", true)
  | 2 => ("WidthCampaigns$Search", "best", "[I", true)
  | 3 => ("WidthCampaigns$Search", "bestPenalty", "I", false)
  | 4 => ("WidthCampaigns$Search", "nodesLeft", "I", false)
  | 5 => ("WidthCampaigns$Search", "found", "Z", false)
  | _ => ("WidthCampaigns$Search", "leftOut", "Z", false)
def wx_tS : Nat → FieldType := fun k => match k with
  | 0 => (.object "WidthCampaigns$Plant")
  | 1 => (.object "WidthCampaigns$Line")
  | 2 => (.array .int)
  | 3 => .int
  | 4 => .int
  | 5 => .boolean
  | _ => .boolean
theorem wx_nS : ∀ a, a < 7 → ∀ b, b < 7 → a ≠ b → (wx_TS a).2.1 ≠ (wx_TS b).2.1 := by decide +kernel
theorem wx_toS : ∀ k, k < 7 → parseFieldDescriptor (wx_TS k).2.2.1 = some (wx_tS k) := by decide +kernel
def wx_TM : u_T := fun k => match k with
  | 0 => ("WidthCampaignsModel", "thrown", "I", false)
  | 1 => ("WidthCampaignsModel", "coils", "I", false)
  | 2 => ("WidthCampaignsModel", "width", "[I", true)
  | 3 => ("WidthCampaignsModel", "thick", "[I", true)
  | 4 => ("WidthCampaignsModel", "hard", "[I", true)
  | 5 => ("WidthCampaignsModel", "kilometres", "[I", true)
  | 6 => ("WidthCampaignsModel", "last", "[I", true)
  | 7 => ("WidthCampaignsModel", "old", "[I", true)
  | 8 => ("WidthCampaignsModel", "rows", "[I", true)
  | 9 => ("WidthCampaignsModel", "rowFrom", "[I", true)
  | 10 => ("WidthCampaignsModel", "rowTo", "[I", true)
  | 11 => ("WidthCampaignsModel", "rowCost", "[I", true)
  | 12 => ("WidthCampaignsModel", "groups", "I", false)
  | 13 => ("WidthCampaignsModel", "groupFrom", "[I", true)
  | 14 => ("WidthCampaignsModel", "groupTo", "[I", true)
  | 15 => ("WidthCampaignsModel", "groupMost", "[I", true)
  | 16 => ("WidthCampaignsModel", "rise", "I", false)
  | 17 => ("WidthCampaignsModel", "wear", "I", false)
  | 18 => ("WidthCampaignsModel", "changeCost", "I", false)
  | 19 => ("WidthCampaignsModel", "movedCost", "I", false)
  | 20 => ("WidthCampaignsModel", "searched", "Z", false)
  | 21 => ("WidthCampaignsModel", "proved", "Z", false)
  | 22 => ("WidthCampaignsModel", "ordered", "Z", false)
  | 23 => ("WidthCampaignsModel", "order", "[I", true)
  | 24 => ("WidthCampaignsModel", "tried", "[I", true)
  | 25 => ("WidthCampaignsModel", "penalty", "I", false)
  | 26 => ("WidthCampaignsModel", "changes", "I", false)
  | 27 => ("WidthCampaignsModel", "moved", "I", false)
  | _ => ("WidthCampaignsModel", "changed", "[Z", true)
def wx_tM : Nat → FieldType := fun k => match k with
  | 0 => .int
  | 1 => .int
  | 2 => (.array .int)
  | 3 => (.array .int)
  | 4 => (.array .int)
  | 5 => (.array .int)
  | 6 => (.array .int)
  | 7 => (.array .int)
  | 8 => (.array .int)
  | 9 => (.array .int)
  | 10 => (.array .int)
  | 11 => (.array .int)
  | 12 => .int
  | 13 => (.array .int)
  | 14 => (.array .int)
  | 15 => (.array .int)
  | 16 => .int
  | 17 => .int
  | 18 => .int
  | 19 => .int
  | 20 => .boolean
  | 21 => .boolean
  | 22 => .boolean
  | 23 => (.array .int)
  | 24 => (.array .int)
  | 25 => .int
  | 26 => .int
  | 27 => .int
  | _ => (.array .boolean)
theorem wx_nM : ∀ a, a < 29 → ∀ b, b < 29 → a ≠ b → (wx_TM a).2.1 ≠ (wx_TM b).2.1 := by decide +kernel
theorem wx_toM : ∀ k, k < 29 → parseFieldDescriptor (wx_TM k).2.2.1 = some (wx_tM k) := by decide +kernel
abbrev wx_cl : List vw_C := [("WidthCampaigns", wx_TW, 7), ("WidthCampaigns$Plant", wx_TP, 15), ("WidthCampaigns$JumpTable", wx_TJ, 4), ("WidthCampaigns$WidthGroups", wx_TG, 4), ("WidthCampaigns$Line", wx_TL, 10), ("WidthCampaigns$Search", wx_TS, 7), ("WidthCampaignsModel", wx_TM, 29)]
def wx_all : List Cond := lw_tbl.filter goodWord
theorem wx_mem {w : Cond} (i : Nat) (h : lw_tbl[i]? = some w) (hg : goodWord w = true) : w ∈ wx_all := List.mem_filter.mpr ⟨List.mem_of_getElem? h, hg⟩
theorem wx_hw {c0 w : Cond} {args : Array Value} {s : State} (hts : ∀ w ∈ c0 :: wx_all, w.before args s = true) (h : w ∈ wx_all) : w.before args s = true := hts w (List.mem_cons_of_mem _ h)
theorem wx_good {c0 c1 : Cond} (h : c1 ∈ wx_all) : GoodIn (c0 :: wx_all) (c1 :: wx_all) := by
  intro w hw
  have hm : w ∈ wx_all := by
    rcases List.mem_cons.mp hw with rfl | h1
    · exact h
    · exact h1
  exact ⟨List.mem_cons_of_mem _ hm, good_of_word (List.mem_filter.mp hm).2⟩
theorem wj_W : ∀ w ∈ u_ws "WidthCampaigns" wx_TW 7, w ∈ lw_tbl := by decide +kernel
theorem wj2_W : ∀ w ∈ u_ws "WidthCampaigns" wx_TW 7, goodWord w = true := by decide +kernel
theorem wi_W : ∀ w ∈ u_ws "WidthCampaigns" wx_TW 7, w ∈ wx_all := fun w h => List.mem_filter.mpr ⟨wj_W w h, wj2_W w h⟩
theorem wj_P : ∀ w ∈ u_ws "WidthCampaigns$Plant" wx_TP 15, w ∈ lw_tbl := by decide +kernel
theorem wj2_P : ∀ w ∈ u_ws "WidthCampaigns$Plant" wx_TP 15, goodWord w = true := by decide +kernel
theorem wi_P : ∀ w ∈ u_ws "WidthCampaigns$Plant" wx_TP 15, w ∈ wx_all := fun w h => List.mem_filter.mpr ⟨wj_P w h, wj2_P w h⟩
theorem wj_J : ∀ w ∈ u_ws "WidthCampaigns$JumpTable" wx_TJ 4, w ∈ lw_tbl := by decide +kernel
theorem wj2_J : ∀ w ∈ u_ws "WidthCampaigns$JumpTable" wx_TJ 4, goodWord w = true := by decide +kernel
theorem wi_J : ∀ w ∈ u_ws "WidthCampaigns$JumpTable" wx_TJ 4, w ∈ wx_all := fun w h => List.mem_filter.mpr ⟨wj_J w h, wj2_J w h⟩
theorem wj_G : ∀ w ∈ u_ws "WidthCampaigns$WidthGroups" wx_TG 4, w ∈ lw_tbl := by decide +kernel
theorem wj2_G : ∀ w ∈ u_ws "WidthCampaigns$WidthGroups" wx_TG 4, goodWord w = true := by decide +kernel
theorem wi_G : ∀ w ∈ u_ws "WidthCampaigns$WidthGroups" wx_TG 4, w ∈ wx_all := fun w h => List.mem_filter.mpr ⟨wj_G w h, wj2_G w h⟩
theorem wj_L : ∀ w ∈ u_ws "WidthCampaigns$Line" wx_TL 10, w ∈ lw_tbl := by decide +kernel
theorem wj2_L : ∀ w ∈ u_ws "WidthCampaigns$Line" wx_TL 10, goodWord w = true := by decide +kernel
theorem wi_L : ∀ w ∈ u_ws "WidthCampaigns$Line" wx_TL 10, w ∈ wx_all := fun w h => List.mem_filter.mpr ⟨wj_L w h, wj2_L w h⟩
theorem wj_S : ∀ w ∈ u_ws "WidthCampaigns$Search" wx_TS 7, w ∈ lw_tbl := by decide +kernel
theorem wj2_S : ∀ w ∈ u_ws "WidthCampaigns$Search" wx_TS 7, goodWord w = true := by decide +kernel
theorem wi_S : ∀ w ∈ u_ws "WidthCampaigns$Search" wx_TS 7, w ∈ wx_all := fun w h => List.mem_filter.mpr ⟨wj_S w h, wj2_S w h⟩
theorem wj_M : ∀ w ∈ u_ws "WidthCampaignsModel" wx_TM 29, w ∈ lw_tbl := by decide +kernel
theorem wj2_M : ∀ w ∈ u_ws "WidthCampaignsModel" wx_TM 29, goodWord w = true := by decide +kernel
theorem wi_M : ∀ w ∈ u_ws "WidthCampaignsModel" wx_TM 29, w ∈ wx_all := fun w h => List.mem_filter.mpr ⟨wj_M w h, wj2_M w h⟩
