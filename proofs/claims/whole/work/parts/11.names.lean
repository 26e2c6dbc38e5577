/-! names, fields, methods, words: by program (wip/whole/gen/names.py) -/
def RX0 : String := "CutTrees$CutTable"
def TX0 : u_T := fun k => match k with
  | 0 => ("CutTrees$CutTable", "graph", "LCutTrees$Graph;", true)
  | 1 => ("CutTrees$CutTable", "cuts", "[I", true)
  | _ => ("CutTrees$CutTable", "changesSeen", "I", false)
def tyX0 : Nat → FieldType := fun k => match k with
  | 0 => (.object "CutTrees$Graph")
  | 1 => (.array .int)
  | _ => .int
theorem nmX0 : ∀ a, a < 3 → ∀ b, b < 3 → a ≠ b → (TX0 a).2.1 ≠ (TX0 b).2.1 := by decide +kernel
theorem tyX0_ok : ∀ k, k < 3 → parseFieldDescriptor (TX0 k).2.2.1 = some (tyX0 k) := by decide +kernel
def RX1 : String := "CutTrees$Drawing"
def TX1 : u_T := fun k => match k with
  | 0 => ("CutTrees$Drawing", "graph", "LCutTrees$Graph;", true)
  | _ => ("CutTrees$Drawing", "groups", "[I", true)
def tyX1 : Nat → FieldType := fun k => match k with
  | 0 => (.object "CutTrees$Graph")
  | _ => (.array .int)
theorem nmX1 : ∀ a, a < 2 → ∀ b, b < 2 → a ≠ b → (TX1 a).2.1 ≠ (TX1 b).2.1 := by decide +kernel
theorem tyX1_ok : ∀ k, k < 2 → parseFieldDescriptor (TX1 k).2.2.1 = some (tyX1 k) := by decide +kernel
def RX2 : String := "CutTrees$Graph"
def TX2 : u_T := fun k => match k with
  | 0 => ("CutTrees$Graph", "from", "[I", true)
  | 1 => ("CutTrees$Graph", "to", "[I", true)
  | 2 => ("CutTrees$Graph", "weight", "[I", true)
  | 3 => ("CutTrees$Graph", "weightBetween", "[[I", true)
  | 4 => ("CutTrees$Graph", "neighbours", "[I", true)
  | 5 => ("CutTrees$Graph", "nodes", "I", false)
  | 6 => ("CutTrees$Graph", "arcsMade", "I", false)
  | 7 => ("CutTrees$Graph", "arcsLeft", "I", false)
  | _ => ("CutTrees$Graph", "changes", "I", false)
def tyX2 : Nat → FieldType := fun k => match k with
  | 0 => (.array .int)
  | 1 => (.array .int)
  | 2 => (.array .int)
  | 3 => (.array (.array .int))
  | 4 => (.array .int)
  | 5 => .int
  | 6 => .int
  | 7 => .int
  | _ => .int
theorem nmX2 : ∀ a, a < 9 → ∀ b, b < 9 → a ≠ b → (TX2 a).2.1 ≠ (TX2 b).2.1 := by decide +kernel
theorem tyX2_ok : ∀ k, k < 9 → parseFieldDescriptor (TX2 k).2.2.1 = some (tyX2 k) := by decide +kernel
def RX3 : String := "CutTrees$PairTree"
def TX3 : u_T := fun k => match k with
  | 0 => ("CutTrees$PairTree", "graph", "LCutTrees$Graph;", true)
  | 1 => ("CutTrees$PairTree", "table", "LCutTrees$CutTable;", true)
  | 2 => ("CutTrees$PairTree", "parents", "[I", true)
  | 3 => ("CutTrees$PairTree", "branches", "[I", true)
  | _ => ("CutTrees$PairTree", "changesSeen", "I", false)
def tyX3 : Nat → FieldType := fun k => match k with
  | 0 => (.object "CutTrees$Graph")
  | 1 => (.object "CutTrees$CutTable")
  | 2 => (.array .int)
  | 3 => (.array .int)
  | _ => .int
theorem nmX3 : ∀ a, a < 5 → ∀ b, b < 5 → a ≠ b → (TX3 a).2.1 ≠ (TX3 b).2.1 := by decide +kernel
theorem tyX3_ok : ∀ k, k < 5 → parseFieldDescriptor (TX3 k).2.2.1 = some (tyX3 k) := by decide +kernel
def RX4 : String := "CutTrees$Parting"
def TX4 : u_T := fun k => match k with
  | 0 => ("CutTrees$Parting", "graph", "LCutTrees$Graph;", true)
  | 1 => ("CutTrees$Parting", "k", "I", true)
  | 2 => ("CutTrees$Parting", "tried", "[I", true)
  | 3 => ("CutTrees$Parting", "best", "[I", true)
  | 4 => ("CutTrees$Parting", "leastCost", "I", false)
  | _ => ("CutTrees$Parting", "changesSeen", "I", false)
def tyX4 : Nat → FieldType := fun k => match k with
  | 0 => (.object "CutTrees$Graph")
  | 1 => .int
  | 2 => (.array .int)
  | 3 => (.array .int)
  | 4 => .int
  | _ => .int
theorem nmX4 : ∀ a, a < 6 → ∀ b, b < 6 → a ≠ b → (TX4 a).2.1 ≠ (TX4 b).2.1 := by decide +kernel
theorem tyX4_ok : ∀ k, k < 6 → parseFieldDescriptor (TX4 k).2.2.1 = some (tyX4 k) := by decide +kernel
def RX5 : String := "CutTrees"
def TX5 : u_T := fun k => match k with
  | 0 => ("CutTrees", "graph", "LCutTrees$Graph;", true)
  | 1 => ("CutTrees", "table", "LCutTrees$CutTable;", true)
  | 2 => ("CutTrees", "tree", "LCutTrees$PairTree;", true)
  | 3 => ("CutTrees", "drawing", "LCutTrees$Drawing;", true)
  | _ => ("CutTrees", "partings", "[LCutTrees$Parting;", true)
def tyX5 : Nat → FieldType := fun k => match k with
  | 0 => (.object "CutTrees$Graph")
  | 1 => (.object "CutTrees$CutTable")
  | 2 => (.object "CutTrees$PairTree")
  | 3 => (.object "CutTrees$Drawing")
  | _ => (.array (.object "CutTrees$Parting"))
theorem nmX5 : ∀ a, a < 5 → ∀ b, b < 5 → a ≠ b → (TX5 a).2.1 ≠ (TX5 b).2.1 := by decide +kernel
theorem tyX5_ok : ∀ k, k < 5 → parseFieldDescriptor (TX5 k).2.2.1 = some (tyX5 k) := by decide +kernel
def RX6 : String := "CutTreesModel"
def TX6 : u_T := fun k => match k with
  | 0 => ("CutTreesModel", "nodes", "I", false)
  | 1 => ("CutTreesModel", "arcs", "I", false)
  | 2 => ("CutTreesModel", "left", "I", false)
  | 3 => ("CutTreesModel", "ones", "[I", true)
  | 4 => ("CutTreesModel", "others", "[I", true)
  | 5 => ("CutTreesModel", "weights", "[I", true)
  | 6 => ("CutTreesModel", "there", "[Z", true)
  | 7 => ("CutTreesModel", "between", "[I", true)
  | 8 => ("CutTreesModel", "near", "[I", true)
  | 9 => ("CutTreesModel", "cuts", "[I", true)
  | 10 => ("CutTreesModel", "isNew", "Z", false)
  | 11 => ("CutTreesModel", "parents", "[I", true)
  | 12 => ("CutTreesModel", "branches", "[I", true)
  | 13 => ("CutTreesModel", "partCost", "[I", true)
  | 14 => ("CutTreesModel", "arePartsNew", "[Z", true)
  | 15 => ("CutTreesModel", "partNumbers", "[I", true)
  | 16 => ("CutTreesModel", "least", "I", false)
  | 17 => ("CutTreesModel", "groups", "[I", true)
  | 18 => ("CutTreesModel", "trial", "[I", true)
  | _ => ("CutTreesModel", "costs", "[I", true)
def tyX6 : Nat → FieldType := fun k => match k with
  | 0 => .int
  | 1 => .int
  | 2 => .int
  | 3 => (.array .int)
  | 4 => (.array .int)
  | 5 => (.array .int)
  | 6 => (.array .boolean)
  | 7 => (.array .int)
  | 8 => (.array .int)
  | 9 => (.array .int)
  | 10 => .boolean
  | 11 => (.array .int)
  | 12 => (.array .int)
  | 13 => (.array .int)
  | 14 => (.array .boolean)
  | 15 => (.array .int)
  | 16 => .int
  | 17 => (.array .int)
  | 18 => (.array .int)
  | _ => (.array .int)
theorem nmX6 : ∀ a, a < 20 → ∀ b, b < 20 → a ≠ b → (TX6 a).2.1 ≠ (TX6 b).2.1 := by decide +kernel
theorem tyX6_ok : ∀ k, k < 20 → parseFieldDescriptor (TX6 k).2.2.1 = some (tyX6 k) := by decide +kernel
def RL : String := "CutTreesLaw"
abbrev vwCl : List vw_C := [(RX0, TX0, 3), (RX1, TX1, 2), (RX2, TX2, 9), (RX3, TX3, 5), (RX4, TX4, 6), (RX5, TX5, 5), (RX6, TX6, 20)]
abbrev cX5_init : ByteArray := prog_1_method_1_code
def yX5_init : MethodName := ⟨RX5, "<init>", "()V"⟩
abbrev cX5_node : ByteArray := prog_1_method_2_code
def yX5_node : MethodName := ⟨RX5, "node", "()I"⟩
abbrev cX5_arc : ByteArray := prog_1_method_3_code
def yX5_arc : MethodName := ⟨RX5, "arc", "(III)I"⟩
abbrev cX5_drop : ByteArray := prog_1_method_4_code
def yX5_drop : MethodName := ⟨RX5, "drop", "(I)I"⟩
abbrev cX5_clear : ByteArray := prog_1_method_5_code
def yX5_clear : MethodName := ⟨RX5, "clear", "()I"⟩
abbrev cX5_cut : ByteArray := prog_1_method_6_code
def yX5_cut : MethodName := ⟨RX5, "cut", "(I)I"⟩
abbrev cX5_pair : ByteArray := prog_1_method_7_code
def yX5_pair : MethodName := ⟨RX5, "pair", "(II)I"⟩
abbrev cX5_side : ByteArray := prog_1_method_8_code
def yX5_side : MethodName := ⟨RX5, "side", "(II)I"⟩
abbrev cX5_parent : ByteArray := prog_1_method_9_code
def yX5_parent : MethodName := ⟨RX5, "parent", "(I)I"⟩
abbrev cX5_branch : ByteArray := prog_1_method_10_code
def yX5_branch : MethodName := ⟨RX5, "branch", "(I)I"⟩
abbrev cX5_way : ByteArray := prog_1_method_11_code
def yX5_way : MethodName := ⟨RX5, "way", "(II)I"⟩
abbrev cX5_least : ByteArray := prog_1_method_12_code
def yX5_least : MethodName := ⟨RX5, "least", "()I"⟩
abbrev cX5_counted : ByteArray := prog_1_method_13_code
def yX5_counted : MethodName := ⟨RX5, "counted", "()I"⟩
abbrev cX5_every : ByteArray := prog_1_method_14_code
def yX5_every : MethodName := ⟨RX5, "every", "(I)I"⟩
abbrev cX5_drawn : ByteArray := prog_1_method_15_code
def yX5_drawn : MethodName := ⟨RX5, "drawn", "(I)I"⟩
abbrev cX5_parts : ByteArray := prog_1_method_16_code
def yX5_parts : MethodName := ⟨RX5, "parts", "(I)I"⟩
abbrev cX5_partOf : ByteArray := prog_1_method_17_code
def yX5_partOf : MethodName := ⟨RX5, "partOf", "(II)I"⟩
abbrev cX5_refusalOfParts : ByteArray := prog_1_method_18_code
def yX5_refusalOfParts : MethodName := ⟨RX5, "refusalOfParts", "(I)I"⟩
abbrev cX5_sparsest : ByteArray := prog_1_method_19_code
def yX5_sparsest : MethodName := ⟨RX5, "sparsest", "()I"⟩
abbrev cX5_share : ByteArray := prog_1_method_20_code
def yX5_share : MethodName := ⟨RX5, "share", "(I)I"⟩
abbrev cX5_greatestDivisor : ByteArray := prog_1_method_21_code
def yX5_greatestDivisor : MethodName := ⟨RX5, "greatestDivisor", "(II)I"⟩
abbrev cX5_bars : ByteArray := prog_1_method_22_code
def yX5_bars : MethodName := ⟨RX5, "bars", "(II)I"⟩
abbrev cX5_barSet : ByteArray := prog_1_method_23_code
def yX5_barSet : MethodName := ⟨RX5, "barSet", "(II)I"⟩
abbrev cX5_without : ByteArray := prog_1_method_24_code
def yX5_without : MethodName := ⟨RX5, "without", "(I)I"⟩
abbrev cX5_freshTable : ByteArray := prog_1_method_25_code
def yX5_freshTable : MethodName := ⟨RX5, "freshTable", "()LCutTrees$CutTable;"⟩
abbrev cX5_freshTree : ByteArray := prog_1_method_26_code
def yX5_freshTree : MethodName := ⟨RX5, "freshTree", "()LCutTrees$PairTree;"⟩
abbrev cX5_freshParting : ByteArray := prog_1_method_27_code
def yX5_freshParting : MethodName := ⟨RX5, "freshParting", "(I)LCutTrees$Parting;"⟩
abbrev cX5_nextWithin : ByteArray := prog_1_method_28_code
def yX5_nextWithin : MethodName := ⟨RX5, "nextWithin", "(II)I"⟩
abbrev cX6_init : ByteArray := prog_8_method_1_code
def yX6_init : MethodName := ⟨RX6, "<init>", "()V"⟩
abbrev cX6_changed : ByteArray := prog_8_method_2_code
def yX6_changed : MethodName := ⟨RX6, "changed", "()V"⟩
abbrev cX6_node : ByteArray := prog_8_method_3_code
def yX6_node : MethodName := ⟨RX6, "node", "()I"⟩
abbrev cX6_areTwo : ByteArray := prog_8_method_4_code
def yX6_areTwo : MethodName := ⟨RX6, "areTwo", "(II)Z"⟩
abbrev cX6_arc : ByteArray := prog_8_method_5_code
def yX6_arc : MethodName := ⟨RX6, "arc", "(III)I"⟩
abbrev cX6_drop : ByteArray := prog_8_method_6_code
def yX6_drop : MethodName := ⟨RX6, "drop", "(I)I"⟩
abbrev cX6_clear : ByteArray := prog_8_method_7_code
def yX6_clear : MethodName := ⟨RX6, "clear", "()I"⟩
abbrev cX6_all : ByteArray := prog_8_method_8_code
def yX6_all : MethodName := ⟨RX6, "all", "()I"⟩
abbrev cX6_make : ByteArray := prog_8_method_9_code
def yX6_make : MethodName := ⟨RX6, "make", "()V"⟩
abbrev cX6_cut : ByteArray := prog_8_method_10_code
def yX6_cut : MethodName := ⟨RX6, "cut", "(I)I"⟩
abbrev cX6_sideOf : ByteArray := prog_8_method_11_code
def yX6_sideOf : MethodName := ⟨RX6, "sideOf", "(II)I"⟩
abbrev cX6_tree : ByteArray := prog_8_method_12_code
def yX6_tree : MethodName := ⟨RX6, "tree", "()V"⟩
abbrev cX6_pair : ByteArray := prog_8_method_13_code
def yX6_pair : MethodName := ⟨RX6, "pair", "(II)I"⟩
abbrev cX6_side : ByteArray := prog_8_method_14_code
def yX6_side : MethodName := ⟨RX6, "side", "(II)I"⟩
abbrev cX6_ofNode : ByteArray := prog_8_method_15_code
def yX6_ofNode : MethodName := ⟨RX6, "ofNode", "(I[I)I"⟩
abbrev cX6_parent : ByteArray := prog_8_method_16_code
def yX6_parent : MethodName := ⟨RX6, "parent", "(I)I"⟩
abbrev cX6_branch : ByteArray := prog_8_method_17_code
def yX6_branch : MethodName := ⟨RX6, "branch", "(I)I"⟩
abbrev cX6_up : ByteArray := prog_8_method_18_code
def yX6_up : MethodName := ⟨RX6, "up", "(I)I"⟩
abbrev cX6_way : ByteArray := prog_8_method_19_code
def yX6_way : MethodName := ⟨RX6, "way", "(II)I"⟩
abbrev cX6_leastCut : ByteArray := prog_8_method_20_code
def yX6_leastCut : MethodName := ⟨RX6, "leastCut", "()I"⟩
abbrev cX6_least : ByteArray := prog_8_method_21_code
def yX6_least : MethodName := ⟨RX6, "least", "()I"⟩
abbrev cX6_leastOne : ByteArray := prog_8_method_22_code
def yX6_leastOne : MethodName := ⟨RX6, "leastOne", "(I)I"⟩
abbrev cX6_counted : ByteArray := prog_8_method_23_code
def yX6_counted : MethodName := ⟨RX6, "counted", "()I"⟩
abbrev cX6_every : ByteArray := prog_8_method_24_code
def yX6_every : MethodName := ⟨RX6, "every", "(I)I"⟩
abbrev cX6_drawn : ByteArray := prog_8_method_25_code
def yX6_drawn : MethodName := ⟨RX6, "drawn", "(I)I"⟩
abbrev cX6_isLoose : ByteArray := prog_8_method_26_code
def yX6_isLoose : MethodName := ⟨RX6, "isLoose", "(I)Z"⟩
abbrev cX6_loose : ByteArray := prog_8_method_27_code
def yX6_loose : MethodName := ⟨RX6, "loose", "()I"⟩
abbrev cX6_partFault : ByteArray := prog_8_method_28_code
def yX6_partFault : MethodName := ⟨RX6, "partFault", "(I)I"⟩
abbrev cX6_findParts : ByteArray := prog_8_method_29_code
def yX6_findParts : MethodName := ⟨RX6, "findParts", "(I)V"⟩
abbrev cX6_isFull : ByteArray := prog_8_method_30_code
def yX6_isFull : MethodName := ⟨RX6, "isFull", "(I)Z"⟩
abbrev cX6_parts : ByteArray := prog_8_method_31_code
def yX6_parts : MethodName := ⟨RX6, "parts", "(I)I"⟩
abbrev cX6_partOf : ByteArray := prog_8_method_32_code
def yX6_partOf : MethodName := ⟨RX6, "partOf", "(II)I"⟩
abbrev cX6_count : ByteArray := prog_8_method_33_code
def yX6_count : MethodName := ⟨RX6, "count", "(I)I"⟩
abbrev cX6_below : ByteArray := prog_8_method_34_code
def yX6_below : MethodName := ⟨RX6, "below", "(I)I"⟩
abbrev cX6_sparsestOf : ByteArray := prog_8_method_35_code
def yX6_sparsestOf : MethodName := ⟨RX6, "sparsestOf", "()I"⟩
abbrev cX6_sparsest : ByteArray := prog_8_method_36_code
def yX6_sparsest : MethodName := ⟨RX6, "sparsest", "()I"⟩
abbrev cX6_share : ByteArray := prog_8_method_37_code
def yX6_share : MethodName := ⟨RX6, "share", "(I)I"⟩
abbrev cX6_part : ByteArray := prog_8_method_38_code
def yX6_part : MethodName := ⟨RX6, "part", "(II)I"⟩
abbrev cX6_barsOf : ByteArray := prog_8_method_39_code
def yX6_barsOf : MethodName := ⟨RX6, "barsOf", "(II)I"⟩
abbrev cX6_barFault : ByteArray := prog_8_method_40_code
def yX6_barFault : MethodName := ⟨RX6, "barFault", "(II)I"⟩
abbrev cX6_bars : ByteArray := prog_8_method_41_code
def yX6_bars : MethodName := ⟨RX6, "bars", "(II)I"⟩
abbrev cX6_barSet : ByteArray := prog_8_method_42_code
def yX6_barSet : MethodName := ⟨RX6, "barSet", "(II)I"⟩
abbrev cX6_without : ByteArray := prog_8_method_43_code
def yX6_without : MethodName := ⟨RX6, "without", "(I)I"⟩
abbrev cX0_init : ByteArray := prog_2_method_1_code
def yX0_init : MethodName := ⟨RX0, "<init>", "(LCutTrees$Graph;)V"⟩
abbrev cX0_refresh : ByteArray := prog_2_method_2_code
def yX0_refresh : MethodName := ⟨RX0, "refresh", "()V"⟩
abbrev cX0_fillSetsUpTo : ByteArray := prog_2_method_3_code
def yX0_fillSetsUpTo : MethodName := ⟨RX0, "fillSetsUpTo", "(I)V"⟩
abbrev cX0_cutAt : ByteArray := prog_2_method_4_code
def yX0_cutAt : MethodName := ⟨RX0, "cutAt", "(I)I"⟩
abbrev cX0_cutBetween : ByteArray := prog_2_method_5_code
def yX0_cutBetween : MethodName := ⟨RX0, "cutBetween", "(II)I"⟩
abbrev cX0_sideAgainst : ByteArray := prog_2_method_6_code
def yX0_sideAgainst : MethodName := ⟨RX0, "sideAgainst", "(II)I"⟩
abbrev cX0_leastCut : ByteArray := prog_2_method_7_code
def yX0_leastCut : MethodName := ⟨RX0, "leastCut", "()I"⟩
abbrev cX0_countLeastOnes : ByteArray := prog_2_method_8_code
def yX0_countLeastOnes : MethodName := ⟨RX0, "countLeastOnes", "()I"⟩
abbrev cX0_leastOne : ByteArray := prog_2_method_9_code
def yX0_leastOne : MethodName := ⟨RX0, "leastOne", "(I)I"⟩
abbrev cX0_sparsestSide : ByteArray := prog_2_method_10_code
def yX0_sparsestSide : MethodName := ⟨RX0, "sparsestSide", "()I"⟩
abbrev cX1_init : ByteArray := prog_3_method_1_code
def yX1_init : MethodName := ⟨RX1, "<init>", "(LCutTrees$Graph;)V"⟩
abbrev cX1_drawBy : ByteArray := prog_3_method_2_code
def yX1_drawBy : MethodName := ⟨RX1, "drawBy", "(I)I"⟩
abbrev cX1_isBetweenGroups : ByteArray := prog_3_method_3_code
def yX1_isBetweenGroups : MethodName := ⟨RX1, "isBetweenGroups", "(I)Z"⟩
abbrev cX1_weightBetweenGroups : ByteArray := prog_3_method_4_code
def yX1_weightBetweenGroups : MethodName := ⟨RX1, "weightBetweenGroups", "()I"⟩
abbrev cX1_joinByArcAt : ByteArray := prog_3_method_5_code
def yX1_joinByArcAt : MethodName := ⟨RX1, "joinByArcAt", "(I)V"⟩
abbrev cX1_joinGroups : ByteArray := prog_3_method_6_code
def yX1_joinGroups : MethodName := ⟨RX1, "joinGroups", "(I)V"⟩
abbrev cX2_init : ByteArray := prog_4_method_1_code
def yX2_init : MethodName := ⟨RX2, "<init>", "()V"⟩
abbrev cX2_hasNode : ByteArray := prog_4_method_2_code
def yX2_hasNode : MethodName := ⟨RX2, "hasNode", "(I)Z"⟩
abbrev cX2_hasPair : ByteArray := prog_4_method_3_code
def yX2_hasPair : MethodName := ⟨RX2, "hasPair", "(II)Z"⟩
abbrev cX2_hasArc : ByteArray := prog_4_method_4_code
def yX2_hasArc : MethodName := ⟨RX2, "hasArc", "(I)Z"⟩
abbrev cX2_hasSet : ByteArray := prog_4_method_5_code
def yX2_hasSet : MethodName := ⟨RX2, "hasSet", "(I)Z"⟩
abbrev cX2_hasSides : ByteArray := prog_4_method_6_code
def yX2_hasSides : MethodName := ⟨RX2, "hasSides", "()Z"⟩
abbrev cX2_areJoined : ByteArray := prog_4_method_7_code
def yX2_areJoined : MethodName := ⟨RX2, "areJoined", "(II)Z"⟩
abbrev cX2_allNodes : ByteArray := prog_4_method_8_code
def yX2_allNodes : MethodName := ⟨RX2, "allNodes", "()I"⟩
abbrev cX2_addNode : ByteArray := prog_4_method_9_code
def yX2_addNode : MethodName := ⟨RX2, "addNode", "()I"⟩
abbrev cX2_addArc : ByteArray := prog_4_method_10_code
def yX2_addArc : MethodName := ⟨RX2, "addArc", "(III)I"⟩
abbrev cX2_removeArc : ByteArray := prog_4_method_11_code
def yX2_removeArc : MethodName := ⟨RX2, "removeArc", "(I)I"⟩
abbrev cX2_addBetween : ByteArray := prog_4_method_12_code
def yX2_addBetween : MethodName := ⟨RX2, "addBetween", "(III)V"⟩
abbrev cX2_removeAll : ByteArray := prog_4_method_13_code
def yX2_removeAll : MethodName := ⟨RX2, "removeAll", "()I"⟩
abbrev cX2_cutAround : ByteArray := prog_4_method_14_code
def yX2_cutAround : MethodName := ⟨RX2, "cutAround", "(I)I"⟩
abbrev cX2_weightAt : ByteArray := prog_4_method_15_code
def yX2_weightAt : MethodName := ⟨RX2, "weightAt", "(I)I"⟩
abbrev cX2_spread : ByteArray := prog_4_method_16_code
def yX2_spread : MethodName := ⟨RX2, "spread", "(I)I"⟩
abbrev cX2_reachedFrom : ByteArray := prog_4_method_17_code
def yX2_reachedFrom : MethodName := ⟨RX2, "reachedFrom", "(II)I"⟩
abbrev cX2_countConnected : ByteArray := prog_4_method_18_code
def yX2_countConnected : MethodName := ⟨RX2, "countConnected", "(I)I"⟩
abbrev cX2_fewestBars : ByteArray := prog_4_method_19_code
def yX2_fewestBars : MethodName := ⟨RX2, "fewestBars", "(II)I"⟩
abbrev cX3_init : ByteArray := prog_5_method_1_code
def yX3_init : MethodName := ⟨RX3, "<init>", "(LCutTrees$Graph;LCutTrees$CutTable;)V"⟩
abbrev cX3_refresh : ByteArray := prog_5_method_2_code
def yX3_refresh : MethodName := ⟨RX3, "refresh", "()V"⟩
abbrev cX3_hang : ByteArray := prog_5_method_3_code
def yX3_hang : MethodName := ⟨RX3, "hang", "(I)V"⟩
abbrev cX3_leastBranchBetween : ByteArray := prog_5_method_4_code
def yX3_leastBranchBetween : MethodName := ⟨RX3, "leastBranchBetween", "(II)I"⟩
abbrev cX4_init : ByteArray := prog_6_method_1_code
def yX4_init : MethodName := ⟨RX4, "<init>", "(LCutTrees$Graph;I)V"⟩
abbrev cX4_refresh : ByteArray := prog_6_method_2_code
def yX4_refresh : MethodName := ⟨RX4, "refresh", "()V"⟩
abbrev cX4_tryFrom : ByteArray := prog_6_method_3_code
def yX4_tryFrom : MethodName := ⟨RX4, "tryFrom", "(LCutTrees$Parting;III)V"⟩
abbrev cX4_costToLower : ByteArray := prog_6_method_4_code
def yX4_costToLower : MethodName := ⟨RX4, "costToLower", "(I)I"⟩
abbrev cX4_keepTried : ByteArray := prog_6_method_5_code
def yX4_keepTried : MethodName := ⟨RX4, "keepTried", "(I)V"⟩
abbrev cJI_bitCount : ByteArray := prog_9_method_49_code
def yJI_bitCount : MethodName := ⟨"java/lang/Integer", "bitCount", "(I)I"⟩
abbrev cJM_max : ByteArray := prog_10_method_65_code
def yJM_max : MethodName := ⟨"java/lang/Math", "max", "(II)I"⟩
abbrev cJM_min : ByteArray := prog_10_method_69_code
def yJM_min : MethodName := ⟨"java/lang/Math", "min", "(II)I"⟩
abbrev cL_law : ByteArray := code
/-- the words of the tables that stay good behind calls -/
def gT : List Cond := lw_tbl.filter goodWord
theorem gT_at {w : Cond} (i : Nat) (h : lw_tbl[i]? = some w) (hg : goodWord w = true) : w ∈ gT := List.mem_filter.mpr ⟨List.mem_of_getElem? h, hg⟩
theorem gT_in : ∀ w ∈ gT, w ∈ lw_tbl := fun w h => (List.mem_filter.mp h).1
theorem gT_sel (i : Nat) {q : MethodName × Nat} (h : lw_privs[i]? = some q) : Cond.selects q.1.cls q.1 q.1 ∈ gT := by
  refine List.mem_filter.mpr ⟨List.mem_append_left _ (List.mem_map.mpr ⟨q, List.mem_of_getElem? h, rfl⟩), rfl⟩
theorem gG {big : List Cond} {w : Cond} (hb : ∀ w ∈ gT, w ∈ big) (h : w ∈ gT) : GoodIn big (w :: gT) := fun v hv => by
  have hv2 : v ∈ gT := (List.mem_cons.mp hv).elim (fun e => e ▸ h) id
  exact ⟨hb v hv2, good_of_word (List.mem_filter.mp hv2).2⟩
theorem gGV {big : List Cond} {w : Cond} {own C : String} {idx : Nat} {y : MethodName} (hb : ∀ w ∈ gT, w ∈ big) (h : w ∈ gT) (h1 : Cond.methodLink own idx y ∈ gT) (h2 : Cond.instanceMethod y ∈ gT) (h3 : Cond.selects C y y ∈ gT) (h4 : Cond.initialized C ∈ gT) : GoodIn big (wsV own idx C y (w :: gT)) := fun v hv => by
  have hv2 : v ∈ gT := by
    rcases List.mem_append.mp hv with q | q
    · simp only [List.mem_cons, List.not_mem_nil, or_false] at q
      rcases q with rfl | rfl | rfl | rfl <;> assumption
    · exact (List.mem_cons.mp q).elim (fun e => e ▸ h) id
  exact ⟨hb v hv2, good_of_word (List.mem_filter.mp hv2).2⟩
theorem gGS {big : List Cond} {w : Cond} {own : String} {idx : Nat} {y : MethodName} (hb : ∀ w ∈ gT, w ∈ big) (h : w ∈ gT) (h1 : Cond.methodLink own idx y ∈ gT) (h2 : Cond.static y ∈ gT) (h4 : Cond.initialized own ∈ gT) : GoodIn big (wsS own idx y (w :: gT)) := fun v hv => by
  have hv2 : v ∈ gT := by
    rcases List.mem_append.mp hv with q | q
    · simp only [List.mem_cons, List.not_mem_nil, or_false] at q
      rcases q with rfl | rfl | rfl <;> assumption
    · exact (List.mem_cons.mp q).elim (fun e => e ▸ h) id
  exact ⟨hb v hv2, good_of_word (List.mem_filter.mp hv2).2⟩
theorem gC {c : Cond} : ∀ w ∈ gT, w ∈ c :: gT := fun _ h => List.mem_cons_of_mem _ h
