abbrev RX0 : String := "LogTree"
abbrev RX1 : String := "LogTreeModel"
abbrev RL : String := "LogTreeLaw"
abbrev RJ : String := "java/lang/Integer"
def TX0 : u_T := fun k => match k with
  | 0 => ("LogTree", "leafRow", "[J", true)
  | 1 => ("LogTree", "leafCount", "I", false)
  | 2 => ("LogTree", "proofRow", "[J", true)
  | _ => ("LogTree", "proofLength", "I", false)
def tyX0 : Nat → FieldType := fun k => match k with
  | 0 => .array .long
  | 1 => .int
  | 2 => .array .long
  | _ => .int
theorem nmX0 : ∀ a, a < 4 → ∀ b, b < 4 → a ≠ b → (TX0 a).2.1 ≠ (TX0 b).2.1 := by decide +kernel
theorem tyX0_ok : ∀ k, k < 4 → parseFieldDescriptor (TX0 k).2.2.1 = some (tyX0 k) := by decide +kernel
def TX1 : u_T := fun k => match k with
  | 0 => ("LogTreeModel", "thrown", "I", false)
  | 1 => ("LogTreeModel", "leaves", "I", false)
  | 2 => ("LogTreeModel", "length", "I", false)
  | 3 => ("LogTreeModel", "at", "I", false)
  | 4 => ("LogTreeModel", "leaf", "[J", true)
  | 5 => ("LogTreeModel", "proof", "[J", true)
  | 6 => ("LogTreeModel", "old", "J", false)
  | _ => ("LogTreeModel", "fresh", "J", false)
def tyX1 : Nat → FieldType := fun k => match k with
  | 0 => .int
  | 1 => .int
  | 2 => .int
  | 3 => .int
  | 4 => .array .long
  | 5 => .array .long
  | 6 => .long
  | _ => .long
theorem nmX1 : ∀ a, a < 8 → ∀ b, b < 8 → a ≠ b → (TX1 a).2.1 ≠ (TX1 b).2.1 := by decide +kernel
theorem tyX1_ok : ∀ k, k < 8 → parseFieldDescriptor (TX1 k).2.2.1 = some (tyX1 k) := by decide +kernel
def tq_W : List Cond := lw_tbl.filter goodWord
theorem tq_mem {w : Cond} (k : Nat) (h : lw_tbl[k]? = some w) (g : goodWord w = true) : w ∈ tq_W := List.mem_filter.mpr ⟨List.mem_of_getElem? h, g⟩
theorem inX0 : ∀ w ∈ u_ws RX0 TX0 4, w ∈ tq_W := fun w h => List.mem_filter.mpr ⟨(by decide +kernel : ∀ w ∈ u_ws RX0 TX0 4, w ∈ lw_tbl) w h, (by decide +kernel : ∀ w ∈ u_ws RX0 TX0 4, goodWord w = true) w h⟩
theorem inX1 : ∀ w ∈ u_ws RX1 TX1 8, w ∈ tq_W := fun w h => List.mem_filter.mpr ⟨(by decide +kernel : ∀ w ∈ u_ws RX1 TX1 8, w ∈ lw_tbl) w h, (by decide +kernel : ∀ w ∈ u_ws RX1 TX1 8, goodWord w = true) w h⟩
abbrev qc_X_init : ByteArray := prog_1_method_1_code
abbrev qy_X_init : MethodName := ⟨RX0, "<init>", "()V"⟩
abbrev qk_X_init : Cond := .code qy_X_init qc_X_init 1 none
def qw_X_init : List Cond := qk_X_init :: tq_W
abbrev qc_X_shows : ByteArray := prog_1_method_12_code
abbrev qy_X_shows : MethodName := ⟨RX0, "shows", "(IIJJ)Z"⟩
abbrev qk_X_shows : Cond := .code qy_X_shows qc_X_shows 7 (some .boolean)
def qw_X_shows : List Cond := qk_X_shows :: tq_W
abbrev qc_X_pathLength : ByteArray := prog_1_method_21_code
abbrev qy_X_pathLength : MethodName := ⟨RX0, "pathLength", "(II)I"⟩
abbrev qk_X_pathLength : Cond := .code qy_X_pathLength qc_X_pathLength 6 (some .int)
def qw_X_pathLength : List Cond := qk_X_pathLength :: tq_W
abbrev qc_X_powerBelow : ByteArray := prog_1_method_19_code
abbrev qy_X_powerBelow : MethodName := ⟨RX0, "powerBelow", "(I)I"⟩
abbrev qk_X_powerBelow : Cond := .code qy_X_powerBelow qc_X_powerBelow 2 (some .int)
def qw_X_powerBelow : List Cond := qk_X_powerBelow :: tq_W
abbrev qc_X_leafOf : ByteArray := prog_1_method_17_code
abbrev qy_X_leafOf : MethodName := ⟨RX0, "leafOf", "(J)J"⟩
abbrev qk_X_leafOf : Cond := .code qy_X_leafOf qc_X_leafOf 2 (some .long)
def qw_X_leafOf : List Cond := qk_X_leafOf :: tq_W
abbrev qc_X_mix : ByteArray := prog_1_method_16_code
abbrev qy_X_mix : MethodName := ⟨RX0, "mix", "(JJ)J"⟩
abbrev qk_X_mix : Cond := .code qy_X_mix qc_X_mix 8 (some .long)
def qw_X_mix : List Cond := qk_X_mix :: tq_W
abbrev qc_X_headByPath : ByteArray := prog_1_method_23_code
abbrev qy_X_headByPath : MethodName := ⟨RX0, "headByPath", "([JIIIJ)J"⟩
abbrev qk_X_headByPath : Cond := .code qy_X_headByPath qc_X_headByPath 9 (some .long)
def qw_X_headByPath : List Cond := qk_X_headByPath :: tq_W
abbrev qc_X_nodeOf : ByteArray := prog_1_method_18_code
abbrev qy_X_nodeOf : MethodName := ⟨RX0, "nodeOf", "(JJ)J"⟩
abbrev qk_X_nodeOf : Cond := .code qy_X_nodeOf qc_X_nodeOf 4 (some .long)
def qw_X_nodeOf : List Cond := qk_X_nodeOf :: tq_W
abbrev qc_X_grew : ByteArray := prog_1_method_13_code
abbrev qy_X_grew : MethodName := ⟨RX0, "grew", "(IIJJ)Z"⟩
abbrev qk_X_grew : Cond := .code qy_X_grew qc_X_grew 7 (some .boolean)
def qw_X_grew : List Cond := qk_X_grew :: tq_W
abbrev qc_X_stepsLength : ByteArray := prog_1_method_22_code
abbrev qy_X_stepsLength : MethodName := ⟨RX0, "stepsLength", "(II)I"⟩
abbrev qk_X_stepsLength : Cond := .code qy_X_stepsLength qc_X_stepsLength 7 (some .int)
def qw_X_stepsLength : List Cond := qk_X_stepsLength :: tq_W
abbrev qc_X_oldHeadBySteps : ByteArray := prog_1_method_24_code
abbrev qy_X_oldHeadBySteps : MethodName := ⟨RX0, "oldHeadBySteps", "([JIIIJ)J"⟩
abbrev qk_X_oldHeadBySteps : Cond := .code qy_X_oldHeadBySteps qc_X_oldHeadBySteps 9 (some .long)
def qw_X_oldHeadBySteps : List Cond := qk_X_oldHeadBySteps :: tq_W
abbrev qc_X_newHeadBySteps : ByteArray := prog_1_method_25_code
abbrev qy_X_newHeadBySteps : MethodName := ⟨RX0, "newHeadBySteps", "([JIIIJ)J"⟩
abbrev qk_X_newHeadBySteps : Cond := .code qy_X_newHeadBySteps qc_X_newHeadBySteps 9 (some .long)
def qw_X_newHeadBySteps : List Cond := qk_X_newHeadBySteps :: tq_W
abbrev qc_X_count : ByteArray := prog_1_method_15_code
abbrev qy_X_count : MethodName := ⟨RX0, "count", "(I)I"⟩
abbrev qk_X_count : Cond := .code qy_X_count qc_X_count 2 (some .int)
def qw_X_count : List Cond := qk_X_count :: tq_W
abbrev qc_J_bitCount : ByteArray := prog_8_method_49_code
abbrev qy_J_bitCount : MethodName := ⟨RJ, "bitCount", "(I)I"⟩
abbrev qk_J_bitCount : Cond := .code qy_J_bitCount qc_J_bitCount 1 (some .int)
def qw_J_bitCount : List Cond := qk_J_bitCount :: tq_W
abbrev qc_L_add : ByteArray := method_3_code
abbrev qy_L_add : MethodName := ⟨RL, "add", "(LLogTree;J[J)I"⟩
abbrev qk_L_add : Cond := .codeWith qy_L_add qc_L_add 5 (some .int) [(0, 9, 12, 13)]
def qw_L_add : List Cond := qk_L_add :: tq_W
abbrev qc_X_add : ByteArray := prog_1_method_2_code
abbrev qy_X_add : MethodName := ⟨RX0, "add", "(J)I"⟩
abbrev qk_X_add : Cond := .code qy_X_add qc_X_add 3 (some .int)
def qw_X_add : List Cond := qk_X_add :: tq_W
abbrev qc_L_fill : ByteArray := method_4_code
abbrev qy_L_fill : MethodName := ⟨RL, "fill", "(LLogTree;IJJ[J)I"⟩
abbrev qk_L_fill : Cond := .codeWith qy_L_fill qc_L_fill 8 (some .int) [(0, 13, 16, 19), (0, 13, 20, 13)]
def qw_L_fill : List Cond := qk_L_fill :: tq_W
abbrev qc_X_fill : ByteArray := prog_1_method_3_code
abbrev qy_X_fill : MethodName := ⟨RX0, "fill", "(IJJ)I"⟩
abbrev qk_X_fill : Cond := .code qy_X_fill qc_X_fill 7 (some .int)
def qw_X_fill : List Cond := qk_X_fill :: tq_W
abbrev qc_L_cut : ByteArray := method_5_code
abbrev qy_L_cut : MethodName := ⟨RL, "cut", "(LLogTree;I[J)I"⟩
abbrev qk_L_cut : Cond := .codeWith qy_L_cut qc_L_cut 4 (some .int) [(0, 9, 12, 19)]
def qw_L_cut : List Cond := qk_L_cut :: tq_W
abbrev qc_X_cut : ByteArray := prog_1_method_4_code
abbrev qy_X_cut : MethodName := ⟨RX0, "cut", "(I)I"⟩
abbrev qk_X_cut : Cond := .code qy_X_cut qc_X_cut 3 (some .int)
def qw_X_cut : List Cond := qk_X_cut :: tq_W
abbrev qc_L_head : ByteArray := method_6_code
abbrev qy_L_head : MethodName := ⟨RL, "head", "(LLogTree;I[J)I"⟩
abbrev qk_L_head : Cond := .codeWith qy_L_head qc_L_head 4 (some .int) [(0, 8, 11, 29)]
def qw_L_head : List Cond := qk_L_head :: tq_W
abbrev qc_X_head : ByteArray := prog_1_method_5_code
abbrev qy_X_head : MethodName := ⟨RX0, "head", "(I)J"⟩
abbrev qk_X_head : Cond := .code qy_X_head qc_X_head 2 (some .long)
def qw_X_head : List Cond := qk_X_head :: tq_W
abbrev qc_X_headOf : ByteArray := prog_1_method_20_code
abbrev qy_X_headOf : MethodName := ⟨RX0, "headOf", "([JII)J"⟩
abbrev qk_X_headOf : Cond := .code qy_X_headOf qc_X_headOf 5 (some .long)
def qw_X_headOf : List Cond := qk_X_headOf :: tq_W
abbrev qc_L_part : ByteArray := method_7_code
abbrev qy_L_part : MethodName := ⟨RL, "part", "(LLogTree;II[J)I"⟩
abbrev qk_L_part : Cond := .codeWith qy_L_part qc_L_part 5 (some .int) [(0, 9, 12, 29)]
def qw_L_part : List Cond := qk_L_part :: tq_W
abbrev qc_X_part : ByteArray := prog_1_method_6_code
abbrev qy_X_part : MethodName := ⟨RX0, "part", "(II)J"⟩
abbrev qk_X_part : Cond := .code qy_X_part qc_X_part 3 (some .long)
def qw_X_part : List Cond := qk_X_part :: tq_W
abbrev qc_L_path : ByteArray := method_8_code
abbrev qy_L_path : MethodName := ⟨RL, "path", "(LLogTree;II[J)I"⟩
abbrev qk_L_path : Cond := .codeWith qy_L_path qc_L_path 5 (some .int) [(0, 10, 13, 29)]
def qw_L_path : List Cond := qk_L_path :: tq_W
abbrev qc_X_path : ByteArray := prog_1_method_7_code
abbrev qy_X_path : MethodName := ⟨RX0, "path", "(II)I"⟩
abbrev qk_X_path : Cond := .code qy_X_path qc_X_path 7 (some .int)
def qw_X_path : List Cond := qk_X_path :: tq_W
abbrev qc_L_steps : ByteArray := method_9_code
abbrev qy_L_steps : MethodName := ⟨RL, "steps", "(LLogTree;II[J)I"⟩
abbrev qk_L_steps : Cond := .codeWith qy_L_steps qc_L_steps 5 (some .int) [(0, 10, 13, 29)]
def qw_L_steps : List Cond := qk_L_steps :: tq_W
abbrev qc_X_steps : ByteArray := prog_1_method_8_code
abbrev qy_X_steps : MethodName := ⟨RX0, "steps", "(II)I"⟩
abbrev qk_X_steps : Cond := .code qy_X_steps qc_X_steps 7 (some .int)
def qw_X_steps : List Cond := qk_X_steps :: tq_W
abbrev qc_L_proof : ByteArray := method_10_code
abbrev qy_L_proof : MethodName := ⟨RL, "proof", "(LLogTree;I[J)I"⟩
abbrev qk_L_proof : Cond := .codeWith qy_L_proof qc_L_proof 4 (some .int) [(0, 8, 11, 45)]
def qw_L_proof : List Cond := qk_L_proof :: tq_W
abbrev qc_X_proof : ByteArray := prog_1_method_9_code
abbrev qy_X_proof : MethodName := ⟨RX0, "proof", "(I)J"⟩
abbrev qk_X_proof : Cond := .code qy_X_proof qc_X_proof 2 (some .long)
def qw_X_proof : List Cond := qk_X_proof :: tq_W
abbrev qc_L_alter : ByteArray := method_11_code
abbrev qy_L_alter : MethodName := ⟨RL, "alter", "(LLogTree;IJ[J)I"⟩
abbrev qk_L_alter : Cond := .codeWith qy_L_alter qc_L_alter 6 (some .int) [(0, 10, 13, 45)]
def qw_L_alter : List Cond := qk_L_alter :: tq_W
abbrev qc_X_alter : ByteArray := prog_1_method_10_code
abbrev qy_X_alter : MethodName := ⟨RX0, "alter", "(IJ)J"⟩
abbrev qk_X_alter : Cond := .code qy_X_alter qc_X_alter 6 (some .long)
def qw_X_alter : List Cond := qk_X_alter :: tq_W
abbrev qc_L_length : ByteArray := method_12_code
abbrev qy_L_length : MethodName := ⟨RL, "length", "(LLogTree;I[J)I"⟩
abbrev qk_L_length : Cond := .codeWith qy_L_length qc_L_length 4 (some .int) [(0, 9, 12, 19)]
def qw_L_length : List Cond := qk_L_length :: tq_W
abbrev qc_X_length : ByteArray := prog_1_method_11_code
abbrev qy_X_length : MethodName := ⟨RX0, "length", "(I)I"⟩
abbrev qk_X_length : Cond := .code qy_X_length qc_X_length 4 (some .int)
def qw_X_length : List Cond := qk_X_length :: tq_W
abbrev qc_L_find : ByteArray := method_13_code
abbrev qy_L_find : MethodName := ⟨RL, "find", "(LLogTree;IJ[J)I"⟩
abbrev qk_L_find : Cond := .codeWith qy_L_find qc_L_find 6 (some .int) [(0, 11, 14, 29)]
def qw_L_find : List Cond := qk_L_find :: tq_W
abbrev qc_X_find : ByteArray := prog_1_method_14_code
abbrev qy_X_find : MethodName := ⟨RX0, "find", "(IJ)I"⟩
abbrev qk_X_find : Cond := .code qy_X_find qc_X_find 7 (some .int)
def qw_X_find : List Cond := qk_X_find :: tq_W
abbrev qc_M_init : ByteArray := prog_3_method_1_code
abbrev qy_M_init : MethodName := ⟨RX1, "<init>", "()V"⟩
abbrev qk_M_init : Cond := .code qy_M_init qc_M_init 1 none
def qw_M_init : List Cond := qk_M_init :: tq_W
abbrev qc_M_thrown : ByteArray := prog_3_method_2_code
abbrev qy_M_thrown : MethodName := ⟨RX1, "thrown", "()I"⟩
abbrev qk_M_thrown : Cond := .code qy_M_thrown qc_M_thrown 1 (some .int)
def qw_M_thrown : List Cond := qk_M_thrown :: tq_W
abbrev qc_M_add : ByteArray := prog_3_method_8_code
abbrev qy_M_add : MethodName := ⟨RX1, "add", "(J)I"⟩
abbrev qk_M_add : Cond := .code qy_M_add qc_M_add 3 (some .int)
def qw_M_add : List Cond := qk_M_add :: tq_W
abbrev qc_M_fill : ByteArray := prog_3_method_9_code
abbrev qy_M_fill : MethodName := ⟨RX1, "fill", "(IJJ)I"⟩
abbrev qk_M_fill : Cond := .code qy_M_fill qc_M_fill 7 (some .int)
def qw_M_fill : List Cond := qk_M_fill :: tq_W
abbrev qc_M_cut : ByteArray := prog_3_method_10_code
abbrev qy_M_cut : MethodName := ⟨RX1, "cut", "(I)I"⟩
abbrev qk_M_cut : Cond := .code qy_M_cut qc_M_cut 3 (some .int)
def qw_M_cut : List Cond := qk_M_cut :: tq_W
abbrev qc_M_head : ByteArray := prog_3_method_11_code
abbrev qy_M_head : MethodName := ⟨RX1, "head", "(I)J"⟩
abbrev qk_M_head : Cond := .code qy_M_head qc_M_head 2 (some .long)
def qw_M_head : List Cond := qk_M_head :: tq_W
abbrev qc_M_headOf : ByteArray := prog_3_method_7_code
abbrev qy_M_headOf : MethodName := ⟨RX1, "headOf", "(II)J"⟩
abbrev qk_M_headOf : Cond := .code qy_M_headOf qc_M_headOf 6 (some .long)
def qw_M_headOf : List Cond := qk_M_headOf :: tq_W
abbrev qc_M_mix : ByteArray := prog_3_method_4_code
abbrev qy_M_mix : MethodName := ⟨RX1, "mix", "(JJ)J"⟩
abbrev qk_M_mix : Cond := .code qy_M_mix qc_M_mix 8 (some .long)
def qw_M_mix : List Cond := qk_M_mix :: tq_W
abbrev qc_M_below : ByteArray := prog_3_method_6_code
abbrev qy_M_below : MethodName := ⟨RX1, "below", "(I)I"⟩
abbrev qk_M_below : Cond := .code qy_M_below qc_M_below 2 (some .int)
def qw_M_below : List Cond := qk_M_below :: tq_W
abbrev qc_M_node : ByteArray := prog_3_method_5_code
abbrev qy_M_node : MethodName := ⟨RX1, "node", "(JJ)J"⟩
abbrev qk_M_node : Cond := .code qy_M_node qc_M_node 4 (some .long)
def qw_M_node : List Cond := qk_M_node :: tq_W
abbrev qc_M_part : ByteArray := prog_3_method_12_code
abbrev qy_M_part : MethodName := ⟨RX1, "part", "(II)J"⟩
abbrev qk_M_part : Cond := .code qy_M_part qc_M_part 3 (some .long)
def qw_M_part : List Cond := qk_M_part :: tq_W
abbrev qc_M_path : ByteArray := prog_3_method_15_code
abbrev qy_M_path : MethodName := ⟨RX1, "path", "(II)I"⟩
abbrev qk_M_path : Cond := .code qy_M_path qc_M_path 3 (some .int)
def qw_M_path : List Cond := qk_M_path :: tq_W
abbrev qc_M_pathOf : ByteArray := prog_3_method_14_code
abbrev qy_M_pathOf : MethodName := ⟨RX1, "pathOf", "(III)V"⟩
abbrev qk_M_pathOf : Cond := .code qy_M_pathOf qc_M_pathOf 5 none
def qw_M_pathOf : List Cond := qk_M_pathOf :: tq_W
abbrev qc_M_put : ByteArray := prog_3_method_13_code
abbrev qy_M_put : MethodName := ⟨RX1, "put", "(J)V"⟩
abbrev qk_M_put : Cond := .code qy_M_put qc_M_put 3 none
def qw_M_put : List Cond := qk_M_put :: tq_W
abbrev qc_M_steps : ByteArray := prog_3_method_17_code
abbrev qy_M_steps : MethodName := ⟨RX1, "steps", "(II)I"⟩
abbrev qk_M_steps : Cond := .code qy_M_steps qc_M_steps 3 (some .int)
def qw_M_steps : List Cond := qk_M_steps :: tq_W
abbrev qc_M_stepsOf : ByteArray := prog_3_method_16_code
abbrev qy_M_stepsOf : MethodName := ⟨RX1, "stepsOf", "(IIIZ)V"⟩
abbrev qk_M_stepsOf : Cond := .code qy_M_stepsOf qc_M_stepsOf 6 none
def qw_M_stepsOf : List Cond := qk_M_stepsOf :: tq_W
abbrev qc_M_proof : ByteArray := prog_3_method_18_code
abbrev qy_M_proof : MethodName := ⟨RX1, "proof", "(I)J"⟩
abbrev qk_M_proof : Cond := .code qy_M_proof qc_M_proof 2 (some .long)
def qw_M_proof : List Cond := qk_M_proof :: tq_W
abbrev qc_M_alter : ByteArray := prog_3_method_19_code
abbrev qy_M_alter : MethodName := ⟨RX1, "alter", "(IJ)J"⟩
abbrev qk_M_alter : Cond := .code qy_M_alter qc_M_alter 6 (some .long)
def qw_M_alter : List Cond := qk_M_alter :: tq_W
abbrev qc_M_length : ByteArray := prog_3_method_20_code
abbrev qy_M_length : MethodName := ⟨RX1, "length", "(I)I"⟩
abbrev qk_M_length : Cond := .code qy_M_length qc_M_length 4 (some .int)
def qw_M_length : List Cond := qk_M_length :: tq_W
abbrev qc_M_shows : ByteArray := prog_3_method_23_code
abbrev qy_M_shows : MethodName := ⟨RX1, "shows", "(IIJJ)Z"⟩
abbrev qk_M_shows : Cond := .code qy_M_shows qc_M_shows 9 (some .boolean)
def qw_M_shows : List Cond := qk_M_shows :: tq_W
abbrev qc_M_rootOf : ByteArray := prog_3_method_22_code
abbrev qy_M_rootOf : MethodName := ⟨RX1, "rootOf", "(IIJ)J"⟩
abbrev qk_M_rootOf : Cond := .code qy_M_rootOf qc_M_rootOf 8 (some .long)
def qw_M_rootOf : List Cond := qk_M_rootOf :: tq_W
abbrev qc_M_next : ByteArray := prog_3_method_21_code
abbrev qy_M_next : MethodName := ⟨RX1, "next", "()J"⟩
abbrev qk_M_next : Cond := .code qy_M_next qc_M_next 1 (some .long)
def qw_M_next : List Cond := qk_M_next :: tq_W
abbrev qc_M_grew : ByteArray := prog_3_method_25_code
abbrev qy_M_grew : MethodName := ⟨RX1, "grew", "(IIJJ)Z"⟩
abbrev qk_M_grew : Cond := .code qy_M_grew qc_M_grew 7 (some .boolean)
def qw_M_grew : List Cond := qk_M_grew :: tq_W
abbrev qc_M_both : ByteArray := prog_3_method_24_code
abbrev qy_M_both : MethodName := ⟨RX1, "both", "(IIZJ)V"⟩
abbrev qk_M_both : Cond := .code qy_M_both qc_M_both 9 none
def qw_M_both : List Cond := qk_M_both :: tq_W
abbrev qc_M_find : ByteArray := prog_3_method_26_code
abbrev qy_M_find : MethodName := ⟨RX1, "find", "(IJ)I"⟩
abbrev qk_M_find : Cond := .code qy_M_find qc_M_find 5 (some .int)
def qw_M_find : List Cond := qk_M_find :: tq_W
abbrev qc_M_count : ByteArray := prog_3_method_27_code
abbrev qy_M_count : MethodName := ⟨RX1, "count", "(I)I"⟩
abbrev qk_M_count : Cond := .code qy_M_count qc_M_count 4 (some .int)
def qw_M_count : List Cond := qk_M_count :: tq_W
abbrev qc_L_law : ByteArray := code
abbrev qy_L_law : MethodName := ⟨RL, "law", "([I)Z"⟩
theorem qm_0 : (Jvm.Cond.initialized "LogTreeLaw") ∈ tq_W := tq_mem 8 (by decide +kernel) rfl
theorem qm_1 : (Jvm.Cond.initialized "LogTree") ∈ tq_W := tq_mem 9 (by decide +kernel) rfl
theorem qm_2 : (Jvm.Cond.initialized "LogTreeModel") ∈ tq_W := tq_mem 10 (by decide +kernel) rfl
theorem qm_6 : (Jvm.Cond.initialized "java/lang/IllegalStateException") ∈ tq_W := tq_mem 14 (by decide +kernel) rfl
theorem qm_7 : (Jvm.Cond.initialized "java/lang/IllegalArgumentException") ∈ tq_W := tq_mem 15 (by decide +kernel) rfl
theorem qm_8 : (Jvm.Cond.initialized "java/util/NoSuchElementException") ∈ tq_W := tq_mem 16 (by decide +kernel) rfl
theorem qm_9 : (Jvm.Cond.initialized "java/lang/IndexOutOfBoundsException") ∈ tq_W := tq_mem 17 (by decide +kernel) rfl
theorem qm_10 : (Jvm.Cond.initialized "java/lang/Integer") ∈ tq_W := tq_mem 18 (by decide +kernel) rfl
theorem qm_11 : (Jvm.Cond.classLink "LogTreeLaw" (8 : Nat) "LogTree") ∈ tq_W := tq_mem 19 (by decide +kernel) rfl
theorem qm_12 : (Jvm.Cond.instantiable "LogTree" (4 : Nat)) ∈ tq_W := tq_mem 20 (by decide +kernel) rfl
theorem qm_13 : (Jvm.Cond.methodLink "LogTreeLaw" (58 : Nat) ({ cls := "LogTree", name := "<init>", desc := "()V" } : Jvm.MethodName)) ∈ tq_W := tq_mem 21 (by decide +kernel) rfl
theorem qm_14 : (Jvm.Cond.instanceMethod ({ cls := "LogTree", name := "<init>", desc := "()V" } : Jvm.MethodName)) ∈ tq_W := tq_mem 22 (by decide +kernel) rfl
theorem qm_15 : (Jvm.Cond.code ({ cls := "LogTree", name := "<init>", desc := "()V" } : Jvm.MethodName) prog_1_method_1_code (1 : Nat) (Option.none : Option Jvm.ClassFile.FieldType)) ∈ tq_W := tq_mem 23 (by decide +kernel) rfl
theorem qm_16 : (Jvm.Cond.methodLink "LogTree" (1 : Nat) ({ cls := "java/lang/Object", name := "<init>", desc := "()V" } : Jvm.MethodName)) ∈ tq_W := tq_mem 24 (by decide +kernel) rfl
theorem qm_17 : (Jvm.Cond.instanceMethod ({ cls := "java/lang/Object", name := "<init>", desc := "()V" } : Jvm.MethodName)) ∈ tq_W := tq_mem 25 (by decide +kernel) rfl
theorem qm_18 : (Jvm.Cond.code ({ cls := "java/lang/Object", name := "<init>", desc := "()V" } : Jvm.MethodName) object_method_1_code (1 : Nat) (Option.none : Option Jvm.ClassFile.FieldType)) ∈ tq_W := tq_mem 26 (by decide +kernel) rfl
theorem qm_19 : (Jvm.Cond.fieldLink "LogTree" (9 : Nat) "LogTree" "leafRow" "[J") ∈ tq_W := tq_mem 27 (by decide +kernel) rfl
theorem qm_20 : (Jvm.Cond.fieldLink "LogTree" (13 : Nat) "LogTree" "leafCount" "I") ∈ tq_W := tq_mem 28 (by decide +kernel) rfl
theorem qm_21 : (Jvm.Cond.fieldLink "LogTree" (17 : Nat) "LogTree" "proofRow" "[J") ∈ tq_W := tq_mem 29 (by decide +kernel) rfl
theorem qm_22 : (Jvm.Cond.fieldLink "LogTree" (20 : Nat) "LogTree" "proofLength" "I") ∈ tq_W := tq_mem 30 (by decide +kernel) rfl
theorem qm_32 : (Jvm.Cond.arrayClass Jvm.ClassFile.FieldType.long) ∈ tq_W := tq_mem 40 (by decide +kernel) rfl
theorem qm_33 : (Jvm.Cond.methodLink "LogTreeLaw" (105 : Nat) ({ cls := "LogTree", name := "shows", desc := "(IIJJ)Z" } : Jvm.MethodName)) ∈ tq_W := tq_mem 41 (by decide +kernel) rfl
theorem qm_34 : (Jvm.Cond.instanceMethod ({ cls := "LogTree", name := "shows", desc := "(IIJJ)Z" } : Jvm.MethodName)) ∈ tq_W := tq_mem 42 (by decide +kernel) rfl
theorem qm_35 : (Jvm.Cond.selects "LogTree" ({ cls := "LogTree", name := "shows", desc := "(IIJJ)Z" } : Jvm.MethodName) ({ cls := "LogTree", name := "shows", desc := "(IIJJ)Z" } : Jvm.MethodName)) ∈ tq_W := tq_mem 43 (by decide +kernel) rfl
theorem qm_36 : (Jvm.Cond.code ({ cls := "LogTree", name := "shows", desc := "(IIJJ)Z" } : Jvm.MethodName) prog_1_method_12_code (7 : Nat) (Option.some Jvm.ClassFile.FieldType.boolean)) ∈ tq_W := tq_mem 44 (by decide +kernel) rfl
theorem qm_37 : (Jvm.Cond.constant "LogTree" (54 : Nat) (1073741824 : Int32)) ∈ tq_W := tq_mem 45 (by decide +kernel) rfl
theorem qm_38 : (Jvm.Cond.methodLink "LogTree" (40 : Nat) ({ cls := "LogTree", name := "pathLength", desc := "(II)I" } : Jvm.MethodName)) ∈ tq_W := tq_mem 46 (by decide +kernel) rfl
theorem qm_39 : (Jvm.Cond.static ({ cls := "LogTree", name := "pathLength", desc := "(II)I" } : Jvm.MethodName)) ∈ tq_W := tq_mem 47 (by decide +kernel) rfl
theorem qm_40 : (Jvm.Cond.code ({ cls := "LogTree", name := "pathLength", desc := "(II)I" } : Jvm.MethodName) prog_1_method_21_code (6 : Nat) (Option.some Jvm.ClassFile.FieldType.int)) ∈ tq_W := tq_mem 48 (by decide +kernel) rfl
theorem qm_41 : (Jvm.Cond.methodLink "LogTree" (44 : Nat) ({ cls := "LogTree", name := "powerBelow", desc := "(I)I" } : Jvm.MethodName)) ∈ tq_W := tq_mem 49 (by decide +kernel) rfl
theorem qm_42 : (Jvm.Cond.static ({ cls := "LogTree", name := "powerBelow", desc := "(I)I" } : Jvm.MethodName)) ∈ tq_W := tq_mem 50 (by decide +kernel) rfl
theorem qm_43 : (Jvm.Cond.code ({ cls := "LogTree", name := "powerBelow", desc := "(I)I" } : Jvm.MethodName) prog_1_method_19_code (2 : Nat) (Option.some Jvm.ClassFile.FieldType.int)) ∈ tq_W := tq_mem 51 (by decide +kernel) rfl
theorem qm_44 : (Jvm.Cond.methodLink "LogTree" (26 : Nat) ({ cls := "LogTree", name := "leafOf", desc := "(J)J" } : Jvm.MethodName)) ∈ tq_W := tq_mem 52 (by decide +kernel) rfl
theorem qm_45 : (Jvm.Cond.static ({ cls := "LogTree", name := "leafOf", desc := "(J)J" } : Jvm.MethodName)) ∈ tq_W := tq_mem 53 (by decide +kernel) rfl
theorem qm_46 : (Jvm.Cond.code ({ cls := "LogTree", name := "leafOf", desc := "(J)J" } : Jvm.MethodName) prog_1_method_17_code (2 : Nat) (Option.some Jvm.ClassFile.FieldType.long)) ∈ tq_W := tq_mem 54 (by decide +kernel) rfl
theorem qm_47 : (Jvm.Cond.methodLink "LogTree" (74 : Nat) ({ cls := "LogTree", name := "mix", desc := "(JJ)J" } : Jvm.MethodName)) ∈ tq_W := tq_mem 55 (by decide +kernel) rfl
theorem qm_48 : (Jvm.Cond.static ({ cls := "LogTree", name := "mix", desc := "(JJ)J" } : Jvm.MethodName)) ∈ tq_W := tq_mem 56 (by decide +kernel) rfl
theorem qm_49 : (Jvm.Cond.code ({ cls := "LogTree", name := "mix", desc := "(JJ)J" } : Jvm.MethodName) prog_1_method_16_code (8 : Nat) (Option.some Jvm.ClassFile.FieldType.long)) ∈ tq_W := tq_mem 57 (by decide +kernel) rfl
theorem qm_50 : (Jvm.Cond.constantLong "LogTree" (70 : Nat) (-7046029254386353131 : Int64)) ∈ tq_W := tq_mem 58 (by decide +kernel) rfl
theorem qm_51 : (Jvm.Cond.constantLong "LogTree" (72 : Nat) (-4658895280553007687 : Int64)) ∈ tq_W := tq_mem 59 (by decide +kernel) rfl
theorem qm_52 : (Jvm.Cond.methodLink "LogTree" (55 : Nat) ({ cls := "LogTree", name := "headByPath", desc := "([JIIIJ)J" } : Jvm.MethodName)) ∈ tq_W := tq_mem 60 (by decide +kernel) rfl
theorem qm_53 : (Jvm.Cond.static ({ cls := "LogTree", name := "headByPath", desc := "([JIIIJ)J" } : Jvm.MethodName)) ∈ tq_W := tq_mem 61 (by decide +kernel) rfl
theorem qm_54 : (Jvm.Cond.code ({ cls := "LogTree", name := "headByPath", desc := "([JIIIJ)J" } : Jvm.MethodName) prog_1_method_23_code (9 : Nat) (Option.some Jvm.ClassFile.FieldType.long)) ∈ tq_W := tq_mem 62 (by decide +kernel) rfl
theorem qm_55 : (Jvm.Cond.methodLink "LogTree" (80 : Nat) ({ cls := "LogTree", name := "nodeOf", desc := "(JJ)J" } : Jvm.MethodName)) ∈ tq_W := tq_mem 63 (by decide +kernel) rfl
theorem qm_56 : (Jvm.Cond.static ({ cls := "LogTree", name := "nodeOf", desc := "(JJ)J" } : Jvm.MethodName)) ∈ tq_W := tq_mem 64 (by decide +kernel) rfl
theorem qm_57 : (Jvm.Cond.code ({ cls := "LogTree", name := "nodeOf", desc := "(JJ)J" } : Jvm.MethodName) prog_1_method_18_code (4 : Nat) (Option.some Jvm.ClassFile.FieldType.long)) ∈ tq_W := tq_mem 65 (by decide +kernel) rfl
theorem qm_58 : (Jvm.Cond.constantLong "LogTree" (78 : Nat) (2 : Int64)) ∈ tq_W := tq_mem 66 (by decide +kernel) rfl
theorem qm_59 : (Jvm.Cond.methodLink "LogTreeLaw" (110 : Nat) ({ cls := "LogTree", name := "grew", desc := "(IIJJ)Z" } : Jvm.MethodName)) ∈ tq_W := tq_mem 67 (by decide +kernel) rfl
theorem qm_60 : (Jvm.Cond.instanceMethod ({ cls := "LogTree", name := "grew", desc := "(IIJJ)Z" } : Jvm.MethodName)) ∈ tq_W := tq_mem 68 (by decide +kernel) rfl
theorem qm_61 : (Jvm.Cond.selects "LogTree" ({ cls := "LogTree", name := "grew", desc := "(IIJJ)Z" } : Jvm.MethodName) ({ cls := "LogTree", name := "grew", desc := "(IIJJ)Z" } : Jvm.MethodName)) ∈ tq_W := tq_mem 69 (by decide +kernel) rfl
theorem qm_62 : (Jvm.Cond.code ({ cls := "LogTree", name := "grew", desc := "(IIJJ)Z" } : Jvm.MethodName) prog_1_method_13_code (7 : Nat) (Option.some Jvm.ClassFile.FieldType.boolean)) ∈ tq_W := tq_mem 70 (by decide +kernel) rfl
theorem qm_63 : (Jvm.Cond.methodLink "LogTree" (48 : Nat) ({ cls := "LogTree", name := "stepsLength", desc := "(II)I" } : Jvm.MethodName)) ∈ tq_W := tq_mem 71 (by decide +kernel) rfl
theorem qm_64 : (Jvm.Cond.static ({ cls := "LogTree", name := "stepsLength", desc := "(II)I" } : Jvm.MethodName)) ∈ tq_W := tq_mem 72 (by decide +kernel) rfl
theorem qm_65 : (Jvm.Cond.code ({ cls := "LogTree", name := "stepsLength", desc := "(II)I" } : Jvm.MethodName) prog_1_method_22_code (7 : Nat) (Option.some Jvm.ClassFile.FieldType.int)) ∈ tq_W := tq_mem 73 (by decide +kernel) rfl
theorem qm_66 : (Jvm.Cond.methodLink "LogTree" (59 : Nat) ({ cls := "LogTree", name := "oldHeadBySteps", desc := "([JIIIJ)J" } : Jvm.MethodName)) ∈ tq_W := tq_mem 74 (by decide +kernel) rfl
theorem qm_67 : (Jvm.Cond.static ({ cls := "LogTree", name := "oldHeadBySteps", desc := "([JIIIJ)J" } : Jvm.MethodName)) ∈ tq_W := tq_mem 75 (by decide +kernel) rfl
theorem qm_68 : (Jvm.Cond.code ({ cls := "LogTree", name := "oldHeadBySteps", desc := "([JIIIJ)J" } : Jvm.MethodName) prog_1_method_24_code (9 : Nat) (Option.some Jvm.ClassFile.FieldType.long)) ∈ tq_W := tq_mem 76 (by decide +kernel) rfl
theorem qm_69 : (Jvm.Cond.methodLink "LogTree" (62 : Nat) ({ cls := "LogTree", name := "newHeadBySteps", desc := "([JIIIJ)J" } : Jvm.MethodName)) ∈ tq_W := tq_mem 77 (by decide +kernel) rfl
theorem qm_70 : (Jvm.Cond.static ({ cls := "LogTree", name := "newHeadBySteps", desc := "([JIIIJ)J" } : Jvm.MethodName)) ∈ tq_W := tq_mem 78 (by decide +kernel) rfl
theorem qm_71 : (Jvm.Cond.code ({ cls := "LogTree", name := "newHeadBySteps", desc := "([JIIIJ)J" } : Jvm.MethodName) prog_1_method_25_code (9 : Nat) (Option.some Jvm.ClassFile.FieldType.long)) ∈ tq_W := tq_mem 79 (by decide +kernel) rfl
theorem qm_72 : (Jvm.Cond.methodLink "LogTreeLaw" (117 : Nat) ({ cls := "LogTree", name := "count", desc := "(I)I" } : Jvm.MethodName)) ∈ tq_W := tq_mem 80 (by decide +kernel) rfl
theorem qm_73 : (Jvm.Cond.instanceMethod ({ cls := "LogTree", name := "count", desc := "(I)I" } : Jvm.MethodName)) ∈ tq_W := tq_mem 81 (by decide +kernel) rfl
theorem qm_74 : (Jvm.Cond.selects "LogTree" ({ cls := "LogTree", name := "count", desc := "(I)I" } : Jvm.MethodName) ({ cls := "LogTree", name := "count", desc := "(I)I" } : Jvm.MethodName)) ∈ tq_W := tq_mem 82 (by decide +kernel) rfl
theorem qm_75 : (Jvm.Cond.code ({ cls := "LogTree", name := "count", desc := "(I)I" } : Jvm.MethodName) prog_1_method_15_code (2 : Nat) (Option.some Jvm.ClassFile.FieldType.int)) ∈ tq_W := tq_mem 83 (by decide +kernel) rfl
theorem qm_76 : (Jvm.Cond.methodLink "LogTree" (65 : Nat) ({ cls := "java/lang/Integer", name := "bitCount", desc := "(I)I" } : Jvm.MethodName)) ∈ tq_W := tq_mem 84 (by decide +kernel) rfl
theorem qm_77 : (Jvm.Cond.static ({ cls := "java/lang/Integer", name := "bitCount", desc := "(I)I" } : Jvm.MethodName)) ∈ tq_W := tq_mem 85 (by decide +kernel) rfl
theorem qm_78 : (Jvm.Cond.code ({ cls := "java/lang/Integer", name := "bitCount", desc := "(I)I" } : Jvm.MethodName) prog_8_method_49_code (1 : Nat) (Option.some Jvm.ClassFile.FieldType.int)) ∈ tq_W := tq_mem 86 (by decide +kernel) rfl
theorem qm_79 : (Jvm.Cond.constant "java/lang/Integer" (265 : Nat) (1431655765 : Int32)) ∈ tq_W := tq_mem 87 (by decide +kernel) rfl
theorem qm_80 : (Jvm.Cond.constant "java/lang/Integer" (266 : Nat) (858993459 : Int32)) ∈ tq_W := tq_mem 88 (by decide +kernel) rfl
theorem qm_81 : (Jvm.Cond.constant "java/lang/Integer" (267 : Nat) (252645135 : Int32)) ∈ tq_W := tq_mem 89 (by decide +kernel) rfl
theorem qm_82 : (Jvm.Cond.methodLink "LogTreeLaw" (64 : Nat) ({ cls := "LogTreeLaw", name := "add", desc := "(LLogTree;J[J)I" } : Jvm.MethodName)) ∈ tq_W := tq_mem 90 (by decide +kernel) rfl
theorem qm_83 : (Jvm.Cond.static ({ cls := "LogTreeLaw", name := "add", desc := "(LLogTree;J[J)I" } : Jvm.MethodName)) ∈ tq_W := tq_mem 91 (by decide +kernel) rfl
theorem qm_84 : (Jvm.Cond.codeWith ({ cls := "LogTreeLaw", name := "add", desc := "(LLogTree;J[J)I" } : Jvm.MethodName) method_3_code (5 : Nat) (Option.some Jvm.ClassFile.FieldType.int) [((0 : Nat), (9 : Nat), (12 : Nat), (13 : Nat))]) ∈ tq_W := tq_mem 92 (by decide +kernel) rfl
theorem qm_85 : (Jvm.Cond.classLink "LogTreeLaw" (13 : Nat) "java/lang/IllegalStateException") ∈ tq_W := tq_mem 93 (by decide +kernel) rfl
theorem qm_86 : (Jvm.Cond.methodLink "LogTreeLaw" (7 : Nat) ({ cls := "LogTree", name := "add", desc := "(J)I" } : Jvm.MethodName)) ∈ tq_W := tq_mem 94 (by decide +kernel) rfl
theorem qm_87 : (Jvm.Cond.instanceMethod ({ cls := "LogTree", name := "add", desc := "(J)I" } : Jvm.MethodName)) ∈ tq_W := tq_mem 95 (by decide +kernel) rfl
theorem qm_88 : (Jvm.Cond.selects "LogTree" ({ cls := "LogTree", name := "add", desc := "(J)I" } : Jvm.MethodName) ({ cls := "LogTree", name := "add", desc := "(J)I" } : Jvm.MethodName)) ∈ tq_W := tq_mem 96 (by decide +kernel) rfl
theorem qm_89 : (Jvm.Cond.code ({ cls := "LogTree", name := "add", desc := "(J)I" } : Jvm.MethodName) prog_1_method_2_code (3 : Nat) (Option.some Jvm.ClassFile.FieldType.int)) ∈ tq_W := tq_mem 97 (by decide +kernel) rfl
theorem qm_90 : (Jvm.Cond.classLink "LogTree" (23 : Nat) "java/lang/IllegalStateException") ∈ tq_W := tq_mem 98 (by decide +kernel) rfl
theorem qm_91 : (Jvm.Cond.instantiable "java/lang/IllegalStateException" (6 : Nat)) ∈ tq_W := tq_mem 99 (by decide +kernel) rfl
theorem qm_132 : (Jvm.Cond.methodLink "LogTree" (25 : Nat) ({ cls := "java/lang/IllegalStateException", name := "<init>", desc := "()V" } : Jvm.MethodName)) ∈ tq_W := tq_mem 140 (by decide +kernel) rfl
theorem qm_133 : (Jvm.Cond.instanceMethod ({ cls := "java/lang/IllegalStateException", name := "<init>", desc := "()V" } : Jvm.MethodName)) ∈ tq_W := tq_mem 141 (by decide +kernel) rfl
theorem qm_134 : (Jvm.Cond.code ({ cls := "java/lang/IllegalStateException", name := "<init>", desc := "()V" } : Jvm.MethodName) prog_6_method_1_code (1 : Nat) (Option.none : Option Jvm.ClassFile.FieldType)) ∈ tq_W := tq_mem 142 (by decide +kernel) rfl
theorem qm_154 : (Jvm.Cond.methodLink "LogTreeLaw" (74 : Nat) ({ cls := "LogTreeLaw", name := "fill", desc := "(LLogTree;IJJ[J)I" } : Jvm.MethodName)) ∈ tq_W := tq_mem 162 (by decide +kernel) rfl
theorem qm_155 : (Jvm.Cond.static ({ cls := "LogTreeLaw", name := "fill", desc := "(LLogTree;IJJ[J)I" } : Jvm.MethodName)) ∈ tq_W := tq_mem 163 (by decide +kernel) rfl
theorem qm_156 : (Jvm.Cond.codeWith ({ cls := "LogTreeLaw", name := "fill", desc := "(LLogTree;IJJ[J)I" } : Jvm.MethodName) method_4_code (8 : Nat) (Option.some Jvm.ClassFile.FieldType.int) [((0 : Nat), (13 : Nat), (16 : Nat), (19 : Nat)), ((0 : Nat), (13 : Nat), (20 : Nat), (13 : Nat))]) ∈ tq_W := tq_mem 164 (by decide +kernel) rfl
theorem qm_157 : (Jvm.Cond.classLink "LogTreeLaw" (19 : Nat) "java/lang/IllegalArgumentException") ∈ tq_W := tq_mem 165 (by decide +kernel) rfl
theorem qm_158 : (Jvm.Cond.methodLink "LogTreeLaw" (15 : Nat) ({ cls := "LogTree", name := "fill", desc := "(IJJ)I" } : Jvm.MethodName)) ∈ tq_W := tq_mem 166 (by decide +kernel) rfl
theorem qm_159 : (Jvm.Cond.instanceMethod ({ cls := "LogTree", name := "fill", desc := "(IJJ)I" } : Jvm.MethodName)) ∈ tq_W := tq_mem 167 (by decide +kernel) rfl
theorem qm_160 : (Jvm.Cond.selects "LogTree" ({ cls := "LogTree", name := "fill", desc := "(IJJ)I" } : Jvm.MethodName) ({ cls := "LogTree", name := "fill", desc := "(IJJ)I" } : Jvm.MethodName)) ∈ tq_W := tq_mem 168 (by decide +kernel) rfl
theorem qm_161 : (Jvm.Cond.code ({ cls := "LogTree", name := "fill", desc := "(IJJ)I" } : Jvm.MethodName) prog_1_method_3_code (7 : Nat) (Option.some Jvm.ClassFile.FieldType.int)) ∈ tq_W := tq_mem 169 (by decide +kernel) rfl
theorem qm_162 : (Jvm.Cond.classLink "LogTree" (30 : Nat) "java/lang/IllegalArgumentException") ∈ tq_W := tq_mem 170 (by decide +kernel) rfl
theorem qm_163 : (Jvm.Cond.instantiable "java/lang/IllegalArgumentException" (6 : Nat)) ∈ tq_W := tq_mem 171 (by decide +kernel) rfl
theorem qm_171 : (Jvm.Cond.methodLink "LogTree" (32 : Nat) ({ cls := "java/lang/IllegalArgumentException", name := "<init>", desc := "()V" } : Jvm.MethodName)) ∈ tq_W := tq_mem 179 (by decide +kernel) rfl
theorem qm_172 : (Jvm.Cond.instanceMethod ({ cls := "java/lang/IllegalArgumentException", name := "<init>", desc := "()V" } : Jvm.MethodName)) ∈ tq_W := tq_mem 180 (by decide +kernel) rfl
theorem qm_173 : (Jvm.Cond.code ({ cls := "java/lang/IllegalArgumentException", name := "<init>", desc := "()V" } : Jvm.MethodName) prog_5_method_1_code (1 : Nat) (Option.none : Option Jvm.ClassFile.FieldType)) ∈ tq_W := tq_mem 181 (by decide +kernel) rfl
theorem qm_177 : (Jvm.Cond.methodLink "LogTreeLaw" (78 : Nat) ({ cls := "LogTreeLaw", name := "cut", desc := "(LLogTree;I[J)I" } : Jvm.MethodName)) ∈ tq_W := tq_mem 185 (by decide +kernel) rfl
theorem qm_178 : (Jvm.Cond.static ({ cls := "LogTreeLaw", name := "cut", desc := "(LLogTree;I[J)I" } : Jvm.MethodName)) ∈ tq_W := tq_mem 186 (by decide +kernel) rfl
theorem qm_179 : (Jvm.Cond.codeWith ({ cls := "LogTreeLaw", name := "cut", desc := "(LLogTree;I[J)I" } : Jvm.MethodName) method_5_code (4 : Nat) (Option.some Jvm.ClassFile.FieldType.int) [((0 : Nat), (9 : Nat), (12 : Nat), (19 : Nat))]) ∈ tq_W := tq_mem 187 (by decide +kernel) rfl
theorem qm_180 : (Jvm.Cond.methodLink "LogTreeLaw" (21 : Nat) ({ cls := "LogTree", name := "cut", desc := "(I)I" } : Jvm.MethodName)) ∈ tq_W := tq_mem 188 (by decide +kernel) rfl
theorem qm_181 : (Jvm.Cond.instanceMethod ({ cls := "LogTree", name := "cut", desc := "(I)I" } : Jvm.MethodName)) ∈ tq_W := tq_mem 189 (by decide +kernel) rfl
theorem qm_182 : (Jvm.Cond.selects "LogTree" ({ cls := "LogTree", name := "cut", desc := "(I)I" } : Jvm.MethodName) ({ cls := "LogTree", name := "cut", desc := "(I)I" } : Jvm.MethodName)) ∈ tq_W := tq_mem 190 (by decide +kernel) rfl
theorem qm_183 : (Jvm.Cond.code ({ cls := "LogTree", name := "cut", desc := "(I)I" } : Jvm.MethodName) prog_1_method_4_code (3 : Nat) (Option.some Jvm.ClassFile.FieldType.int)) ∈ tq_W := tq_mem 191 (by decide +kernel) rfl
theorem qm_184 : (Jvm.Cond.methodLink "LogTreeLaw" (82 : Nat) ({ cls := "LogTreeLaw", name := "head", desc := "(LLogTree;I[J)I" } : Jvm.MethodName)) ∈ tq_W := tq_mem 192 (by decide +kernel) rfl
theorem qm_185 : (Jvm.Cond.static ({ cls := "LogTreeLaw", name := "head", desc := "(LLogTree;I[J)I" } : Jvm.MethodName)) ∈ tq_W := tq_mem 193 (by decide +kernel) rfl
theorem qm_186 : (Jvm.Cond.codeWith ({ cls := "LogTreeLaw", name := "head", desc := "(LLogTree;I[J)I" } : Jvm.MethodName) method_6_code (4 : Nat) (Option.some Jvm.ClassFile.FieldType.int) [((0 : Nat), (8 : Nat), (11 : Nat), (29 : Nat))]) ∈ tq_W := tq_mem 194 (by decide +kernel) rfl
theorem qm_187 : (Jvm.Cond.classLink "LogTreeLaw" (29 : Nat) "java/util/NoSuchElementException") ∈ tq_W := tq_mem 195 (by decide +kernel) rfl
theorem qm_188 : (Jvm.Cond.methodLink "LogTreeLaw" (25 : Nat) ({ cls := "LogTree", name := "head", desc := "(I)J" } : Jvm.MethodName)) ∈ tq_W := tq_mem 196 (by decide +kernel) rfl
theorem qm_189 : (Jvm.Cond.instanceMethod ({ cls := "LogTree", name := "head", desc := "(I)J" } : Jvm.MethodName)) ∈ tq_W := tq_mem 197 (by decide +kernel) rfl
theorem qm_190 : (Jvm.Cond.selects "LogTree" ({ cls := "LogTree", name := "head", desc := "(I)J" } : Jvm.MethodName) ({ cls := "LogTree", name := "head", desc := "(I)J" } : Jvm.MethodName)) ∈ tq_W := tq_mem 198 (by decide +kernel) rfl
theorem qm_191 : (Jvm.Cond.code ({ cls := "LogTree", name := "head", desc := "(I)J" } : Jvm.MethodName) prog_1_method_5_code (2 : Nat) (Option.some Jvm.ClassFile.FieldType.long)) ∈ tq_W := tq_mem 199 (by decide +kernel) rfl
theorem qm_192 : (Jvm.Cond.classLink "LogTree" (33 : Nat) "java/util/NoSuchElementException") ∈ tq_W := tq_mem 200 (by decide +kernel) rfl
theorem qm_193 : (Jvm.Cond.instantiable "java/util/NoSuchElementException" (6 : Nat)) ∈ tq_W := tq_mem 201 (by decide +kernel) rfl
theorem qm_201 : (Jvm.Cond.methodLink "LogTree" (35 : Nat) ({ cls := "java/util/NoSuchElementException", name := "<init>", desc := "()V" } : Jvm.MethodName)) ∈ tq_W := tq_mem 209 (by decide +kernel) rfl
theorem qm_202 : (Jvm.Cond.instanceMethod ({ cls := "java/util/NoSuchElementException", name := "<init>", desc := "()V" } : Jvm.MethodName)) ∈ tq_W := tq_mem 210 (by decide +kernel) rfl
theorem qm_203 : (Jvm.Cond.code ({ cls := "java/util/NoSuchElementException", name := "<init>", desc := "()V" } : Jvm.MethodName) prog_11_method_1_code (1 : Nat) (Option.none : Option Jvm.ClassFile.FieldType)) ∈ tq_W := tq_mem 211 (by decide +kernel) rfl
theorem qm_207 : (Jvm.Cond.methodLink "LogTree" (36 : Nat) ({ cls := "LogTree", name := "headOf", desc := "([JII)J" } : Jvm.MethodName)) ∈ tq_W := tq_mem 215 (by decide +kernel) rfl
theorem qm_208 : (Jvm.Cond.static ({ cls := "LogTree", name := "headOf", desc := "([JII)J" } : Jvm.MethodName)) ∈ tq_W := tq_mem 216 (by decide +kernel) rfl
theorem qm_209 : (Jvm.Cond.code ({ cls := "LogTree", name := "headOf", desc := "([JII)J" } : Jvm.MethodName) prog_1_method_20_code (5 : Nat) (Option.some Jvm.ClassFile.FieldType.long)) ∈ tq_W := tq_mem 217 (by decide +kernel) rfl
theorem qm_210 : (Jvm.Cond.methodLink "LogTreeLaw" (85 : Nat) ({ cls := "LogTreeLaw", name := "part", desc := "(LLogTree;II[J)I" } : Jvm.MethodName)) ∈ tq_W := tq_mem 218 (by decide +kernel) rfl
theorem qm_211 : (Jvm.Cond.static ({ cls := "LogTreeLaw", name := "part", desc := "(LLogTree;II[J)I" } : Jvm.MethodName)) ∈ tq_W := tq_mem 219 (by decide +kernel) rfl
theorem qm_212 : (Jvm.Cond.codeWith ({ cls := "LogTreeLaw", name := "part", desc := "(LLogTree;II[J)I" } : Jvm.MethodName) method_7_code (5 : Nat) (Option.some Jvm.ClassFile.FieldType.int) [((0 : Nat), (9 : Nat), (12 : Nat), (29 : Nat))]) ∈ tq_W := tq_mem 220 (by decide +kernel) rfl
theorem qm_213 : (Jvm.Cond.methodLink "LogTreeLaw" (31 : Nat) ({ cls := "LogTree", name := "part", desc := "(II)J" } : Jvm.MethodName)) ∈ tq_W := tq_mem 221 (by decide +kernel) rfl
theorem qm_214 : (Jvm.Cond.instanceMethod ({ cls := "LogTree", name := "part", desc := "(II)J" } : Jvm.MethodName)) ∈ tq_W := tq_mem 222 (by decide +kernel) rfl
theorem qm_215 : (Jvm.Cond.selects "LogTree" ({ cls := "LogTree", name := "part", desc := "(II)J" } : Jvm.MethodName) ({ cls := "LogTree", name := "part", desc := "(II)J" } : Jvm.MethodName)) ∈ tq_W := tq_mem 223 (by decide +kernel) rfl
theorem qm_216 : (Jvm.Cond.code ({ cls := "LogTree", name := "part", desc := "(II)J" } : Jvm.MethodName) prog_1_method_6_code (3 : Nat) (Option.some Jvm.ClassFile.FieldType.long)) ∈ tq_W := tq_mem 224 (by decide +kernel) rfl
theorem qm_217 : (Jvm.Cond.methodLink "LogTreeLaw" (89 : Nat) ({ cls := "LogTreeLaw", name := "path", desc := "(LLogTree;II[J)I" } : Jvm.MethodName)) ∈ tq_W := tq_mem 225 (by decide +kernel) rfl
theorem qm_218 : (Jvm.Cond.static ({ cls := "LogTreeLaw", name := "path", desc := "(LLogTree;II[J)I" } : Jvm.MethodName)) ∈ tq_W := tq_mem 226 (by decide +kernel) rfl
theorem qm_219 : (Jvm.Cond.codeWith ({ cls := "LogTreeLaw", name := "path", desc := "(LLogTree;II[J)I" } : Jvm.MethodName) method_8_code (5 : Nat) (Option.some Jvm.ClassFile.FieldType.int) [((0 : Nat), (10 : Nat), (13 : Nat), (29 : Nat))]) ∈ tq_W := tq_mem 227 (by decide +kernel) rfl
theorem qm_220 : (Jvm.Cond.methodLink "LogTreeLaw" (35 : Nat) ({ cls := "LogTree", name := "path", desc := "(II)I" } : Jvm.MethodName)) ∈ tq_W := tq_mem 228 (by decide +kernel) rfl
theorem qm_221 : (Jvm.Cond.instanceMethod ({ cls := "LogTree", name := "path", desc := "(II)I" } : Jvm.MethodName)) ∈ tq_W := tq_mem 229 (by decide +kernel) rfl
theorem qm_222 : (Jvm.Cond.selects "LogTree" ({ cls := "LogTree", name := "path", desc := "(II)I" } : Jvm.MethodName) ({ cls := "LogTree", name := "path", desc := "(II)I" } : Jvm.MethodName)) ∈ tq_W := tq_mem 230 (by decide +kernel) rfl
theorem qm_223 : (Jvm.Cond.code ({ cls := "LogTree", name := "path", desc := "(II)I" } : Jvm.MethodName) prog_1_method_7_code (7 : Nat) (Option.some Jvm.ClassFile.FieldType.int)) ∈ tq_W := tq_mem 231 (by decide +kernel) rfl
theorem qm_224 : (Jvm.Cond.methodLink "LogTreeLaw" (92 : Nat) ({ cls := "LogTreeLaw", name := "steps", desc := "(LLogTree;II[J)I" } : Jvm.MethodName)) ∈ tq_W := tq_mem 232 (by decide +kernel) rfl
theorem qm_225 : (Jvm.Cond.static ({ cls := "LogTreeLaw", name := "steps", desc := "(LLogTree;II[J)I" } : Jvm.MethodName)) ∈ tq_W := tq_mem 233 (by decide +kernel) rfl
theorem qm_226 : (Jvm.Cond.codeWith ({ cls := "LogTreeLaw", name := "steps", desc := "(LLogTree;II[J)I" } : Jvm.MethodName) method_9_code (5 : Nat) (Option.some Jvm.ClassFile.FieldType.int) [((0 : Nat), (10 : Nat), (13 : Nat), (29 : Nat))]) ∈ tq_W := tq_mem 234 (by decide +kernel) rfl
theorem qm_227 : (Jvm.Cond.methodLink "LogTreeLaw" (39 : Nat) ({ cls := "LogTree", name := "steps", desc := "(II)I" } : Jvm.MethodName)) ∈ tq_W := tq_mem 235 (by decide +kernel) rfl
theorem qm_228 : (Jvm.Cond.instanceMethod ({ cls := "LogTree", name := "steps", desc := "(II)I" } : Jvm.MethodName)) ∈ tq_W := tq_mem 236 (by decide +kernel) rfl
theorem qm_229 : (Jvm.Cond.selects "LogTree" ({ cls := "LogTree", name := "steps", desc := "(II)I" } : Jvm.MethodName) ({ cls := "LogTree", name := "steps", desc := "(II)I" } : Jvm.MethodName)) ∈ tq_W := tq_mem 237 (by decide +kernel) rfl
theorem qm_230 : (Jvm.Cond.code ({ cls := "LogTree", name := "steps", desc := "(II)I" } : Jvm.MethodName) prog_1_method_8_code (7 : Nat) (Option.some Jvm.ClassFile.FieldType.int)) ∈ tq_W := tq_mem 238 (by decide +kernel) rfl
theorem qm_231 : (Jvm.Cond.methodLink "LogTreeLaw" (95 : Nat) ({ cls := "LogTreeLaw", name := "proof", desc := "(LLogTree;I[J)I" } : Jvm.MethodName)) ∈ tq_W := tq_mem 239 (by decide +kernel) rfl
theorem qm_232 : (Jvm.Cond.static ({ cls := "LogTreeLaw", name := "proof", desc := "(LLogTree;I[J)I" } : Jvm.MethodName)) ∈ tq_W := tq_mem 240 (by decide +kernel) rfl
theorem qm_233 : (Jvm.Cond.codeWith ({ cls := "LogTreeLaw", name := "proof", desc := "(LLogTree;I[J)I" } : Jvm.MethodName) method_10_code (4 : Nat) (Option.some Jvm.ClassFile.FieldType.int) [((0 : Nat), (8 : Nat), (11 : Nat), (45 : Nat))]) ∈ tq_W := tq_mem 241 (by decide +kernel) rfl
theorem qm_234 : (Jvm.Cond.classLink "LogTreeLaw" (45 : Nat) "java/lang/IndexOutOfBoundsException") ∈ tq_W := tq_mem 242 (by decide +kernel) rfl
theorem qm_235 : (Jvm.Cond.methodLink "LogTreeLaw" (42 : Nat) ({ cls := "LogTree", name := "proof", desc := "(I)J" } : Jvm.MethodName)) ∈ tq_W := tq_mem 243 (by decide +kernel) rfl
theorem qm_236 : (Jvm.Cond.instanceMethod ({ cls := "LogTree", name := "proof", desc := "(I)J" } : Jvm.MethodName)) ∈ tq_W := tq_mem 244 (by decide +kernel) rfl
theorem qm_237 : (Jvm.Cond.selects "LogTree" ({ cls := "LogTree", name := "proof", desc := "(I)J" } : Jvm.MethodName) ({ cls := "LogTree", name := "proof", desc := "(I)J" } : Jvm.MethodName)) ∈ tq_W := tq_mem 245 (by decide +kernel) rfl
theorem qm_238 : (Jvm.Cond.code ({ cls := "LogTree", name := "proof", desc := "(I)J" } : Jvm.MethodName) prog_1_method_9_code (2 : Nat) (Option.some Jvm.ClassFile.FieldType.long)) ∈ tq_W := tq_mem 246 (by decide +kernel) rfl
theorem qm_239 : (Jvm.Cond.classLink "LogTree" (51 : Nat) "java/lang/IndexOutOfBoundsException") ∈ tq_W := tq_mem 247 (by decide +kernel) rfl
theorem qm_240 : (Jvm.Cond.instantiable "java/lang/IndexOutOfBoundsException" (6 : Nat)) ∈ tq_W := tq_mem 248 (by decide +kernel) rfl
theorem qm_248 : (Jvm.Cond.methodLink "LogTree" (53 : Nat) ({ cls := "java/lang/IndexOutOfBoundsException", name := "<init>", desc := "()V" } : Jvm.MethodName)) ∈ tq_W := tq_mem 256 (by decide +kernel) rfl
theorem qm_249 : (Jvm.Cond.instanceMethod ({ cls := "java/lang/IndexOutOfBoundsException", name := "<init>", desc := "()V" } : Jvm.MethodName)) ∈ tq_W := tq_mem 257 (by decide +kernel) rfl
theorem qm_250 : (Jvm.Cond.code ({ cls := "java/lang/IndexOutOfBoundsException", name := "<init>", desc := "()V" } : Jvm.MethodName) prog_7_method_1_code (1 : Nat) (Option.none : Option Jvm.ClassFile.FieldType)) ∈ tq_W := tq_mem 258 (by decide +kernel) rfl
theorem qm_254 : (Jvm.Cond.methodLink "LogTreeLaw" (98 : Nat) ({ cls := "LogTreeLaw", name := "alter", desc := "(LLogTree;IJ[J)I" } : Jvm.MethodName)) ∈ tq_W := tq_mem 262 (by decide +kernel) rfl
theorem qm_255 : (Jvm.Cond.static ({ cls := "LogTreeLaw", name := "alter", desc := "(LLogTree;IJ[J)I" } : Jvm.MethodName)) ∈ tq_W := tq_mem 263 (by decide +kernel) rfl
theorem qm_256 : (Jvm.Cond.codeWith ({ cls := "LogTreeLaw", name := "alter", desc := "(LLogTree;IJ[J)I" } : Jvm.MethodName) method_11_code (6 : Nat) (Option.some Jvm.ClassFile.FieldType.int) [((0 : Nat), (10 : Nat), (13 : Nat), (45 : Nat))]) ∈ tq_W := tq_mem 264 (by decide +kernel) rfl
theorem qm_257 : (Jvm.Cond.methodLink "LogTreeLaw" (47 : Nat) ({ cls := "LogTree", name := "alter", desc := "(IJ)J" } : Jvm.MethodName)) ∈ tq_W := tq_mem 265 (by decide +kernel) rfl
theorem qm_258 : (Jvm.Cond.instanceMethod ({ cls := "LogTree", name := "alter", desc := "(IJ)J" } : Jvm.MethodName)) ∈ tq_W := tq_mem 266 (by decide +kernel) rfl
theorem qm_259 : (Jvm.Cond.selects "LogTree" ({ cls := "LogTree", name := "alter", desc := "(IJ)J" } : Jvm.MethodName) ({ cls := "LogTree", name := "alter", desc := "(IJ)J" } : Jvm.MethodName)) ∈ tq_W := tq_mem 267 (by decide +kernel) rfl
theorem qm_260 : (Jvm.Cond.code ({ cls := "LogTree", name := "alter", desc := "(IJ)J" } : Jvm.MethodName) prog_1_method_10_code (6 : Nat) (Option.some Jvm.ClassFile.FieldType.long)) ∈ tq_W := tq_mem 268 (by decide +kernel) rfl
theorem qm_261 : (Jvm.Cond.methodLink "LogTreeLaw" (102 : Nat) ({ cls := "LogTreeLaw", name := "length", desc := "(LLogTree;I[J)I" } : Jvm.MethodName)) ∈ tq_W := tq_mem 269 (by decide +kernel) rfl
theorem qm_262 : (Jvm.Cond.static ({ cls := "LogTreeLaw", name := "length", desc := "(LLogTree;I[J)I" } : Jvm.MethodName)) ∈ tq_W := tq_mem 270 (by decide +kernel) rfl
theorem qm_263 : (Jvm.Cond.codeWith ({ cls := "LogTreeLaw", name := "length", desc := "(LLogTree;I[J)I" } : Jvm.MethodName) method_12_code (4 : Nat) (Option.some Jvm.ClassFile.FieldType.int) [((0 : Nat), (9 : Nat), (12 : Nat), (19 : Nat))]) ∈ tq_W := tq_mem 271 (by decide +kernel) rfl
theorem qm_264 : (Jvm.Cond.methodLink "LogTreeLaw" (51 : Nat) ({ cls := "LogTree", name := "length", desc := "(I)I" } : Jvm.MethodName)) ∈ tq_W := tq_mem 272 (by decide +kernel) rfl
theorem qm_265 : (Jvm.Cond.instanceMethod ({ cls := "LogTree", name := "length", desc := "(I)I" } : Jvm.MethodName)) ∈ tq_W := tq_mem 273 (by decide +kernel) rfl
theorem qm_266 : (Jvm.Cond.selects "LogTree" ({ cls := "LogTree", name := "length", desc := "(I)I" } : Jvm.MethodName) ({ cls := "LogTree", name := "length", desc := "(I)I" } : Jvm.MethodName)) ∈ tq_W := tq_mem 274 (by decide +kernel) rfl
theorem qm_267 : (Jvm.Cond.code ({ cls := "LogTree", name := "length", desc := "(I)I" } : Jvm.MethodName) prog_1_method_11_code (4 : Nat) (Option.some Jvm.ClassFile.FieldType.int)) ∈ tq_W := tq_mem 275 (by decide +kernel) rfl
theorem qm_268 : (Jvm.Cond.methodLink "LogTreeLaw" (114 : Nat) ({ cls := "LogTreeLaw", name := "find", desc := "(LLogTree;IJ[J)I" } : Jvm.MethodName)) ∈ tq_W := tq_mem 276 (by decide +kernel) rfl
theorem qm_269 : (Jvm.Cond.static ({ cls := "LogTreeLaw", name := "find", desc := "(LLogTree;IJ[J)I" } : Jvm.MethodName)) ∈ tq_W := tq_mem 277 (by decide +kernel) rfl
theorem qm_270 : (Jvm.Cond.codeWith ({ cls := "LogTreeLaw", name := "find", desc := "(LLogTree;IJ[J)I" } : Jvm.MethodName) method_13_code (6 : Nat) (Option.some Jvm.ClassFile.FieldType.int) [((0 : Nat), (11 : Nat), (14 : Nat), (29 : Nat))]) ∈ tq_W := tq_mem 278 (by decide +kernel) rfl
theorem qm_271 : (Jvm.Cond.methodLink "LogTreeLaw" (54 : Nat) ({ cls := "LogTree", name := "find", desc := "(IJ)I" } : Jvm.MethodName)) ∈ tq_W := tq_mem 279 (by decide +kernel) rfl
theorem qm_272 : (Jvm.Cond.instanceMethod ({ cls := "LogTree", name := "find", desc := "(IJ)I" } : Jvm.MethodName)) ∈ tq_W := tq_mem 280 (by decide +kernel) rfl
theorem qm_273 : (Jvm.Cond.selects "LogTree" ({ cls := "LogTree", name := "find", desc := "(IJ)I" } : Jvm.MethodName) ({ cls := "LogTree", name := "find", desc := "(IJ)I" } : Jvm.MethodName)) ∈ tq_W := tq_mem 281 (by decide +kernel) rfl
theorem qm_274 : (Jvm.Cond.code ({ cls := "LogTree", name := "find", desc := "(IJ)I" } : Jvm.MethodName) prog_1_method_14_code (7 : Nat) (Option.some Jvm.ClassFile.FieldType.int)) ∈ tq_W := tq_mem 282 (by decide +kernel) rfl
theorem qm_275 : (Jvm.Cond.classLink "LogTreeLaw" (59 : Nat) "LogTreeModel") ∈ tq_W := tq_mem 283 (by decide +kernel) rfl
theorem qm_276 : (Jvm.Cond.instantiable "LogTreeModel" (8 : Nat)) ∈ tq_W := tq_mem 284 (by decide +kernel) rfl
theorem qm_277 : (Jvm.Cond.methodLink "LogTreeLaw" (61 : Nat) ({ cls := "LogTreeModel", name := "<init>", desc := "()V" } : Jvm.MethodName)) ∈ tq_W := tq_mem 285 (by decide +kernel) rfl
theorem qm_278 : (Jvm.Cond.instanceMethod ({ cls := "LogTreeModel", name := "<init>", desc := "()V" } : Jvm.MethodName)) ∈ tq_W := tq_mem 286 (by decide +kernel) rfl
theorem qm_279 : (Jvm.Cond.code ({ cls := "LogTreeModel", name := "<init>", desc := "()V" } : Jvm.MethodName) prog_3_method_1_code (1 : Nat) (Option.none : Option Jvm.ClassFile.FieldType)) ∈ tq_W := tq_mem 287 (by decide +kernel) rfl
theorem qm_280 : (Jvm.Cond.methodLink "LogTreeModel" (1 : Nat) ({ cls := "java/lang/Object", name := "<init>", desc := "()V" } : Jvm.MethodName)) ∈ tq_W := tq_mem 288 (by decide +kernel) rfl
theorem qm_281 : (Jvm.Cond.fieldLink "LogTreeModel" (16 : Nat) "LogTreeModel" "thrown" "I") ∈ tq_W := tq_mem 289 (by decide +kernel) rfl
theorem qm_282 : (Jvm.Cond.fieldLink "LogTreeModel" (41 : Nat) "LogTreeModel" "leaves" "I") ∈ tq_W := tq_mem 290 (by decide +kernel) rfl
theorem qm_283 : (Jvm.Cond.fieldLink "LogTreeModel" (44 : Nat) "LogTreeModel" "length" "I") ∈ tq_W := tq_mem 291 (by decide +kernel) rfl
theorem qm_284 : (Jvm.Cond.fieldLink "LogTreeModel" (59 : Nat) "LogTreeModel" "at" "I") ∈ tq_W := tq_mem 292 (by decide +kernel) rfl
theorem qm_285 : (Jvm.Cond.fieldLink "LogTreeModel" (9 : Nat) "LogTreeModel" "leaf" "[J") ∈ tq_W := tq_mem 293 (by decide +kernel) rfl
theorem qm_286 : (Jvm.Cond.fieldLink "LogTreeModel" (13 : Nat) "LogTreeModel" "proof" "[J") ∈ tq_W := tq_mem 294 (by decide +kernel) rfl
theorem qm_287 : (Jvm.Cond.fieldLink "LogTreeModel" (71 : Nat) "LogTreeModel" "old" "J") ∈ tq_W := tq_mem 295 (by decide +kernel) rfl
theorem qm_288 : (Jvm.Cond.fieldLink "LogTreeModel" (75 : Nat) "LogTreeModel" "fresh" "J") ∈ tq_W := tq_mem 296 (by decide +kernel) rfl
theorem qm_306 : (Jvm.Cond.methodLink "LogTreeLaw" (70 : Nat) ({ cls := "LogTreeModel", name := "thrown", desc := "()I" } : Jvm.MethodName)) ∈ tq_W := tq_mem 314 (by decide +kernel) rfl
theorem qm_307 : (Jvm.Cond.instanceMethod ({ cls := "LogTreeModel", name := "thrown", desc := "()I" } : Jvm.MethodName)) ∈ tq_W := tq_mem 315 (by decide +kernel) rfl
theorem qm_308 : (Jvm.Cond.selects "LogTreeModel" ({ cls := "LogTreeModel", name := "thrown", desc := "()I" } : Jvm.MethodName) ({ cls := "LogTreeModel", name := "thrown", desc := "()I" } : Jvm.MethodName)) ∈ tq_W := tq_mem 316 (by decide +kernel) rfl
theorem qm_309 : (Jvm.Cond.code ({ cls := "LogTreeModel", name := "thrown", desc := "()I" } : Jvm.MethodName) prog_3_method_2_code (1 : Nat) (Option.some Jvm.ClassFile.FieldType.int)) ∈ tq_W := tq_mem 317 (by decide +kernel) rfl
theorem qm_310 : (Jvm.Cond.methodLink "LogTreeLaw" (69 : Nat) ({ cls := "LogTreeModel", name := "add", desc := "(J)I" } : Jvm.MethodName)) ∈ tq_W := tq_mem 318 (by decide +kernel) rfl
theorem qm_311 : (Jvm.Cond.instanceMethod ({ cls := "LogTreeModel", name := "add", desc := "(J)I" } : Jvm.MethodName)) ∈ tq_W := tq_mem 319 (by decide +kernel) rfl
theorem qm_312 : (Jvm.Cond.selects "LogTreeModel" ({ cls := "LogTreeModel", name := "add", desc := "(J)I" } : Jvm.MethodName) ({ cls := "LogTreeModel", name := "add", desc := "(J)I" } : Jvm.MethodName)) ∈ tq_W := tq_mem 320 (by decide +kernel) rfl
theorem qm_313 : (Jvm.Cond.code ({ cls := "LogTreeModel", name := "add", desc := "(J)I" } : Jvm.MethodName) prog_3_method_8_code (3 : Nat) (Option.some Jvm.ClassFile.FieldType.int)) ∈ tq_W := tq_mem 321 (by decide +kernel) rfl
theorem qm_314 : (Jvm.Cond.methodLink "LogTreeLaw" (77 : Nat) ({ cls := "LogTreeModel", name := "fill", desc := "(IJJ)I" } : Jvm.MethodName)) ∈ tq_W := tq_mem 322 (by decide +kernel) rfl
theorem qm_315 : (Jvm.Cond.instanceMethod ({ cls := "LogTreeModel", name := "fill", desc := "(IJJ)I" } : Jvm.MethodName)) ∈ tq_W := tq_mem 323 (by decide +kernel) rfl
theorem qm_316 : (Jvm.Cond.selects "LogTreeModel" ({ cls := "LogTreeModel", name := "fill", desc := "(IJJ)I" } : Jvm.MethodName) ({ cls := "LogTreeModel", name := "fill", desc := "(IJJ)I" } : Jvm.MethodName)) ∈ tq_W := tq_mem 324 (by decide +kernel) rfl
theorem qm_317 : (Jvm.Cond.code ({ cls := "LogTreeModel", name := "fill", desc := "(IJJ)I" } : Jvm.MethodName) prog_3_method_9_code (7 : Nat) (Option.some Jvm.ClassFile.FieldType.int)) ∈ tq_W := tq_mem 325 (by decide +kernel) rfl
theorem qm_318 : (Jvm.Cond.methodLink "LogTreeLaw" (81 : Nat) ({ cls := "LogTreeModel", name := "cut", desc := "(I)I" } : Jvm.MethodName)) ∈ tq_W := tq_mem 326 (by decide +kernel) rfl
theorem qm_319 : (Jvm.Cond.instanceMethod ({ cls := "LogTreeModel", name := "cut", desc := "(I)I" } : Jvm.MethodName)) ∈ tq_W := tq_mem 327 (by decide +kernel) rfl
theorem qm_320 : (Jvm.Cond.selects "LogTreeModel" ({ cls := "LogTreeModel", name := "cut", desc := "(I)I" } : Jvm.MethodName) ({ cls := "LogTreeModel", name := "cut", desc := "(I)I" } : Jvm.MethodName)) ∈ tq_W := tq_mem 328 (by decide +kernel) rfl
theorem qm_321 : (Jvm.Cond.code ({ cls := "LogTreeModel", name := "cut", desc := "(I)I" } : Jvm.MethodName) prog_3_method_10_code (3 : Nat) (Option.some Jvm.ClassFile.FieldType.int)) ∈ tq_W := tq_mem 329 (by decide +kernel) rfl
theorem qm_322 : (Jvm.Cond.methodLink "LogTreeLaw" (84 : Nat) ({ cls := "LogTreeModel", name := "head", desc := "(I)J" } : Jvm.MethodName)) ∈ tq_W := tq_mem 330 (by decide +kernel) rfl
theorem qm_323 : (Jvm.Cond.instanceMethod ({ cls := "LogTreeModel", name := "head", desc := "(I)J" } : Jvm.MethodName)) ∈ tq_W := tq_mem 331 (by decide +kernel) rfl
theorem qm_324 : (Jvm.Cond.selects "LogTreeModel" ({ cls := "LogTreeModel", name := "head", desc := "(I)J" } : Jvm.MethodName) ({ cls := "LogTreeModel", name := "head", desc := "(I)J" } : Jvm.MethodName)) ∈ tq_W := tq_mem 332 (by decide +kernel) rfl
theorem qm_325 : (Jvm.Cond.code ({ cls := "LogTreeModel", name := "head", desc := "(I)J" } : Jvm.MethodName) prog_3_method_11_code (2 : Nat) (Option.some Jvm.ClassFile.FieldType.long)) ∈ tq_W := tq_mem 333 (by decide +kernel) rfl
theorem qm_326 : (Jvm.Cond.methodLink "LogTreeModel" (34 : Nat) ({ cls := "LogTreeModel", name := "headOf", desc := "(II)J" } : Jvm.MethodName)) ∈ tq_W := tq_mem 334 (by decide +kernel) rfl
theorem qm_328 : (Jvm.Cond.instanceMethod ({ cls := "LogTreeModel", name := "headOf", desc := "(II)J" } : Jvm.MethodName)) ∈ tq_W := tq_mem 336 (by decide +kernel) rfl
theorem qm_329 : (Jvm.Cond.code ({ cls := "LogTreeModel", name := "headOf", desc := "(II)J" } : Jvm.MethodName) prog_3_method_7_code (6 : Nat) (Option.some Jvm.ClassFile.FieldType.long)) ∈ tq_W := tq_mem 337 (by decide +kernel) rfl
theorem qm_330 : (Jvm.Cond.methodLink "LogTreeModel" (26 : Nat) ({ cls := "LogTreeModel", name := "mix", desc := "(JJ)J" } : Jvm.MethodName)) ∈ tq_W := tq_mem 338 (by decide +kernel) rfl
theorem qm_331 : (Jvm.Cond.static ({ cls := "LogTreeModel", name := "mix", desc := "(JJ)J" } : Jvm.MethodName)) ∈ tq_W := tq_mem 339 (by decide +kernel) rfl
theorem qm_332 : (Jvm.Cond.code ({ cls := "LogTreeModel", name := "mix", desc := "(JJ)J" } : Jvm.MethodName) prog_3_method_4_code (8 : Nat) (Option.some Jvm.ClassFile.FieldType.long)) ∈ tq_W := tq_mem 340 (by decide +kernel) rfl
theorem qm_333 : (Jvm.Cond.constantLong "LogTreeModel" (20 : Nat) (-7046029254386353131 : Int64)) ∈ tq_W := tq_mem 341 (by decide +kernel) rfl
theorem qm_334 : (Jvm.Cond.constantLong "LogTreeModel" (22 : Nat) (-4658895280553007687 : Int64)) ∈ tq_W := tq_mem 342 (by decide +kernel) rfl
theorem qm_335 : (Jvm.Cond.methodLink "LogTreeModel" (30 : Nat) ({ cls := "LogTreeModel", name := "below", desc := "(I)I" } : Jvm.MethodName)) ∈ tq_W := tq_mem 343 (by decide +kernel) rfl
theorem qm_336 : (Jvm.Cond.static ({ cls := "LogTreeModel", name := "below", desc := "(I)I" } : Jvm.MethodName)) ∈ tq_W := tq_mem 344 (by decide +kernel) rfl
theorem qm_337 : (Jvm.Cond.code ({ cls := "LogTreeModel", name := "below", desc := "(I)I" } : Jvm.MethodName) prog_3_method_6_code (2 : Nat) (Option.some Jvm.ClassFile.FieldType.int)) ∈ tq_W := tq_mem 345 (by decide +kernel) rfl
theorem qm_338 : (Jvm.Cond.methodLink "LogTreeModel" (38 : Nat) ({ cls := "LogTreeModel", name := "node", desc := "(JJ)J" } : Jvm.MethodName)) ∈ tq_W := tq_mem 346 (by decide +kernel) rfl
theorem qm_339 : (Jvm.Cond.static ({ cls := "LogTreeModel", name := "node", desc := "(JJ)J" } : Jvm.MethodName)) ∈ tq_W := tq_mem 347 (by decide +kernel) rfl
theorem qm_340 : (Jvm.Cond.code ({ cls := "LogTreeModel", name := "node", desc := "(JJ)J" } : Jvm.MethodName) prog_3_method_5_code (4 : Nat) (Option.some Jvm.ClassFile.FieldType.long)) ∈ tq_W := tq_mem 348 (by decide +kernel) rfl
theorem qm_341 : (Jvm.Cond.constantLong "LogTreeModel" (24 : Nat) (2 : Int64)) ∈ tq_W := tq_mem 349 (by decide +kernel) rfl
theorem qm_342 : (Jvm.Cond.methodLink "LogTreeLaw" (88 : Nat) ({ cls := "LogTreeModel", name := "part", desc := "(II)J" } : Jvm.MethodName)) ∈ tq_W := tq_mem 350 (by decide +kernel) rfl
theorem qm_343 : (Jvm.Cond.instanceMethod ({ cls := "LogTreeModel", name := "part", desc := "(II)J" } : Jvm.MethodName)) ∈ tq_W := tq_mem 351 (by decide +kernel) rfl
theorem qm_344 : (Jvm.Cond.selects "LogTreeModel" ({ cls := "LogTreeModel", name := "part", desc := "(II)J" } : Jvm.MethodName) ({ cls := "LogTreeModel", name := "part", desc := "(II)J" } : Jvm.MethodName)) ∈ tq_W := tq_mem 352 (by decide +kernel) rfl
theorem qm_345 : (Jvm.Cond.code ({ cls := "LogTreeModel", name := "part", desc := "(II)J" } : Jvm.MethodName) prog_3_method_12_code (3 : Nat) (Option.some Jvm.ClassFile.FieldType.long)) ∈ tq_W := tq_mem 353 (by decide +kernel) rfl
theorem qm_346 : (Jvm.Cond.methodLink "LogTreeLaw" (91 : Nat) ({ cls := "LogTreeModel", name := "path", desc := "(II)I" } : Jvm.MethodName)) ∈ tq_W := tq_mem 354 (by decide +kernel) rfl
theorem qm_347 : (Jvm.Cond.instanceMethod ({ cls := "LogTreeModel", name := "path", desc := "(II)I" } : Jvm.MethodName)) ∈ tq_W := tq_mem 355 (by decide +kernel) rfl
theorem qm_348 : (Jvm.Cond.selects "LogTreeModel" ({ cls := "LogTreeModel", name := "path", desc := "(II)I" } : Jvm.MethodName) ({ cls := "LogTreeModel", name := "path", desc := "(II)I" } : Jvm.MethodName)) ∈ tq_W := tq_mem 356 (by decide +kernel) rfl
theorem qm_349 : (Jvm.Cond.code ({ cls := "LogTreeModel", name := "path", desc := "(II)I" } : Jvm.MethodName) prog_3_method_15_code (3 : Nat) (Option.some Jvm.ClassFile.FieldType.int)) ∈ tq_W := tq_mem 357 (by decide +kernel) rfl
theorem qm_350 : (Jvm.Cond.methodLink "LogTreeModel" (47 : Nat) ({ cls := "LogTreeModel", name := "pathOf", desc := "(III)V" } : Jvm.MethodName)) ∈ tq_W := tq_mem 358 (by decide +kernel) rfl
theorem qm_352 : (Jvm.Cond.instanceMethod ({ cls := "LogTreeModel", name := "pathOf", desc := "(III)V" } : Jvm.MethodName)) ∈ tq_W := tq_mem 360 (by decide +kernel) rfl
theorem qm_353 : (Jvm.Cond.code ({ cls := "LogTreeModel", name := "pathOf", desc := "(III)V" } : Jvm.MethodName) prog_3_method_14_code (5 : Nat) (Option.none : Option Jvm.ClassFile.FieldType)) ∈ tq_W := tq_mem 361 (by decide +kernel) rfl
theorem qm_354 : (Jvm.Cond.methodLink "LogTreeModel" (51 : Nat) ({ cls := "LogTreeModel", name := "put", desc := "(J)V" } : Jvm.MethodName)) ∈ tq_W := tq_mem 362 (by decide +kernel) rfl
theorem qm_356 : (Jvm.Cond.instanceMethod ({ cls := "LogTreeModel", name := "put", desc := "(J)V" } : Jvm.MethodName)) ∈ tq_W := tq_mem 364 (by decide +kernel) rfl
theorem qm_357 : (Jvm.Cond.code ({ cls := "LogTreeModel", name := "put", desc := "(J)V" } : Jvm.MethodName) prog_3_method_13_code (3 : Nat) (Option.none : Option Jvm.ClassFile.FieldType)) ∈ tq_W := tq_mem 365 (by decide +kernel) rfl
theorem qm_358 : (Jvm.Cond.methodLink "LogTreeLaw" (94 : Nat) ({ cls := "LogTreeModel", name := "steps", desc := "(II)I" } : Jvm.MethodName)) ∈ tq_W := tq_mem 366 (by decide +kernel) rfl
theorem qm_359 : (Jvm.Cond.instanceMethod ({ cls := "LogTreeModel", name := "steps", desc := "(II)I" } : Jvm.MethodName)) ∈ tq_W := tq_mem 367 (by decide +kernel) rfl
theorem qm_360 : (Jvm.Cond.selects "LogTreeModel" ({ cls := "LogTreeModel", name := "steps", desc := "(II)I" } : Jvm.MethodName) ({ cls := "LogTreeModel", name := "steps", desc := "(II)I" } : Jvm.MethodName)) ∈ tq_W := tq_mem 368 (by decide +kernel) rfl
theorem qm_361 : (Jvm.Cond.code ({ cls := "LogTreeModel", name := "steps", desc := "(II)I" } : Jvm.MethodName) prog_3_method_17_code (3 : Nat) (Option.some Jvm.ClassFile.FieldType.int)) ∈ tq_W := tq_mem 369 (by decide +kernel) rfl
theorem qm_362 : (Jvm.Cond.methodLink "LogTreeModel" (55 : Nat) ({ cls := "LogTreeModel", name := "stepsOf", desc := "(IIIZ)V" } : Jvm.MethodName)) ∈ tq_W := tq_mem 370 (by decide +kernel) rfl
theorem qm_364 : (Jvm.Cond.instanceMethod ({ cls := "LogTreeModel", name := "stepsOf", desc := "(IIIZ)V" } : Jvm.MethodName)) ∈ tq_W := tq_mem 372 (by decide +kernel) rfl
theorem qm_365 : (Jvm.Cond.code ({ cls := "LogTreeModel", name := "stepsOf", desc := "(IIIZ)V" } : Jvm.MethodName) prog_3_method_16_code (6 : Nat) (Option.none : Option Jvm.ClassFile.FieldType)) ∈ tq_W := tq_mem 373 (by decide +kernel) rfl
theorem qm_366 : (Jvm.Cond.methodLink "LogTreeLaw" (97 : Nat) ({ cls := "LogTreeModel", name := "proof", desc := "(I)J" } : Jvm.MethodName)) ∈ tq_W := tq_mem 374 (by decide +kernel) rfl
theorem qm_367 : (Jvm.Cond.instanceMethod ({ cls := "LogTreeModel", name := "proof", desc := "(I)J" } : Jvm.MethodName)) ∈ tq_W := tq_mem 375 (by decide +kernel) rfl
theorem qm_368 : (Jvm.Cond.selects "LogTreeModel" ({ cls := "LogTreeModel", name := "proof", desc := "(I)J" } : Jvm.MethodName) ({ cls := "LogTreeModel", name := "proof", desc := "(I)J" } : Jvm.MethodName)) ∈ tq_W := tq_mem 376 (by decide +kernel) rfl
theorem qm_369 : (Jvm.Cond.code ({ cls := "LogTreeModel", name := "proof", desc := "(I)J" } : Jvm.MethodName) prog_3_method_18_code (2 : Nat) (Option.some Jvm.ClassFile.FieldType.long)) ∈ tq_W := tq_mem 377 (by decide +kernel) rfl
theorem qm_370 : (Jvm.Cond.methodLink "LogTreeLaw" (101 : Nat) ({ cls := "LogTreeModel", name := "alter", desc := "(IJ)J" } : Jvm.MethodName)) ∈ tq_W := tq_mem 378 (by decide +kernel) rfl
theorem qm_371 : (Jvm.Cond.instanceMethod ({ cls := "LogTreeModel", name := "alter", desc := "(IJ)J" } : Jvm.MethodName)) ∈ tq_W := tq_mem 379 (by decide +kernel) rfl
theorem qm_372 : (Jvm.Cond.selects "LogTreeModel" ({ cls := "LogTreeModel", name := "alter", desc := "(IJ)J" } : Jvm.MethodName) ({ cls := "LogTreeModel", name := "alter", desc := "(IJ)J" } : Jvm.MethodName)) ∈ tq_W := tq_mem 380 (by decide +kernel) rfl
theorem qm_373 : (Jvm.Cond.code ({ cls := "LogTreeModel", name := "alter", desc := "(IJ)J" } : Jvm.MethodName) prog_3_method_19_code (6 : Nat) (Option.some Jvm.ClassFile.FieldType.long)) ∈ tq_W := tq_mem 381 (by decide +kernel) rfl
theorem qm_374 : (Jvm.Cond.methodLink "LogTreeLaw" (104 : Nat) ({ cls := "LogTreeModel", name := "length", desc := "(I)I" } : Jvm.MethodName)) ∈ tq_W := tq_mem 382 (by decide +kernel) rfl
theorem qm_375 : (Jvm.Cond.instanceMethod ({ cls := "LogTreeModel", name := "length", desc := "(I)I" } : Jvm.MethodName)) ∈ tq_W := tq_mem 383 (by decide +kernel) rfl
theorem qm_376 : (Jvm.Cond.selects "LogTreeModel" ({ cls := "LogTreeModel", name := "length", desc := "(I)I" } : Jvm.MethodName) ({ cls := "LogTreeModel", name := "length", desc := "(I)I" } : Jvm.MethodName)) ∈ tq_W := tq_mem 384 (by decide +kernel) rfl
theorem qm_377 : (Jvm.Cond.code ({ cls := "LogTreeModel", name := "length", desc := "(I)I" } : Jvm.MethodName) prog_3_method_20_code (4 : Nat) (Option.some Jvm.ClassFile.FieldType.int)) ∈ tq_W := tq_mem 385 (by decide +kernel) rfl
theorem qm_378 : (Jvm.Cond.methodLink "LogTreeLaw" (109 : Nat) ({ cls := "LogTreeModel", name := "shows", desc := "(IIJJ)Z" } : Jvm.MethodName)) ∈ tq_W := tq_mem 386 (by decide +kernel) rfl
theorem qm_379 : (Jvm.Cond.instanceMethod ({ cls := "LogTreeModel", name := "shows", desc := "(IIJJ)Z" } : Jvm.MethodName)) ∈ tq_W := tq_mem 387 (by decide +kernel) rfl
theorem qm_380 : (Jvm.Cond.selects "LogTreeModel" ({ cls := "LogTreeModel", name := "shows", desc := "(IIJJ)Z" } : Jvm.MethodName) ({ cls := "LogTreeModel", name := "shows", desc := "(IIJJ)Z" } : Jvm.MethodName)) ∈ tq_W := tq_mem 388 (by decide +kernel) rfl
theorem qm_381 : (Jvm.Cond.code ({ cls := "LogTreeModel", name := "shows", desc := "(IIJJ)Z" } : Jvm.MethodName) prog_3_method_23_code (9 : Nat) (Option.some Jvm.ClassFile.FieldType.boolean)) ∈ tq_W := tq_mem 389 (by decide +kernel) rfl
theorem qm_382 : (Jvm.Cond.constant "LogTreeModel" (70 : Nat) (1073741824 : Int32)) ∈ tq_W := tq_mem 390 (by decide +kernel) rfl
theorem qm_383 : (Jvm.Cond.methodLink "LogTreeModel" (62 : Nat) ({ cls := "LogTreeModel", name := "rootOf", desc := "(IIJ)J" } : Jvm.MethodName)) ∈ tq_W := tq_mem 391 (by decide +kernel) rfl
theorem qm_385 : (Jvm.Cond.instanceMethod ({ cls := "LogTreeModel", name := "rootOf", desc := "(IIJ)J" } : Jvm.MethodName)) ∈ tq_W := tq_mem 393 (by decide +kernel) rfl
theorem qm_386 : (Jvm.Cond.code ({ cls := "LogTreeModel", name := "rootOf", desc := "(IIJ)J" } : Jvm.MethodName) prog_3_method_22_code (8 : Nat) (Option.some Jvm.ClassFile.FieldType.long)) ∈ tq_W := tq_mem 394 (by decide +kernel) rfl
theorem qm_387 : (Jvm.Cond.methodLink "LogTreeModel" (66 : Nat) ({ cls := "LogTreeModel", name := "next", desc := "()J" } : Jvm.MethodName)) ∈ tq_W := tq_mem 395 (by decide +kernel) rfl
theorem qm_389 : (Jvm.Cond.instanceMethod ({ cls := "LogTreeModel", name := "next", desc := "()J" } : Jvm.MethodName)) ∈ tq_W := tq_mem 397 (by decide +kernel) rfl
theorem qm_390 : (Jvm.Cond.code ({ cls := "LogTreeModel", name := "next", desc := "()J" } : Jvm.MethodName) prog_3_method_21_code (1 : Nat) (Option.some Jvm.ClassFile.FieldType.long)) ∈ tq_W := tq_mem 398 (by decide +kernel) rfl
theorem qm_391 : (Jvm.Cond.methodLink "LogTreeLaw" (113 : Nat) ({ cls := "LogTreeModel", name := "grew", desc := "(IIJJ)Z" } : Jvm.MethodName)) ∈ tq_W := tq_mem 399 (by decide +kernel) rfl
theorem qm_392 : (Jvm.Cond.instanceMethod ({ cls := "LogTreeModel", name := "grew", desc := "(IIJJ)Z" } : Jvm.MethodName)) ∈ tq_W := tq_mem 400 (by decide +kernel) rfl
theorem qm_393 : (Jvm.Cond.selects "LogTreeModel" ({ cls := "LogTreeModel", name := "grew", desc := "(IIJJ)Z" } : Jvm.MethodName) ({ cls := "LogTreeModel", name := "grew", desc := "(IIJJ)Z" } : Jvm.MethodName)) ∈ tq_W := tq_mem 401 (by decide +kernel) rfl
theorem qm_394 : (Jvm.Cond.code ({ cls := "LogTreeModel", name := "grew", desc := "(IIJJ)Z" } : Jvm.MethodName) prog_3_method_25_code (7 : Nat) (Option.some Jvm.ClassFile.FieldType.boolean)) ∈ tq_W := tq_mem 402 (by decide +kernel) rfl
theorem qm_395 : (Jvm.Cond.methodLink "LogTreeModel" (78 : Nat) ({ cls := "LogTreeModel", name := "both", desc := "(IIZJ)V" } : Jvm.MethodName)) ∈ tq_W := tq_mem 403 (by decide +kernel) rfl
theorem qm_397 : (Jvm.Cond.instanceMethod ({ cls := "LogTreeModel", name := "both", desc := "(IIZJ)V" } : Jvm.MethodName)) ∈ tq_W := tq_mem 405 (by decide +kernel) rfl
theorem qm_398 : (Jvm.Cond.code ({ cls := "LogTreeModel", name := "both", desc := "(IIZJ)V" } : Jvm.MethodName) prog_3_method_24_code (9 : Nat) (Option.none : Option Jvm.ClassFile.FieldType)) ∈ tq_W := tq_mem 406 (by decide +kernel) rfl
theorem qm_399 : (Jvm.Cond.methodLink "LogTreeLaw" (116 : Nat) ({ cls := "LogTreeModel", name := "find", desc := "(IJ)I" } : Jvm.MethodName)) ∈ tq_W := tq_mem 407 (by decide +kernel) rfl
theorem qm_400 : (Jvm.Cond.instanceMethod ({ cls := "LogTreeModel", name := "find", desc := "(IJ)I" } : Jvm.MethodName)) ∈ tq_W := tq_mem 408 (by decide +kernel) rfl
theorem qm_401 : (Jvm.Cond.selects "LogTreeModel" ({ cls := "LogTreeModel", name := "find", desc := "(IJ)I" } : Jvm.MethodName) ({ cls := "LogTreeModel", name := "find", desc := "(IJ)I" } : Jvm.MethodName)) ∈ tq_W := tq_mem 409 (by decide +kernel) rfl
theorem qm_402 : (Jvm.Cond.code ({ cls := "LogTreeModel", name := "find", desc := "(IJ)I" } : Jvm.MethodName) prog_3_method_26_code (5 : Nat) (Option.some Jvm.ClassFile.FieldType.int)) ∈ tq_W := tq_mem 410 (by decide +kernel) rfl
theorem qm_403 : (Jvm.Cond.methodLink "LogTreeLaw" (120 : Nat) ({ cls := "LogTreeModel", name := "count", desc := "(I)I" } : Jvm.MethodName)) ∈ tq_W := tq_mem 411 (by decide +kernel) rfl
theorem qm_404 : (Jvm.Cond.instanceMethod ({ cls := "LogTreeModel", name := "count", desc := "(I)I" } : Jvm.MethodName)) ∈ tq_W := tq_mem 412 (by decide +kernel) rfl
theorem qm_405 : (Jvm.Cond.selects "LogTreeModel" ({ cls := "LogTreeModel", name := "count", desc := "(I)I" } : Jvm.MethodName) ({ cls := "LogTreeModel", name := "count", desc := "(I)I" } : Jvm.MethodName)) ∈ tq_W := tq_mem 413 (by decide +kernel) rfl
theorem qm_406 : (Jvm.Cond.code ({ cls := "LogTreeModel", name := "count", desc := "(I)I" } : Jvm.MethodName) prog_3_method_27_code (4 : Nat) (Option.some Jvm.ClassFile.FieldType.int)) ∈ tq_W := tq_mem 414 (by decide +kernel) rfl
theorem qm_407 : (Jvm.Cond.constantLong "LogTreeLaw" (62 : Nat) (4294967295 : Int64)) ∈ tq_W := tq_mem 415 (by decide +kernel) rfl
theorem qs_M_headOf : Cond.selects RX1 qy_M_headOf qy_M_headOf ∈ tq_W := tq_mem 1 (by decide +kernel) rfl
theorem qs_M_pathOf : Cond.selects RX1 qy_M_pathOf qy_M_pathOf ∈ tq_W := tq_mem 2 (by decide +kernel) rfl
theorem qs_M_put : Cond.selects RX1 qy_M_put qy_M_put ∈ tq_W := tq_mem 3 (by decide +kernel) rfl
theorem qs_M_stepsOf : Cond.selects RX1 qy_M_stepsOf qy_M_stepsOf ∈ tq_W := tq_mem 4 (by decide +kernel) rfl
theorem qs_M_rootOf : Cond.selects RX1 qy_M_rootOf qy_M_rootOf ∈ tq_W := tq_mem 5 (by decide +kernel) rfl
theorem qs_M_next : Cond.selects RX1 qy_M_next qy_M_next ∈ tq_W := tq_mem 6 (by decide +kernel) rfl
theorem qs_M_both : Cond.selects RX1 qy_M_both qy_M_both ∈ tq_W := tq_mem 7 (by decide +kernel) rfl
