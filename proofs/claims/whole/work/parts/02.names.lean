/-! ===== names: classes, fields, methods, the words of the tables by their places ===== -/
def dt : List Cond := lw_tbl.filter goodWord
theorem dt_r {w : Cond} (i : Nat) (h : tables_1[i]? = some w) (g : goodWord w = true) : w ∈ dt := List.mem_filter.mpr ⟨List.mem_append_right _ (List.mem_of_getElem? h), g⟩
theorem dt_p {w : Cond} (i : Nat) (h : (k2_sels lw_privs)[i]? = some w) (g : goodWord w = true) : w ∈ dt := List.mem_filter.mpr ⟨List.mem_append_left _ (List.mem_of_getElem? h), g⟩
theorem dt_sub {ws : List Cond} (ps : List Nat) (hp : ws = ps.filterMap (fun i => tables_1[i]?)) (hg : ws.all goodWord = true) : ∀ w ∈ ws, w ∈ dt := fun w hw => by
  have h1 := List.all_eq_true.mp hg w hw
  rw [hp] at hw
  obtain ⟨i, -, hi⟩ := List.mem_filterMap.mp hw
  exact dt_r i hi h1
theorem dt_good : ∀ w ∈ dt, goodWord w = true := fun w h => (List.mem_filter.mp h).2
theorem dt_in {big ws : List Cond} (hb : ∀ w ∈ dt, w ∈ big) (h : ∀ w ∈ ws, w ∈ dt) : GoodIn big ws := fun w hw => ⟨hb w (h w hw), good_of_word (dt_good w (h w hw))⟩
theorem dt_cons {c c0 : Cond} (h : c ∈ dt) : GoodIn (c0 :: dt) (c :: dt) := dt_in (fun w hw => List.mem_cons_of_mem _ hw) (fun w hw => (List.mem_cons.mp hw).elim (fun e => e ▸ h) id)
abbrev RB : String := "DemandedBits"
abbrev RU : String := "DemandedBits$Function"
abbrev RF : String := "DemandedBits$Facts"
abbrev RE : String := "DemandedBits$Demands"
abbrev RC : String := "DemandedBits$Course"
abbrev RM : String := "DemandedBitsModel"
abbrev RL : String := "DemandedBitsLaw"
abbrev RJ : String := "java/lang/Integer"
abbrev RA : String := "java/util/Arrays"
def TB : u_T := fun k => match k with
  | 0 => ("DemandedBits", "function", "LDemandedBits$Function;", true)
  | 1 => ("DemandedBits", "facts", "LDemandedBits$Facts;", true)
  | 2 => ("DemandedBits", "demands", "LDemandedBits$Demands;", true)
  | 3 => ("DemandedBits", "shorterDemands", "LDemandedBits$Demands;", true)
  | 4 => ("DemandedBits", "replacements", "[I", true)
  | 5 => ("DemandedBits", "noReplacements", "[I", true)
  | 6 => ("DemandedBits", "inputs", "[I", true)
  | 7 => ("DemandedBits", "course", "LDemandedBits$Course;", true)
  | 8 => ("DemandedBits", "shorterCourse", "LDemandedBits$Course;", true)
  | _ => ("DemandedBits", "analysed", "Z", false)
def tyB : Nat → FieldType := fun k => match k with
  | 0 => .object "DemandedBits$Function"
  | 1 => .object "DemandedBits$Facts"
  | 2 => .object "DemandedBits$Demands"
  | 3 => .object "DemandedBits$Demands"
  | 4 => .array .int
  | 5 => .array .int
  | 6 => .array .int
  | 7 => .object "DemandedBits$Course"
  | 8 => .object "DemandedBits$Course"
  | _ => .boolean
theorem nmB : ∀ a, a < 10 → ∀ b, b < 10 → a ≠ b → (TB a).2.1 ≠ (TB b).2.1 := by decide +kernel
theorem tyB_ok : ∀ k, k < 10 → parseFieldDescriptor (TB k).2.2.1 = some (tyB k) := by decide +kernel
theorem inB : ∀ w ∈ u_ws RB TB 10, w ∈ dt := dt_sub [148, 150, 152, 154, 156, 158, 160, 162, 164, 166] (by decide +kernel) (by decide +kernel)
theorem inBc {c : Cond} : ∀ w ∈ u_ws RB TB 10, w ∈ c :: dt := fun w h => List.mem_cons_of_mem _ (inB w h)
def TU : u_T := fun k => match k with
  | 0 => ("DemandedBits$Function", "kind", "[I", true)
  | 1 => ("DemandedBits$Function", "x", "[I", true)
  | 2 => ("DemandedBits$Function", "y", "[I", true)
  | 3 => ("DemandedBits$Function", "number", "[I", true)
  | 4 => ("DemandedBits$Function", "resultValue", "[I", true)
  | 5 => ("DemandedBits$Function", "resultMask", "[I", true)
  | 6 => ("DemandedBits$Function", "size", "I", false)
  | _ => ("DemandedBits$Function", "results", "I", false)
def tyU : Nat → FieldType := fun k => match k with
  | 0 => .array .int
  | 1 => .array .int
  | 2 => .array .int
  | 3 => .array .int
  | 4 => .array .int
  | 5 => .array .int
  | 6 => .int
  | _ => .int
theorem nmU : ∀ a, a < 8 → ∀ b, b < 8 → a ≠ b → (TU a).2.1 ≠ (TU b).2.1 := by decide +kernel
theorem tyU_ok : ∀ k, k < 8 → parseFieldDescriptor (TU k).2.2.1 = some (tyU k) := by decide +kernel
theorem inU : ∀ w ∈ u_ws RU TU 8, w ∈ dt := dt_sub [65, 67, 69, 71, 73, 75, 77, 79] (by decide +kernel) (by decide +kernel)
theorem inUc {c : Cond} : ∀ w ∈ u_ws RU TU 8, w ∈ c :: dt := fun w h => List.mem_cons_of_mem _ (inU w h)
def TF : u_T := fun k => match k with
  | 0 => ("DemandedBits$Facts", "zeros", "[I", true)
  | 1 => ("DemandedBits$Facts", "ones", "[I", true)
  | _ => ("DemandedBits$Facts", "changed", "Z", false)
def tyF : Nat → FieldType := fun k => match k with
  | 0 => .array .int
  | 1 => .array .int
  | _ => .boolean
theorem nmF : ∀ a, a < 3 → ∀ b, b < 3 → a ≠ b → (TF a).2.1 ≠ (TF b).2.1 := by decide +kernel
theorem tyF_ok : ∀ k, k < 3 → parseFieldDescriptor (TF k).2.2.1 = some (tyF k) := by decide +kernel
theorem inF : ∀ w ∈ u_ws RF TF 3, w ∈ dt := dt_sub [96, 98, 100] (by decide +kernel) (by decide +kernel)
theorem inFc {c : Cond} : ∀ w ∈ u_ws RF TF 3, w ∈ c :: dt := fun w h => List.mem_cons_of_mem _ (inF w h)
def TE : u_T := fun k => match k with
  | 0 => ("DemandedBits$Demands", "demanded", "[I", true)
  | _ => ("DemandedBits$Demands", "changed", "Z", false)
def tyE : Nat → FieldType := fun k => match k with
  | 0 => .array .int
  | _ => .boolean
theorem nmE : ∀ a, a < 2 → ∀ b, b < 2 → a ≠ b → (TE a).2.1 ≠ (TE b).2.1 := by decide +kernel
theorem tyE_ok : ∀ k, k < 2 → parseFieldDescriptor (TE k).2.2.1 = some (tyE k) := by decide +kernel
theorem inE : ∀ w ∈ u_ws RE TE 2, w ∈ dt := dt_sub [112, 114] (by decide +kernel) (by decide +kernel)
theorem inEc {c : Cond} : ∀ w ∈ u_ws RE TE 2, w ∈ c :: dt := fun w h => List.mem_cons_of_mem _ (inE w h)
def TC : u_T := fun k => match k with
  | 0 => ("DemandedBits$Course", "now", "[I", true)
  | 1 => ("DemandedBits$Course", "seen", "[I", true)
  | _ => ("DemandedBits$Course", "before", "[I", true)
def tyC : Nat → FieldType := fun k => match k with
  | 0 => .array .int
  | 1 => .array .int
  | _ => .array .int
theorem nmC : ∀ a, a < 3 → ∀ b, b < 3 → a ≠ b → (TC a).2.1 ≠ (TC b).2.1 := by decide +kernel
theorem tyC_ok : ∀ k, k < 3 → parseFieldDescriptor (TC k).2.2.1 = some (tyC k) := by decide +kernel
theorem inC : ∀ w ∈ u_ws RC TC 3, w ∈ dt := dt_sub [128, 130, 132] (by decide +kernel) (by decide +kernel)
theorem inCc {c : Cond} : ∀ w ∈ u_ws RC TC 3, w ∈ c :: dt := fun w h => List.mem_cons_of_mem _ (inC w h)
def TM : u_T := fun k => match k with
  | 0 => ("DemandedBitsModel", "fault", "I", false)
  | 1 => ("DemandedBitsModel", "values", "I", false)
  | 2 => ("DemandedBitsModel", "made", "[I", true)
  | 3 => ("DemandedBitsModel", "one", "[I", true)
  | 4 => ("DemandedBitsModel", "two", "[I", true)
  | 5 => ("DemandedBitsModel", "results", "I", false)
  | 6 => ("DemandedBitsModel", "shown", "[I", true)
  | 7 => ("DemandedBitsModel", "mask", "[I", true)
  | 8 => ("DemandedBitsModel", "fact", "[I", true)
  | 9 => ("DemandedBitsModel", "demanded", "[Z", true)
  | 10 => ("DemandedBitsModel", "needed", "[Z", true)
  | 11 => ("DemandedBitsModel", "by", "[I", true)
  | 12 => ("DemandedBitsModel", "pile", "[I", true)
  | 13 => ("DemandedBitsModel", "piled", "I", false)
  | 14 => ("DemandedBitsModel", "now", "[I", true)
  | 15 => ("DemandedBitsModel", "nowShort", "[I", true)
  | 16 => ("DemandedBitsModel", "before", "[I", true)
  | 17 => ("DemandedBitsModel", "ran", "I", false)
  | _ => ("DemandedBitsModel", "ranResults", "I", false)
def tyM : Nat → FieldType := fun k => match k with
  | 0 => .int
  | 1 => .int
  | 2 => .array .int
  | 3 => .array .int
  | 4 => .array .int
  | 5 => .int
  | 6 => .array .int
  | 7 => .array .int
  | 8 => .array .int
  | 9 => .array .boolean
  | 10 => .array .boolean
  | 11 => .array .int
  | 12 => .array .int
  | 13 => .int
  | 14 => .array .int
  | 15 => .array .int
  | 16 => .array .int
  | 17 => .int
  | _ => .int
theorem nmM : ∀ a, a < 19 → ∀ b, b < 19 → a ≠ b → (TM a).2.1 ≠ (TM b).2.1 := by decide +kernel
theorem tyM_ok : ∀ k, k < 19 → parseFieldDescriptor (TM k).2.2.1 = some (tyM k) := by decide +kernel
theorem inM : ∀ w ∈ u_ws RM TM 19, w ∈ dt := dt_sub [513, 515, 517, 519, 521, 523, 525, 527, 529, 531, 533, 535, 537, 539, 541, 543, 545, 547, 549] (by decide +kernel) (by decide +kernel)
theorem inMc {c : Cond} : ∀ w ∈ u_ws RM TM 19, w ∈ c :: dt := fun w h => List.mem_cons_of_mem _ (inM w h)
abbrev vwCl : List vw_C := [(RB, TB, 10), (RU, TU, 8), (RF, TF, 3), (RE, TE, 2), (RC, TC, 3), (RM, TM, 19)]
abbrev cB_init : ByteArray := prog_1_method_1_code
abbrev yB_init : MethodName := ⟨RB, "<init>", "()V"⟩
abbrev kB_init : Cond := .code yB_init cB_init 1 none
abbrev wsB_init : List Cond := kB_init :: dt
abbrev cU_init : ByteArray := prog_5_method_1_code
abbrev yU_init : MethodName := ⟨RU, "<init>", "()V"⟩
abbrev kU_init : Cond := .code yU_init cU_init 1 none
abbrev wsU_init : List Cond := kU_init :: dt
abbrev cF_init : ByteArray := prog_4_method_1_code
abbrev yF_init : MethodName := ⟨RF, "<init>", "()V"⟩
abbrev kF_init : Cond := .code yF_init cF_init 1 none
abbrev wsF_init : List Cond := kF_init :: dt
abbrev cE_init : ByteArray := prog_3_method_1_code
abbrev yE_init : MethodName := ⟨RE, "<init>", "()V"⟩
abbrev kE_init : Cond := .code yE_init cE_init 1 none
abbrev wsE_init : List Cond := kE_init :: dt
abbrev cC_init : ByteArray := prog_2_method_1_code
abbrev yC_init : MethodName := ⟨RC, "<init>", "()V"⟩
abbrev kC_init : Cond := .code yC_init cC_init 1 none
abbrev wsC_init : List Cond := kC_init :: dt
abbrev cA_fill : ByteArray := prog_17_method_103_code
abbrev yA_fill : MethodName := ⟨RA, "fill", "([II)V"⟩
abbrev kA_fill : Cond := .code yA_fill cA_fill 4 none
abbrev wsA_fill : List Cond := kA_fill :: dt
abbrev cB_live : ByteArray := prog_1_method_12_code
abbrev yB_live : MethodName := ⟨RB, "live", "()I"⟩
abbrev kB_live : Cond := .code yB_live cB_live 3 (some .int)
abbrev wsB_live : List Cond := kB_live :: dt
abbrev cB_analyse : ByteArray := prog_1_method_18_code
abbrev yB_analyse : MethodName := ⟨RB, "analyse", "()V"⟩
abbrev kB_analyse : Cond := .code yB_analyse cB_analyse 2 none
abbrev wsB_analyse : List Cond := kB_analyse :: dt
abbrev cF_find : ByteArray := prog_4_method_3_code
abbrev yF_find : MethodName := ⟨RF, "find", "(LDemandedBits$Function;)V"⟩
abbrev kF_find : Cond := .code yF_find cF_find 4 none
abbrev wsF_find : List Cond := kF_find :: dt
abbrev cF_learn : ByteArray := prog_4_method_4_code
abbrev yF_learn : MethodName := ⟨RF, "learn", "(III)V"⟩
abbrev kF_learn : Cond := .code yF_learn cF_learn 4 none
abbrev wsF_learn : List Cond := kF_learn :: dt
abbrev cF_workOut : ByteArray := prog_4_method_5_code
abbrev yF_workOut : MethodName := ⟨RF, "workOut", "(LDemandedBits$Function;I)V"⟩
abbrev kF_workOut : Cond := .code yF_workOut cF_workOut 6 none
abbrev wsF_workOut : List Cond := kF_workOut :: dt
abbrev cF_learnSum : ByteArray := prog_4_method_7_code
abbrev yF_learnSum : MethodName := ⟨RF, "learnSum", "(IIIII)V"⟩
abbrev kF_learnSum : Cond := .code yF_learnSum cF_learnSum 11 none
abbrev wsF_learnSum : List Cond := kF_learnSum :: dt
abbrev cF_known : ByteArray := prog_4_method_2_code
abbrev yF_known : MethodName := ⟨RF, "known", "(I)I"⟩
abbrev kF_known : Cond := .code yF_known cF_known 2 (some .int)
abbrev wsF_known : List Cond := kF_known :: dt
abbrev cF_learnProduct : ByteArray := prog_4_method_8_code
abbrev yF_learnProduct : MethodName := ⟨RF, "learnProduct", "(III)V"⟩
abbrev kF_learnProduct : Cond := .code yF_learnProduct cF_learnProduct 7 none
abbrev wsF_learnProduct : List Cond := kF_learnProduct :: dt
abbrev cJ_numberOfTrailingZeros : ByteArray := prog_12_method_48_code
abbrev yJ_numberOfTrailingZeros : MethodName := ⟨RJ, "numberOfTrailingZeros", "(I)I"⟩
abbrev kJ_numberOfTrailingZeros : Cond := .code yJ_numberOfTrailingZeros cJ_numberOfTrailingZeros 2 (some .int)
abbrev wsJ_numberOfTrailingZeros : List Cond := kJ_numberOfTrailingZeros :: dt
abbrev cB_lowest : ByteArray := prog_1_method_24_code
abbrev yB_lowest : MethodName := ⟨RB, "lowest", "(I)I"⟩
abbrev kB_lowest : Cond := .code yB_lowest cB_lowest 1 (some .int)
abbrev wsB_lowest : List Cond := kB_lowest :: dt
abbrev cF_workOutMoved : ByteArray := prog_4_method_6_code
abbrev yF_workOutMoved : MethodName := ⟨RF, "workOutMoved", "(IIII)V"⟩
abbrev kF_workOutMoved : Cond := .code yF_workOutMoved cF_workOutMoved 5 none
abbrev wsF_workOutMoved : List Cond := kF_workOutMoved :: dt
abbrev cE_find : ByteArray := prog_3_method_2_code
abbrev yE_find : MethodName := ⟨RE, "find", "(LDemandedBits$Function;LDemandedBits$Facts;[I)V"⟩
abbrev kE_find : Cond := .code yE_find cE_find 6 none
abbrev wsE_find : List Cond := kE_find :: dt
abbrev cE_demand : ByteArray := prog_3_method_3_code
abbrev yE_demand : MethodName := ⟨RE, "demand", "(II)V"⟩
abbrev kE_demand : Cond := .code yE_demand cE_demand 4 none
abbrev wsE_demand : List Cond := kE_demand :: dt
abbrev cE_ask : ByteArray := prog_3_method_4_code
abbrev yE_ask : MethodName := ⟨RE, "ask", "(LDemandedBits$Function;LDemandedBits$Facts;II)V"⟩
abbrev kE_ask : Cond := .code yE_ask cE_ask 6 none
abbrev wsE_ask : List Cond := kE_ask :: dt
abbrev cE_askedOfX : ByteArray := prog_3_method_5_code
abbrev yE_askedOfX : MethodName := ⟨RE, "askedOfX", "(LDemandedBits$Function;LDemandedBits$Facts;II)I"⟩
abbrev kE_askedOfX : Cond := .code yE_askedOfX cE_askedOfX 6 (some .int)
abbrev wsE_askedOfX : List Cond := kE_askedOfX :: dt
abbrev cB_upTo : ByteArray := prog_1_method_23_code
abbrev yB_upTo : MethodName := ⟨RB, "upTo", "(I)I"⟩
abbrev kB_upTo : Cond := .code yB_upTo cB_upTo 1 (some .int)
abbrev wsB_upTo : List Cond := kB_upTo :: dt
abbrev cJ_numberOfLeadingZeros : ByteArray := prog_12_method_47_code
abbrev yJ_numberOfLeadingZeros : MethodName := ⟨RJ, "numberOfLeadingZeros", "(I)I"⟩
abbrev kJ_numberOfLeadingZeros : Cond := .code yJ_numberOfLeadingZeros cJ_numberOfLeadingZeros 2 (some .int)
abbrev wsJ_numberOfLeadingZeros : List Cond := kJ_numberOfLeadingZeros :: dt
abbrev cE_signIf : ByteArray := prog_3_method_7_code
abbrev yE_signIf : MethodName := ⟨RE, "signIf", "(II)I"⟩
abbrev kE_signIf : Cond := .code yE_signIf cE_signIf 2 (some .int)
abbrev wsE_signIf : List Cond := kE_signIf :: dt
abbrev cE_askedOfY : ByteArray := prog_3_method_6_code
abbrev yE_askedOfY : MethodName := ⟨RE, "askedOfY", "(LDemandedBits$Function;LDemandedBits$Facts;II)I"⟩
abbrev kE_askedOfY : Cond := .code yE_askedOfY cE_askedOfY 6 (some .int)
abbrev wsE_askedOfY : List Cond := kE_askedOfY :: dt
abbrev cB_replacementOf : ByteArray := prog_1_method_19_code
abbrev yB_replacementOf : MethodName := ⟨RB, "replacementOf", "(I)I"⟩
abbrev kB_replacementOf : Cond := .code yB_replacementOf cB_replacementOf 3 (some .int)
abbrev wsB_replacementOf : List Cond := kB_replacementOf :: dt
abbrev cB_hasBitsOfX : ByteArray := prog_1_method_20_code
abbrev yB_hasBitsOfX : MethodName := ⟨RB, "hasBitsOfX", "(II)Z"⟩
abbrev kB_hasBitsOfX : Cond := .code yB_hasBitsOfX cB_hasBitsOfX 6 (some .boolean)
abbrev wsB_hasBitsOfX : List Cond := kB_hasBitsOfX :: dt
abbrev cL_input : ByteArray := method_3_code
abbrev yL_input : MethodName := ⟨RL, "input", "(LDemandedBits;I[J)I"⟩
abbrev kL_input : Cond := .codeWith yL_input cL_input 4 (some .int) [(0, 9, 12, 13), (0, 9, 15, 15)]
abbrev wsL_input : List Cond := kL_input :: dt
abbrev cB_input : ByteArray := prog_1_method_2_code
abbrev yB_input : MethodName := ⟨RB, "input", "(I)I"⟩
abbrev kB_input : Cond := .code yB_input cB_input 2 (some .int)
abbrev wsB_input : List Cond := kB_input :: dt
abbrev cB_append : ByteArray := prog_1_method_17_code
abbrev yB_append : MethodName := ⟨RB, "append", "(IIII)I"⟩
abbrev kB_append : Cond := .code yB_append cB_append 5 (some .int)
abbrev wsB_append : List Cond := kB_append :: dt
abbrev cU_appendValue : ByteArray := prog_5_method_2_code
abbrev yU_appendValue : MethodName := ⟨RU, "appendValue", "(IIII)I"⟩
abbrev kU_appendValue : Cond := .code yU_appendValue cU_appendValue 5 (some .int)
abbrev wsU_appendValue : List Cond := kU_appendValue :: dt
abbrev cL_constant : ByteArray := method_4_code
abbrev yL_constant : MethodName := ⟨RL, "constant", "(LDemandedBits;I[J)I"⟩
abbrev kL_constant : Cond := .codeWith yL_constant cL_constant 4 (some .int) [(0, 9, 12, 15)]
abbrev wsL_constant : List Cond := kL_constant :: dt
abbrev cB_constant : ByteArray := prog_1_method_3_code
abbrev yB_constant : MethodName := ⟨RB, "constant", "(I)I"⟩
abbrev kB_constant : Cond := .code yB_constant cB_constant 2 (some .int)
abbrev wsB_constant : List Cond := kB_constant :: dt
abbrev cL_binary : ByteArray := method_5_code
abbrev yL_binary : MethodName := ⟨RL, "binary", "(LDemandedBits;III[J)I"⟩
abbrev kL_binary : Cond := .codeWith yL_binary cL_binary 6 (some .int) [(0, 12, 15, 13), (0, 12, 19, 24), (0, 12, 23, 15)]
abbrev wsL_binary : List Cond := kL_binary :: dt
abbrev cB_binary : ByteArray := prog_1_method_4_code
abbrev yB_binary : MethodName := ⟨RB, "binary", "(III)I"⟩
abbrev kB_binary : Cond := .code yB_binary cB_binary 4 (some .int)
abbrev wsB_binary : List Cond := kB_binary :: dt
abbrev cB_requireValue : ByteArray := prog_1_method_16_code
abbrev yB_requireValue : MethodName := ⟨RB, "requireValue", "(I)V"⟩
abbrev kB_requireValue : Cond := .code yB_requireValue cB_requireValue 2 none
abbrev wsB_requireValue : List Cond := kB_requireValue :: dt
abbrev cL_shift : ByteArray := method_6_code
abbrev yL_shift : MethodName := ⟨RL, "shift", "(LDemandedBits;III[J)I"⟩
abbrev kL_shift : Cond := .codeWith yL_shift cL_shift 6 (some .int) [(0, 12, 15, 13), (0, 12, 19, 24), (0, 12, 23, 15)]
abbrev wsL_shift : List Cond := kL_shift :: dt
abbrev cB_shift : ByteArray := prog_1_method_5_code
abbrev yB_shift : MethodName := ⟨RB, "shift", "(III)I"⟩
abbrev kB_shift : Cond := .code yB_shift cB_shift 4 (some .int)
abbrev wsB_shift : List Cond := kB_shift :: dt
abbrev cL_extend : ByteArray := method_7_code
abbrev yL_extend : MethodName := ⟨RL, "extend", "(LDemandedBits;IZ[J)I"⟩
abbrev kL_extend : Cond := .codeWith yL_extend cL_extend 5 (some .int) [(0, 10, 13, 24), (0, 10, 17, 15)]
abbrev wsL_extend : List Cond := kL_extend :: dt
abbrev cB_extend : ByteArray := prog_1_method_6_code
abbrev yB_extend : MethodName := ⟨RB, "extend", "(IZ)I"⟩
abbrev kB_extend : Cond := .code yB_extend cB_extend 3 (some .int)
abbrev wsB_extend : List Cond := kB_extend :: dt
abbrev cL_loop : ByteArray := method_8_code
abbrev yL_loop : MethodName := ⟨RL, "loop", "(LDemandedBits;I[J)I"⟩
abbrev kL_loop : Cond := .codeWith yL_loop cL_loop 4 (some .int) [(0, 9, 12, 24), (0, 9, 15, 15)]
abbrev wsL_loop : List Cond := kL_loop :: dt
abbrev cB_loop : ByteArray := prog_1_method_7_code
abbrev yB_loop : MethodName := ⟨RB, "loop", "(I)I"⟩
abbrev kB_loop : Cond := .code yB_loop cB_loop 2 (some .int)
abbrev wsB_loop : List Cond := kB_loop :: dt
abbrev cL_back : ByteArray := method_9_code
abbrev yL_back : MethodName := ⟨RL, "back", "(LDemandedBits;II)I"⟩
abbrev kL_back : Cond := .codeWith yL_back cL_back 4 (some .int) [(0, 6, 9, 24), (0, 6, 12, 13)]
abbrev wsL_back : List Cond := kL_back :: dt
abbrev cB_back : ByteArray := prog_1_method_8_code
abbrev yB_back : MethodName := ⟨RB, "back", "(II)V"⟩
abbrev kB_back : Cond := .code yB_back cB_back 3 none
abbrev wsB_back : List Cond := kB_back :: dt
abbrev cL_result : ByteArray := method_10_code
abbrev yL_result : MethodName := ⟨RL, "result", "(LDemandedBits;II[J)I"⟩
abbrev kL_result : Cond := .codeWith yL_result cL_result 5 (some .int) [(0, 10, 13, 24), (0, 10, 17, 15)]
abbrev wsL_result : List Cond := kL_result :: dt
abbrev cB_result : ByteArray := prog_1_method_9_code
abbrev yB_result : MethodName := ⟨RB, "result", "(II)I"⟩
abbrev kB_result : Cond := .code yB_result cB_result 3 (some .int)
abbrev wsB_result : List Cond := kB_result :: dt
abbrev cU_appendResult : ByteArray := prog_5_method_3_code
abbrev yU_appendResult : MethodName := ⟨RU, "appendResult", "(II)I"⟩
abbrev kU_appendResult : Cond := .code yU_appendResult cU_appendResult 3 (some .int)
abbrev wsU_appendResult : List Cond := kU_appendResult :: dt
abbrev cL_bits : ByteArray := method_11_code
abbrev yL_bits : MethodName := ⟨RL, "bits", "(LDemandedBits;II[J)I"⟩
abbrev kL_bits : Cond := .codeWith yL_bits cL_bits 5 (some .int) [(0, 10, 13, 24), (0, 10, 17, 13)]
abbrev wsL_bits : List Cond := kL_bits :: dt
abbrev cB_bits : ByteArray := prog_1_method_10_code
abbrev yB_bits : MethodName := ⟨RB, "bits", "(II)I"⟩
abbrev kB_bits : Cond := .code yB_bits cB_bits 3 (some .int)
abbrev wsB_bits : List Cond := kB_bits :: dt
abbrev cB_width : ByteArray := prog_1_method_22_code
abbrev yB_width : MethodName := ⟨RB, "width", "(I)I"⟩
abbrev kB_width : Cond := .code yB_width cB_width 1 (some .int)
abbrev wsB_width : List Cond := kB_width :: dt
abbrev cL_replaced : ByteArray := method_12_code
abbrev yL_replaced : MethodName := ⟨RL, "replaced", "(LDemandedBits;I[J)I"⟩
abbrev kL_replaced : Cond := .codeWith yL_replaced cL_replaced 4 (some .int) [(0, 9, 12, 24)]
abbrev wsL_replaced : List Cond := kL_replaced :: dt
abbrev cB_replaced : ByteArray := prog_1_method_11_code
abbrev yB_replaced : MethodName := ⟨RB, "replaced", "(I)I"⟩
abbrev kB_replaced : Cond := .code yB_replaced cB_replaced 2 (some .int)
abbrev wsB_replaced : List Cond := kB_replaced :: dt
abbrev cL_run : ByteArray := method_13_code
abbrev yL_run : MethodName := ⟨RL, "run", "(LDemandedBits;IIII[J)I"⟩
abbrev kL_run : Cond := .codeWith yL_run cL_run 7 (some .int) [(0, 14, 17, 13)]
abbrev wsL_run : List Cond := kL_run :: dt
abbrev cB_run : ByteArray := prog_1_method_13_code
abbrev yB_run : MethodName := ⟨RB, "run", "(IIII)I"⟩
abbrev kB_run : Cond := .code yB_run cB_run 5 (some .int)
abbrev wsB_run : List Cond := kB_run :: dt
abbrev cC_follow : ByteArray := prog_2_method_2_code
abbrev yC_follow : MethodName := ⟨RC, "follow", "(LDemandedBits$Function;[I[I[II)V"⟩
abbrev kC_follow : Cond := .code yC_follow cC_follow 8 none
abbrev wsC_follow : List Cond := kC_follow :: dt
abbrev cC_workOut : ByteArray := prog_2_method_3_code
abbrev yC_workOut : MethodName := ⟨RC, "workOut", "(IIII[I)I"⟩
abbrev kC_workOut : Cond := .code yC_workOut cC_workOut 5 (some .int)
abbrev wsC_workOut : List Cond := kC_workOut :: dt
abbrev cB_countDifferences : ByteArray := prog_1_method_21_code
abbrev yB_countDifferences : MethodName := ⟨RB, "countDifferences", "()I"⟩
abbrev kB_countDifferences : Cond := .code yB_countDifferences cB_countDifferences 3 (some .int)
abbrev wsB_countDifferences : List Cond := kB_countDifferences :: dt
abbrev cL_observed : ByteArray := method_14_code
abbrev yL_observed : MethodName := ⟨RL, "observed", "(LDemandedBits;IZ[J)I"⟩
abbrev kL_observed : Cond := .codeWith yL_observed cL_observed 5 (some .int) [(0, 10, 13, 24)]
abbrev wsL_observed : List Cond := kL_observed :: dt
abbrev cB_observed : ByteArray := prog_1_method_14_code
abbrev yB_observed : MethodName := ⟨RB, "observed", "(IZ)I"⟩
abbrev kB_observed : Cond := .code yB_observed cB_observed 3 (some .int)
abbrev wsB_observed : List Cond := kB_observed :: dt
abbrev cL_value : ByteArray := method_15_code
abbrev yL_value : MethodName := ⟨RL, "value", "(LDemandedBits;IZ[J)I"⟩
abbrev kL_value : Cond := .codeWith yL_value cL_value 5 (some .int) [(0, 10, 13, 24)]
abbrev wsL_value : List Cond := kL_value :: dt
abbrev cB_value : ByteArray := prog_1_method_15_code
abbrev yB_value : MethodName := ⟨RB, "value", "(IZ)I"⟩
abbrev kB_value : Cond := .code yB_value cB_value 3 (some .int)
abbrev wsB_value : List Cond := kB_value :: dt
abbrev cM_init : ByteArray := prog_7_method_1_code
abbrev yM_init : MethodName := ⟨RM, "<init>", "()V"⟩
abbrev kM_init : Cond := .code yM_init cM_init 1 none
abbrev wsM_init : List Cond := kM_init :: dt
abbrev cM_thrown : ByteArray := prog_7_method_2_code
abbrev yM_thrown : MethodName := ⟨RM, "thrown", "()I"⟩
abbrev kM_thrown : Cond := .code yM_thrown cM_thrown 1 (some .int)
abbrev wsM_thrown : List Cond := kM_thrown :: dt
abbrev cM_input : ByteArray := prog_7_method_5_code
abbrev yM_input : MethodName := ⟨RM, "input", "(I)I"⟩
abbrev kM_input : Cond := .code yM_input cM_input 2 (some .int)
abbrev wsM_input : List Cond := kM_input :: dt
abbrev cM_make : ByteArray := prog_7_method_4_code
abbrev yM_make : MethodName := ⟨RM, "make", "(IIII)I"⟩
abbrev kM_make : Cond := .code yM_make cM_make 5 (some .int)
abbrev wsM_make : List Cond := kM_make :: dt
abbrev cM_constant : ByteArray := prog_7_method_6_code
abbrev yM_constant : MethodName := ⟨RM, "constant", "(I)I"⟩
abbrev kM_constant : Cond := .code yM_constant cM_constant 2 (some .int)
abbrev wsM_constant : List Cond := kM_constant :: dt
abbrev cM_binary : ByteArray := prog_7_method_7_code
abbrev yM_binary : MethodName := ⟨RM, "binary", "(III)I"⟩
abbrev kM_binary : Cond := .code yM_binary cM_binary 4 (some .int)
abbrev wsM_binary : List Cond := kM_binary :: dt
abbrev cM_isValue : ByteArray := prog_7_method_3_code
abbrev yM_isValue : MethodName := ⟨RM, "isValue", "(I)Z"⟩
abbrev kM_isValue : Cond := .code yM_isValue cM_isValue 2 (some .boolean)
abbrev wsM_isValue : List Cond := kM_isValue :: dt
abbrev cM_shift : ByteArray := prog_7_method_8_code
abbrev yM_shift : MethodName := ⟨RM, "shift", "(III)I"⟩
abbrev kM_shift : Cond := .code yM_shift cM_shift 5 (some .int)
abbrev wsM_shift : List Cond := kM_shift :: dt
abbrev cM_extend : ByteArray := prog_7_method_9_code
abbrev yM_extend : MethodName := ⟨RM, "extend", "(IZ)I"⟩
abbrev kM_extend : Cond := .code yM_extend cM_extend 3 (some .int)
abbrev wsM_extend : List Cond := kM_extend :: dt
abbrev cM_loop : ByteArray := prog_7_method_10_code
abbrev yM_loop : MethodName := ⟨RM, "loop", "(I)I"⟩
abbrev kM_loop : Cond := .code yM_loop cM_loop 2 (some .int)
abbrev wsM_loop : List Cond := kM_loop :: dt
abbrev cM_back : ByteArray := prog_7_method_11_code
abbrev yM_back : MethodName := ⟨RM, "back", "(II)V"⟩
abbrev kM_back : Cond := .code yM_back cM_back 3 none
abbrev wsM_back : List Cond := kM_back :: dt
abbrev cM_result : ByteArray := prog_7_method_12_code
abbrev yM_result : MethodName := ⟨RM, "result", "(II)I"⟩
abbrev kM_result : Cond := .code yM_result cM_result 3 (some .int)
abbrev wsM_result : List Cond := kM_result :: dt
abbrev cM_bits : ByteArray := prog_7_method_35_code
abbrev yM_bits : MethodName := ⟨RM, "bits", "(II)I"⟩
abbrev kM_bits : Cond := .code yM_bits cM_bits 3 (some .int)
abbrev wsM_bits : List Cond := kM_bits :: dt
abbrev cM_analyse : ByteArray := prog_7_method_32_code
abbrev yM_analyse : MethodName := ⟨RM, "analyse", "()V"⟩
abbrev kM_analyse : Cond := .code yM_analyse cM_analyse 2 none
abbrev wsM_analyse : List Cond := kM_analyse :: dt
abbrev cM_learnAll : ByteArray := prog_7_method_22_code
abbrev yM_learnAll : MethodName := ⟨RM, "learnAll", "()V"⟩
abbrev kM_learnAll : Cond := .code yM_learnAll cM_learnAll 6 none
abbrev wsM_learnAll : List Cond := kM_learnAll :: dt
abbrev cM_learn : ByteArray := prog_7_method_21_code
abbrev yM_learn : MethodName := ⟨RM, "learn", "(I)V"⟩
abbrev kM_learn : Cond := .code yM_learn cM_learn 6 none
abbrev wsM_learn : List Cond := kM_learn :: dt
abbrev cM_add : ByteArray := prog_7_method_18_code
abbrev yM_add : MethodName := ⟨RM, "add", "(IZ)V"⟩
abbrev kM_add : Cond := .code yM_add cM_add 7 none
abbrev wsM_add : List Cond := kM_add :: dt
abbrev cM_turned : ByteArray := prog_7_method_16_code
abbrev yM_turned : MethodName := ⟨RM, "turned", "(I)I"⟩
abbrev kM_turned : Cond := .code yM_turned cM_turned 1 (some .int)
abbrev wsM_turned : List Cond := kM_turned :: dt
abbrev cM_sum : ByteArray := prog_7_method_14_code
abbrev yM_sum : MethodName := ⟨RM, "sum", "(III)I"⟩
abbrev kM_sum : Cond := .code yM_sum cM_sum 3 (some .int)
abbrev wsM_sum : List Cond := kM_sum :: dt
abbrev cM_carry : ByteArray := prog_7_method_15_code
abbrev yM_carry : MethodName := ⟨RM, "carry", "(III)I"⟩
abbrev kM_carry : Cond := .code yM_carry cM_carry 5 (some .int)
abbrev wsM_carry : List Cond := kM_carry :: dt
abbrev cM_multiply : ByteArray := prog_7_method_19_code
abbrev yM_multiply : MethodName := ⟨RM, "multiply", "(I)V"⟩
abbrev kM_multiply : Cond := .code yM_multiply cM_multiply 9 none
abbrev wsM_multiply : List Cond := kM_multiply :: dt
abbrev cM_bit : ByteArray := prog_7_method_13_code
abbrev yM_bit : MethodName := ⟨RM, "bit", "(II)I"⟩
abbrev kM_bit : Cond := .code yM_bit cM_bit 2 (some .int)
abbrev wsM_bit : List Cond := kM_bit :: dt
abbrev cM_and : ByteArray := prog_7_method_17_code
abbrev yM_and : MethodName := ⟨RM, "and", "(II)I"⟩
abbrev kM_and : Cond := .code yM_and cM_and 2 (some .int)
abbrev wsM_and : List Cond := kM_and :: dt
abbrev cM_from : ByteArray := prog_7_method_20_code
abbrev yM_from : MethodName := ⟨RM, "from", "(II)I"⟩
abbrev kM_from : Cond := .code yM_from cM_from 5 (some .int)
abbrev wsM_from : List Cond := kM_from :: dt
abbrev cM_demand : ByteArray := prog_7_method_27_code
abbrev yM_demand : MethodName := ⟨RM, "demand", "([ZZ)V"⟩
abbrev kM_demand : Cond := .code yM_demand cM_demand 5 none
abbrev wsM_demand : List Cond := kM_demand :: dt
abbrev cM_want : ByteArray := prog_7_method_23_code
abbrev yM_want : MethodName := ⟨RM, "want", "([ZII)V"⟩
abbrev kM_want : Cond := .code yM_want cM_want 4 none
abbrev wsM_want : List Cond := kM_want :: dt
abbrev cM_ask : ByteArray := prog_7_method_25_code
abbrev yM_ask : MethodName := ⟨RM, "ask", "([ZII)V"⟩
abbrev kM_ask : Cond := .code yM_ask cM_ask 6 none
abbrev wsM_ask : List Cond := kM_ask :: dt
abbrev cM_wantUpTo : ByteArray := prog_7_method_24_code
abbrev yM_wantUpTo : MethodName := ⟨RM, "wantUpTo", "([ZII)V"⟩
abbrev kM_wantUpTo : Cond := .code yM_wantUpTo cM_wantUpTo 5 none
abbrev wsM_wantUpTo : List Cond := kM_wantUpTo :: dt
abbrev cM_askWith : ByteArray := prog_7_method_26_code
abbrev yM_askWith : MethodName := ⟨RM, "askWith", "([ZIIII)V"⟩
abbrev kM_askWith : Cond := .code yM_askWith cM_askWith 8 none
abbrev wsM_askWith : List Cond := kM_askWith :: dt
abbrev cM_replacement : ByteArray := prog_7_method_31_code
abbrev yM_replacement : MethodName := ⟨RM, "replacement", "(I)I"⟩
abbrev kM_replacement : Cond := .code yM_replacement cM_replacement 4 (some .int)
abbrev wsM_replacement : List Cond := kM_replacement :: dt
abbrev cM_isKnown : ByteArray := prog_7_method_29_code
abbrev yM_isKnown : MethodName := ⟨RM, "isKnown", "(I)Z"⟩
abbrev kM_isKnown : Cond := .code yM_isKnown cM_isKnown 4 (some .boolean)
abbrev wsM_isKnown : List Cond := kM_isKnown :: dt
abbrev cM_areIn : ByteArray := prog_7_method_28_code
abbrev yM_areIn : MethodName := ⟨RM, "areIn", "(IIIZ)Z"⟩
abbrev kM_areIn : Cond := .code yM_areIn cM_areIn 8 (some .boolean)
abbrev wsM_areIn : List Cond := kM_areIn :: dt
abbrev cM_isNarrow : ByteArray := prog_7_method_30_code
abbrev yM_isNarrow : MethodName := ⟨RM, "isNarrow", "(II)Z"⟩
abbrev kM_isNarrow : Cond := .code yM_isNarrow cM_isNarrow 5 (some .boolean)
abbrev wsM_isNarrow : List Cond := kM_isNarrow :: dt
abbrev cM_known : ByteArray := prog_7_method_34_code
abbrev yM_known : MethodName := ⟨RM, "known", "(II)I"⟩
abbrev kM_known : Cond := .code yM_known cM_known 5 (some .int)
abbrev wsM_known : List Cond := kM_known :: dt
abbrev cM_word : ByteArray := prog_7_method_33_code
abbrev yM_word : MethodName := ⟨RM, "word", "([ZI)I"⟩
abbrev kM_word : Cond := .code yM_word cM_word 5 (some .int)
abbrev wsM_word : List Cond := kM_word :: dt
abbrev cM_replaced : ByteArray := prog_7_method_36_code
abbrev yM_replaced : MethodName := ⟨RM, "replaced", "(I)I"⟩
abbrev kM_replaced : Cond := .code yM_replaced cM_replaced 2 (some .int)
abbrev wsM_replaced : List Cond := kM_replaced :: dt
abbrev cM_live : ByteArray := prog_7_method_37_code
abbrev yM_live : MethodName := ⟨RM, "live", "()I"⟩
abbrev kM_live : Cond := .code yM_live cM_live 3 (some .int)
abbrev wsM_live : List Cond := kM_live :: dt
abbrev cM_run : ByteArray := prog_7_method_40_code
abbrev yM_run : MethodName := ⟨RM, "run", "(IIII)I"⟩
abbrev kM_run : Cond := .code yM_run cM_run 7 (some .int)
abbrev wsM_run : List Cond := kM_run :: dt
abbrev cM_runOne : ByteArray := prog_7_method_39_code
abbrev yM_runOne : MethodName := ⟨RM, "runOne", "([IZIIII)V"⟩
abbrev kM_runOne : Cond := .code yM_runOne cM_runOne 9 none
abbrev wsM_runOne : List Cond := kM_runOne :: dt
abbrev cM_reckon : ByteArray := prog_7_method_38_code
abbrev yM_reckon : MethodName := ⟨RM, "reckon", "(I[I)I"⟩
abbrev kM_reckon : Cond := .code yM_reckon cM_reckon 5 (some .int)
abbrev wsM_reckon : List Cond := kM_reckon :: dt
abbrev cM_observed : ByteArray := prog_7_method_41_code
abbrev yM_observed : MethodName := ⟨RM, "observed", "(IZ)I"⟩
abbrev kM_observed : Cond := .code yM_observed cM_observed 3 (some .int)
abbrev wsM_observed : List Cond := kM_observed :: dt
abbrev cM_value : ByteArray := prog_7_method_42_code
abbrev yM_value : MethodName := ⟨RM, "value", "(IZ)I"⟩
abbrev kM_value : Cond := .code yM_value cM_value 3 (some .int)
abbrev wsM_value : List Cond := kM_value :: dt
abbrev cL_law : ByteArray := code
def dw_nest : List (String × Nat × MethodName × String) := [("DemandedBits", 11, ⟨"DemandedBits$Function", "<init>", "()V"⟩, "DemandedBits"), ("DemandedBits", 18, ⟨"DemandedBits$Facts", "<init>", "()V"⟩, "DemandedBits"), ("DemandedBits", 25, ⟨"DemandedBits$Demands", "<init>", "()V"⟩, "DemandedBits"), ("DemandedBits", 45, ⟨"DemandedBits$Course", "<init>", "()V"⟩, "DemandedBits"), ("DemandedBits$Facts", 68, ⟨"DemandedBits", "lowest", "(I)I"⟩, "DemandedBits"), ("DemandedBits$Demands", 67, ⟨"DemandedBits", "upTo", "(I)I"⟩, "DemandedBits"), ("DemandedBits$Demands", 84, ⟨"DemandedBits", "lowest", "(I)I"⟩, "DemandedBits")]
theorem tp_B_analyse : Cond.selects RB yB_analyse yB_analyse ∈ dt := dt_p 0 (by decide +kernel) rfl
theorem tp_F_learn : Cond.selects RF yF_learn yF_learn ∈ dt := dt_p 1 (by decide +kernel) rfl
theorem tp_F_workOut : Cond.selects RF yF_workOut yF_workOut ∈ dt := dt_p 2 (by decide +kernel) rfl
theorem tp_F_learnSum : Cond.selects RF yF_learnSum yF_learnSum ∈ dt := dt_p 3 (by decide +kernel) rfl
theorem tp_F_learnProduct : Cond.selects RF yF_learnProduct yF_learnProduct ∈ dt := dt_p 4 (by decide +kernel) rfl
theorem tp_F_workOutMoved : Cond.selects RF yF_workOutMoved yF_workOutMoved ∈ dt := dt_p 5 (by decide +kernel) rfl
theorem tp_E_demand : Cond.selects RE yE_demand yE_demand ∈ dt := dt_p 6 (by decide +kernel) rfl
theorem tp_E_ask : Cond.selects RE yE_ask yE_ask ∈ dt := dt_p 7 (by decide +kernel) rfl
theorem tp_B_replacementOf : Cond.selects RB yB_replacementOf yB_replacementOf ∈ dt := dt_p 8 (by decide +kernel) rfl
theorem tp_B_hasBitsOfX : Cond.selects RB yB_hasBitsOfX yB_hasBitsOfX ∈ dt := dt_p 9 (by decide +kernel) rfl
theorem tp_B_append : Cond.selects RB yB_append yB_append ∈ dt := dt_p 11 (by decide +kernel) rfl
theorem tp_B_requireValue : Cond.selects RB yB_requireValue yB_requireValue ∈ dt := dt_p 12 (by decide +kernel) rfl
theorem tp_B_countDifferences : Cond.selects RB yB_countDifferences yB_countDifferences ∈ dt := dt_p 13 (by decide +kernel) rfl
theorem tp_M_make : Cond.selects RM yM_make yM_make ∈ dt := dt_p 14 (by decide +kernel) rfl
theorem tp_M_isValue : Cond.selects RM yM_isValue yM_isValue ∈ dt := dt_p 15 (by decide +kernel) rfl
theorem tp_M_analyse : Cond.selects RM yM_analyse yM_analyse ∈ dt := dt_p 16 (by decide +kernel) rfl
theorem tp_M_learnAll : Cond.selects RM yM_learnAll yM_learnAll ∈ dt := dt_p 17 (by decide +kernel) rfl
theorem tp_M_learn : Cond.selects RM yM_learn yM_learn ∈ dt := dt_p 18 (by decide +kernel) rfl
theorem tp_M_add : Cond.selects RM yM_add yM_add ∈ dt := dt_p 19 (by decide +kernel) rfl
theorem tp_M_multiply : Cond.selects RM yM_multiply yM_multiply ∈ dt := dt_p 20 (by decide +kernel) rfl
theorem tp_M_from : Cond.selects RM yM_from yM_from ∈ dt := dt_p 21 (by decide +kernel) rfl
theorem tp_M_demand : Cond.selects RM yM_demand yM_demand ∈ dt := dt_p 22 (by decide +kernel) rfl
theorem tp_M_want : Cond.selects RM yM_want yM_want ∈ dt := dt_p 23 (by decide +kernel) rfl
theorem tp_M_ask : Cond.selects RM yM_ask yM_ask ∈ dt := dt_p 24 (by decide +kernel) rfl
theorem tp_M_wantUpTo : Cond.selects RM yM_wantUpTo yM_wantUpTo ∈ dt := dt_p 25 (by decide +kernel) rfl
theorem tp_M_askWith : Cond.selects RM yM_askWith yM_askWith ∈ dt := dt_p 26 (by decide +kernel) rfl
theorem tp_M_replacement : Cond.selects RM yM_replacement yM_replacement ∈ dt := dt_p 27 (by decide +kernel) rfl
theorem tp_M_isKnown : Cond.selects RM yM_isKnown yM_isKnown ∈ dt := dt_p 28 (by decide +kernel) rfl
theorem tp_M_areIn : Cond.selects RM yM_areIn yM_areIn ∈ dt := dt_p 29 (by decide +kernel) rfl
theorem tp_M_isNarrow : Cond.selects RM yM_isNarrow yM_isNarrow ∈ dt := dt_p 30 (by decide +kernel) rfl
theorem tp_M_known : Cond.selects RM yM_known yM_known ∈ dt := dt_p 31 (by decide +kernel) rfl
theorem tp_M_word : Cond.selects RM yM_word yM_word ∈ dt := dt_p 32 (by decide +kernel) rfl
theorem tp_M_runOne : Cond.selects RM yM_runOne yM_runOne ∈ dt := dt_p 33 (by decide +kernel) rfl
theorem tp_M_reckon : Cond.selects RM yM_reckon yM_reckon ∈ dt := dt_p 34 (by decide +kernel) rfl
theorem tw_0 : (Jvm.Cond.initialized "DemandedBitsLaw") ∈ dt := dt_r 0 (by decide +kernel) rfl
theorem tw_1 : (Jvm.Cond.initialized "DemandedBits") ∈ dt := dt_r 1 (by decide +kernel) rfl
theorem tw_2 : (Jvm.Cond.initialized "DemandedBits$Function") ∈ dt := dt_r 2 (by decide +kernel) rfl
theorem tw_3 : (Jvm.Cond.initialized "DemandedBits$Facts") ∈ dt := dt_r 3 (by decide +kernel) rfl
theorem tw_4 : (Jvm.Cond.initialized "DemandedBits$Demands") ∈ dt := dt_r 4 (by decide +kernel) rfl
theorem tw_5 : (Jvm.Cond.initialized "DemandedBits$Course") ∈ dt := dt_r 5 (by decide +kernel) rfl
theorem tw_6 : (Jvm.Cond.initialized "java/util/Arrays") ∈ dt := dt_r 6 (by decide +kernel) rfl
theorem tw_7 : (Jvm.Cond.initialized "DemandedBitsModel") ∈ dt := dt_r 7 (by decide +kernel) rfl
theorem tw_8 : (Jvm.Cond.initialized "java/lang/Throwable") ∈ dt := dt_r 8 (by decide +kernel) rfl
theorem tw_9 : (Jvm.Cond.initialized "java/lang/Exception") ∈ dt := dt_r 9 (by decide +kernel) rfl
theorem tw_10 : (Jvm.Cond.initialized "java/lang/RuntimeException") ∈ dt := dt_r 10 (by decide +kernel) rfl
theorem tw_11 : (Jvm.Cond.initialized "java/lang/IllegalArgumentException") ∈ dt := dt_r 11 (by decide +kernel) rfl
theorem tw_12 : (Jvm.Cond.initialized "java/lang/IllegalStateException") ∈ dt := dt_r 12 (by decide +kernel) rfl
theorem tw_13 : (Jvm.Cond.initialized "java/lang/IndexOutOfBoundsException") ∈ dt := dt_r 13 (by decide +kernel) rfl
theorem tw_14 : (Jvm.Cond.initialized "java/lang/Integer") ∈ dt := dt_r 14 (by decide +kernel) rfl
theorem tw_15 : (Jvm.Cond.initialized "java/lang/System") ∈ dt := dt_r 15 (by decide +kernel) rfl
theorem tw_16 : (Jvm.Cond.classLink "DemandedBitsLaw" (8 : Nat) "DemandedBits") ∈ dt := dt_r 16 (by decide +kernel) rfl
theorem tw_17 : (Jvm.Cond.instantiable "DemandedBits" (10 : Nat)) ∈ dt := dt_r 17 (by decide +kernel) rfl
theorem tw_18 : (Jvm.Cond.methodLink "DemandedBitsLaw" (60 : Nat) ({ cls := "DemandedBits", name := "<init>", desc := "()V" } : Jvm.MethodName)) ∈ dt := dt_r 18 (by decide +kernel) rfl
theorem tw_19 : (Jvm.Cond.instanceMethod ({ cls := "DemandedBits", name := "<init>", desc := "()V" } : Jvm.MethodName)) ∈ dt := dt_r 19 (by decide +kernel) rfl
theorem tw_20 : (Jvm.Cond.code ({ cls := "DemandedBits", name := "<init>", desc := "()V" } : Jvm.MethodName) prog_1_method_1_code (1 : Nat) (Option.none : Option Jvm.ClassFile.FieldType)) ∈ dt := dt_r 20 (by decide +kernel) rfl
theorem tw_21 : (Jvm.Cond.methodLink "DemandedBits" (3 : Nat) ({ cls := "java/lang/Object", name := "<init>", desc := "()V" } : Jvm.MethodName)) ∈ dt := dt_r 21 (by decide +kernel) rfl
theorem tw_22 : (Jvm.Cond.instanceMethod ({ cls := "java/lang/Object", name := "<init>", desc := "()V" } : Jvm.MethodName)) ∈ dt := dt_r 22 (by decide +kernel) rfl
theorem tw_23 : (Jvm.Cond.code ({ cls := "java/lang/Object", name := "<init>", desc := "()V" } : Jvm.MethodName) object_method_1_code (1 : Nat) (Option.none : Option Jvm.ClassFile.FieldType)) ∈ dt := dt_r 23 (by decide +kernel) rfl
theorem tw_24 : (Jvm.Cond.classLink "DemandedBits" (9 : Nat) "DemandedBits$Function") ∈ dt := dt_r 24 (by decide +kernel) rfl
theorem tw_25 : (Jvm.Cond.instantiable "DemandedBits$Function" (8 : Nat)) ∈ dt := dt_r 25 (by decide +kernel) rfl
theorem tw_27 : (Jvm.Cond.instanceMethod ({ cls := "DemandedBits$Function", name := "<init>", desc := "()V" } : Jvm.MethodName)) ∈ dt := dt_r 27 (by decide +kernel) rfl
theorem tw_28 : (Jvm.Cond.code ({ cls := "DemandedBits$Function", name := "<init>", desc := "()V" } : Jvm.MethodName) prog_5_method_1_code (1 : Nat) (Option.none : Option Jvm.ClassFile.FieldType)) ∈ dt := dt_r 28 (by decide +kernel) rfl
theorem tw_29 : (Jvm.Cond.methodLink "DemandedBits$Function" (3 : Nat) ({ cls := "java/lang/Object", name := "<init>", desc := "()V" } : Jvm.MethodName)) ∈ dt := dt_r 29 (by decide +kernel) rfl
theorem tw_30 : (Jvm.Cond.fieldLink "DemandedBits$Function" (9 : Nat) "DemandedBits$Function" "kind" "[I") ∈ dt := dt_r 30 (by decide +kernel) rfl
theorem tw_31 : (Jvm.Cond.fieldLink "DemandedBits$Course" (33 : Nat) "DemandedBits$Function" "kind" "[I") ∈ dt := dt_r 31 (by decide +kernel) rfl
theorem tw_32 : (Jvm.Cond.fieldLink "DemandedBits$Facts" (24 : Nat) "DemandedBits$Function" "kind" "[I") ∈ dt := dt_r 32 (by decide +kernel) rfl
theorem tw_33 : (Jvm.Cond.fieldLink "DemandedBits$Demands" (64 : Nat) "DemandedBits$Function" "kind" "[I") ∈ dt := dt_r 33 (by decide +kernel) rfl
theorem tw_34 : (Jvm.Cond.fieldLink "DemandedBits" (84 : Nat) "DemandedBits$Function" "kind" "[I") ∈ dt := dt_r 34 (by decide +kernel) rfl
theorem tw_35 : (Jvm.Cond.fieldLink "DemandedBits$Function" (15 : Nat) "DemandedBits$Function" "x" "[I") ∈ dt := dt_r 35 (by decide +kernel) rfl
theorem tw_36 : (Jvm.Cond.fieldLink "DemandedBits$Course" (36 : Nat) "DemandedBits$Function" "x" "[I") ∈ dt := dt_r 36 (by decide +kernel) rfl
theorem tw_37 : (Jvm.Cond.fieldLink "DemandedBits$Facts" (27 : Nat) "DemandedBits$Function" "x" "[I") ∈ dt := dt_r 37 (by decide +kernel) rfl
theorem tw_38 : (Jvm.Cond.fieldLink "DemandedBits$Demands" (48 : Nat) "DemandedBits$Function" "x" "[I") ∈ dt := dt_r 38 (by decide +kernel) rfl
theorem tw_39 : (Jvm.Cond.fieldLink "DemandedBits" (171 : Nat) "DemandedBits$Function" "x" "[I") ∈ dt := dt_r 39 (by decide +kernel) rfl
theorem tw_40 : (Jvm.Cond.fieldLink "DemandedBits$Function" (18 : Nat) "DemandedBits$Function" "y" "[I") ∈ dt := dt_r 40 (by decide +kernel) rfl
theorem tw_41 : (Jvm.Cond.fieldLink "DemandedBits$Course" (39 : Nat) "DemandedBits$Function" "y" "[I") ∈ dt := dt_r 41 (by decide +kernel) rfl
theorem tw_42 : (Jvm.Cond.fieldLink "DemandedBits$Demands" (55 : Nat) "DemandedBits$Function" "y" "[I") ∈ dt := dt_r 42 (by decide +kernel) rfl
theorem tw_43 : (Jvm.Cond.fieldLink "DemandedBits$Facts" (42 : Nat) "DemandedBits$Function" "y" "[I") ∈ dt := dt_r 43 (by decide +kernel) rfl
theorem tw_44 : (Jvm.Cond.fieldLink "DemandedBits" (89 : Nat) "DemandedBits$Function" "y" "[I") ∈ dt := dt_r 44 (by decide +kernel) rfl
theorem tw_45 : (Jvm.Cond.fieldLink "DemandedBits$Function" (21 : Nat) "DemandedBits$Function" "number" "[I") ∈ dt := dt_r 45 (by decide +kernel) rfl
theorem tw_46 : (Jvm.Cond.fieldLink "DemandedBits$Course" (42 : Nat) "DemandedBits$Function" "number" "[I") ∈ dt := dt_r 46 (by decide +kernel) rfl
theorem tw_47 : (Jvm.Cond.fieldLink "DemandedBits$Demands" (61 : Nat) "DemandedBits$Function" "number" "[I") ∈ dt := dt_r 47 (by decide +kernel) rfl
theorem tw_48 : (Jvm.Cond.fieldLink "DemandedBits$Facts" (45 : Nat) "DemandedBits$Function" "number" "[I") ∈ dt := dt_r 48 (by decide +kernel) rfl
theorem tw_49 : (Jvm.Cond.fieldLink "DemandedBits" (174 : Nat) "DemandedBits$Function" "number" "[I") ∈ dt := dt_r 49 (by decide +kernel) rfl
theorem tw_50 : (Jvm.Cond.fieldLink "DemandedBits$Function" (24 : Nat) "DemandedBits$Function" "resultValue" "[I") ∈ dt := dt_r 50 (by decide +kernel) rfl
theorem tw_51 : (Jvm.Cond.fieldLink "DemandedBits$Demands" (27 : Nat) "DemandedBits$Function" "resultValue" "[I") ∈ dt := dt_r 51 (by decide +kernel) rfl
theorem tw_52 : (Jvm.Cond.fieldLink "DemandedBits$Course" (52 : Nat) "DemandedBits$Function" "resultValue" "[I") ∈ dt := dt_r 52 (by decide +kernel) rfl
theorem tw_53 : (Jvm.Cond.fieldLink "DemandedBits$Function" (27 : Nat) "DemandedBits$Function" "resultMask" "[I") ∈ dt := dt_r 53 (by decide +kernel) rfl
theorem tw_54 : (Jvm.Cond.fieldLink "DemandedBits$Demands" (30 : Nat) "DemandedBits$Function" "resultMask" "[I") ∈ dt := dt_r 54 (by decide +kernel) rfl
theorem tw_55 : (Jvm.Cond.fieldLink "DemandedBits$Course" (55 : Nat) "DemandedBits$Function" "resultMask" "[I") ∈ dt := dt_r 55 (by decide +kernel) rfl
theorem tw_56 : (Jvm.Cond.fieldLink "DemandedBits$Function" (30 : Nat) "DemandedBits$Function" "size" "I") ∈ dt := dt_r 56 (by decide +kernel) rfl
theorem tw_57 : (Jvm.Cond.fieldLink "DemandedBits$Course" (21 : Nat) "DemandedBits$Function" "size" "I") ∈ dt := dt_r 57 (by decide +kernel) rfl
theorem tw_58 : (Jvm.Cond.fieldLink "DemandedBits$Demands" (41 : Nat) "DemandedBits$Function" "size" "I") ∈ dt := dt_r 58 (by decide +kernel) rfl
theorem tw_59 : (Jvm.Cond.fieldLink "DemandedBits$Facts" (18 : Nat) "DemandedBits$Function" "size" "I") ∈ dt := dt_r 59 (by decide +kernel) rfl
theorem tw_60 : (Jvm.Cond.fieldLink "DemandedBits" (80 : Nat) "DemandedBits$Function" "size" "I") ∈ dt := dt_r 60 (by decide +kernel) rfl
theorem tw_61 : (Jvm.Cond.fieldLink "DemandedBits$Demands" (21 : Nat) "DemandedBits$Function" "results" "I") ∈ dt := dt_r 61 (by decide +kernel) rfl
theorem tw_62 : (Jvm.Cond.fieldLink "DemandedBits$Course" (49 : Nat) "DemandedBits$Function" "results" "I") ∈ dt := dt_r 62 (by decide +kernel) rfl
theorem tw_63 : (Jvm.Cond.fieldLink "DemandedBits$Function" (34 : Nat) "DemandedBits$Function" "results" "I") ∈ dt := dt_r 63 (by decide +kernel) rfl
theorem tw_64 : (Jvm.Cond.fieldLink "DemandedBits" (96 : Nat) "DemandedBits$Function" "results" "I") ∈ dt := dt_r 64 (by decide +kernel) rfl
theorem tw_81 : (Jvm.Cond.superclass "DemandedBits$Function" "java/lang/Object") ∈ dt := dt_r 81 (by decide +kernel) rfl
theorem tw_82 : (Jvm.Cond.arrayClass Jvm.ClassFile.FieldType.int) ∈ dt := dt_r 82 (by decide +kernel) rfl
theorem tw_83 : (Jvm.Cond.classLink "DemandedBits" (16 : Nat) "DemandedBits$Facts") ∈ dt := dt_r 83 (by decide +kernel) rfl
theorem tw_84 : (Jvm.Cond.instantiable "DemandedBits$Facts" (3 : Nat)) ∈ dt := dt_r 84 (by decide +kernel) rfl
theorem tw_86 : (Jvm.Cond.instanceMethod ({ cls := "DemandedBits$Facts", name := "<init>", desc := "()V" } : Jvm.MethodName)) ∈ dt := dt_r 86 (by decide +kernel) rfl
theorem tw_87 : (Jvm.Cond.code ({ cls := "DemandedBits$Facts", name := "<init>", desc := "()V" } : Jvm.MethodName) prog_4_method_1_code (1 : Nat) (Option.none : Option Jvm.ClassFile.FieldType)) ∈ dt := dt_r 87 (by decide +kernel) rfl
theorem tw_88 : (Jvm.Cond.methodLink "DemandedBits$Facts" (3 : Nat) ({ cls := "java/lang/Object", name := "<init>", desc := "()V" } : Jvm.MethodName)) ∈ dt := dt_r 88 (by decide +kernel) rfl
theorem tw_89 : (Jvm.Cond.fieldLink "DemandedBits$Facts" (9 : Nat) "DemandedBits$Facts" "zeros" "[I") ∈ dt := dt_r 89 (by decide +kernel) rfl
theorem tw_90 : (Jvm.Cond.fieldLink "DemandedBits$Demands" (71 : Nat) "DemandedBits$Facts" "zeros" "[I") ∈ dt := dt_r 90 (by decide +kernel) rfl
theorem tw_91 : (Jvm.Cond.fieldLink "DemandedBits" (113 : Nat) "DemandedBits$Facts" "zeros" "[I") ∈ dt := dt_r 91 (by decide +kernel) rfl
theorem tw_92 : (Jvm.Cond.fieldLink "DemandedBits$Facts" (15 : Nat) "DemandedBits$Facts" "ones" "[I") ∈ dt := dt_r 92 (by decide +kernel) rfl
theorem tw_93 : (Jvm.Cond.fieldLink "DemandedBits$Demands" (76 : Nat) "DemandedBits$Facts" "ones" "[I") ∈ dt := dt_r 93 (by decide +kernel) rfl
theorem tw_94 : (Jvm.Cond.fieldLink "DemandedBits" (116 : Nat) "DemandedBits$Facts" "ones" "[I") ∈ dt := dt_r 94 (by decide +kernel) rfl
theorem tw_95 : (Jvm.Cond.fieldLink "DemandedBits$Facts" (38 : Nat) "DemandedBits$Facts" "changed" "Z") ∈ dt := dt_r 95 (by decide +kernel) rfl
theorem tw_102 : (Jvm.Cond.superclass "DemandedBits$Facts" "java/lang/Object") ∈ dt := dt_r 102 (by decide +kernel) rfl
theorem tw_103 : (Jvm.Cond.classLink "DemandedBits" (23 : Nat) "DemandedBits$Demands") ∈ dt := dt_r 103 (by decide +kernel) rfl
theorem tw_104 : (Jvm.Cond.instantiable "DemandedBits$Demands" (2 : Nat)) ∈ dt := dt_r 104 (by decide +kernel) rfl
theorem tw_106 : (Jvm.Cond.instanceMethod ({ cls := "DemandedBits$Demands", name := "<init>", desc := "()V" } : Jvm.MethodName)) ∈ dt := dt_r 106 (by decide +kernel) rfl
theorem tw_107 : (Jvm.Cond.code ({ cls := "DemandedBits$Demands", name := "<init>", desc := "()V" } : Jvm.MethodName) prog_3_method_1_code (1 : Nat) (Option.none : Option Jvm.ClassFile.FieldType)) ∈ dt := dt_r 107 (by decide +kernel) rfl
theorem tw_108 : (Jvm.Cond.methodLink "DemandedBits$Demands" (3 : Nat) ({ cls := "java/lang/Object", name := "<init>", desc := "()V" } : Jvm.MethodName)) ∈ dt := dt_r 108 (by decide +kernel) rfl
theorem tw_109 : (Jvm.Cond.fieldLink "DemandedBits$Demands" (9 : Nat) "DemandedBits$Demands" "demanded" "[I") ∈ dt := dt_r 109 (by decide +kernel) rfl
theorem tw_110 : (Jvm.Cond.fieldLink "DemandedBits" (119 : Nat) "DemandedBits$Demands" "demanded" "[I") ∈ dt := dt_r 110 (by decide +kernel) rfl
theorem tw_111 : (Jvm.Cond.fieldLink "DemandedBits$Demands" (37 : Nat) "DemandedBits$Demands" "changed" "Z") ∈ dt := dt_r 111 (by decide +kernel) rfl
theorem tw_116 : (Jvm.Cond.superclass "DemandedBits$Demands" "java/lang/Object") ∈ dt := dt_r 116 (by decide +kernel) rfl
theorem tw_117 : (Jvm.Cond.classLink "DemandedBits" (43 : Nat) "DemandedBits$Course") ∈ dt := dt_r 117 (by decide +kernel) rfl
theorem tw_118 : (Jvm.Cond.instantiable "DemandedBits$Course" (3 : Nat)) ∈ dt := dt_r 118 (by decide +kernel) rfl
theorem tw_120 : (Jvm.Cond.instanceMethod ({ cls := "DemandedBits$Course", name := "<init>", desc := "()V" } : Jvm.MethodName)) ∈ dt := dt_r 120 (by decide +kernel) rfl
theorem tw_121 : (Jvm.Cond.code ({ cls := "DemandedBits$Course", name := "<init>", desc := "()V" } : Jvm.MethodName) prog_2_method_1_code (1 : Nat) (Option.none : Option Jvm.ClassFile.FieldType)) ∈ dt := dt_r 121 (by decide +kernel) rfl
theorem tw_122 : (Jvm.Cond.methodLink "DemandedBits$Course" (3 : Nat) ({ cls := "java/lang/Object", name := "<init>", desc := "()V" } : Jvm.MethodName)) ∈ dt := dt_r 122 (by decide +kernel) rfl
theorem tw_123 : (Jvm.Cond.fieldLink "DemandedBits$Course" (9 : Nat) "DemandedBits$Course" "now" "[I") ∈ dt := dt_r 123 (by decide +kernel) rfl
theorem tw_124 : (Jvm.Cond.fieldLink "DemandedBits" (144 : Nat) "DemandedBits$Course" "now" "[I") ∈ dt := dt_r 124 (by decide +kernel) rfl
theorem tw_125 : (Jvm.Cond.fieldLink "DemandedBits$Course" (15 : Nat) "DemandedBits$Course" "seen" "[I") ∈ dt := dt_r 125 (by decide +kernel) rfl
theorem tw_126 : (Jvm.Cond.fieldLink "DemandedBits" (141 : Nat) "DemandedBits$Course" "seen" "[I") ∈ dt := dt_r 126 (by decide +kernel) rfl
theorem tw_127 : (Jvm.Cond.fieldLink "DemandedBits$Course" (18 : Nat) "DemandedBits$Course" "before" "[I") ∈ dt := dt_r 127 (by decide +kernel) rfl
theorem tw_134 : (Jvm.Cond.superclass "DemandedBits$Course" "java/lang/Object") ∈ dt := dt_r 134 (by decide +kernel) rfl
theorem tw_135 : (Jvm.Cond.methodLink "DemandedBits" (53 : Nat) ({ cls := "java/util/Arrays", name := "fill", desc := "([II)V" } : Jvm.MethodName)) ∈ dt := dt_r 135 (by decide +kernel) rfl
theorem tw_136 : (Jvm.Cond.static ({ cls := "java/util/Arrays", name := "fill", desc := "([II)V" } : Jvm.MethodName)) ∈ dt := dt_r 136 (by decide +kernel) rfl
theorem tw_137 : (Jvm.Cond.code ({ cls := "java/util/Arrays", name := "fill", desc := "([II)V" } : Jvm.MethodName) prog_17_method_103_code (4 : Nat) (Option.none : Option Jvm.ClassFile.FieldType)) ∈ dt := dt_r 137 (by decide +kernel) rfl
theorem tw_138 : (Jvm.Cond.fieldLink "DemandedBits" (12 : Nat) "DemandedBits" "function" "LDemandedBits$Function;") ∈ dt := dt_r 138 (by decide +kernel) rfl
theorem tw_139 : (Jvm.Cond.fieldLink "DemandedBits" (19 : Nat) "DemandedBits" "facts" "LDemandedBits$Facts;") ∈ dt := dt_r 139 (by decide +kernel) rfl
theorem tw_140 : (Jvm.Cond.fieldLink "DemandedBits" (26 : Nat) "DemandedBits" "demands" "LDemandedBits$Demands;") ∈ dt := dt_r 140 (by decide +kernel) rfl
theorem tw_141 : (Jvm.Cond.fieldLink "DemandedBits" (30 : Nat) "DemandedBits" "shorterDemands" "LDemandedBits$Demands;") ∈ dt := dt_r 141 (by decide +kernel) rfl
theorem tw_142 : (Jvm.Cond.fieldLink "DemandedBits" (33 : Nat) "DemandedBits" "replacements" "[I") ∈ dt := dt_r 142 (by decide +kernel) rfl
theorem tw_143 : (Jvm.Cond.fieldLink "DemandedBits" (37 : Nat) "DemandedBits" "noReplacements" "[I") ∈ dt := dt_r 143 (by decide +kernel) rfl
theorem tw_144 : (Jvm.Cond.fieldLink "DemandedBits" (40 : Nat) "DemandedBits" "inputs" "[I") ∈ dt := dt_r 144 (by decide +kernel) rfl
theorem tw_145 : (Jvm.Cond.fieldLink "DemandedBits" (46 : Nat) "DemandedBits" "course" "LDemandedBits$Course;") ∈ dt := dt_r 145 (by decide +kernel) rfl
theorem tw_146 : (Jvm.Cond.fieldLink "DemandedBits" (50 : Nat) "DemandedBits" "shorterCourse" "LDemandedBits$Course;") ∈ dt := dt_r 146 (by decide +kernel) rfl
theorem tw_147 : (Jvm.Cond.fieldLink "DemandedBits" (92 : Nat) "DemandedBits" "analysed" "Z") ∈ dt := dt_r 147 (by decide +kernel) rfl
theorem tw_168 : (Jvm.Cond.superclass "DemandedBits" "java/lang/Object") ∈ dt := dt_r 168 (by decide +kernel) rfl
theorem tw_169 : (Jvm.Cond.methodLink "DemandedBitsLaw" (105 : Nat) ({ cls := "DemandedBits", name := "live", desc := "()I" } : Jvm.MethodName)) ∈ dt := dt_r 169 (by decide +kernel) rfl
theorem tw_170 : (Jvm.Cond.instanceMethod ({ cls := "DemandedBits", name := "live", desc := "()I" } : Jvm.MethodName)) ∈ dt := dt_r 170 (by decide +kernel) rfl
theorem tw_171 : (Jvm.Cond.selects "DemandedBits" ({ cls := "DemandedBits", name := "live", desc := "()I" } : Jvm.MethodName) ({ cls := "DemandedBits", name := "live", desc := "()I" } : Jvm.MethodName)) ∈ dt := dt_r 171 (by decide +kernel) rfl
theorem tw_172 : (Jvm.Cond.code ({ cls := "DemandedBits", name := "live", desc := "()I" } : Jvm.MethodName) prog_1_method_12_code (3 : Nat) (Option.some Jvm.ClassFile.FieldType.int)) ∈ dt := dt_r 172 (by decide +kernel) rfl
theorem tw_173 : (Jvm.Cond.methodLink "DemandedBits" (110 : Nat) ({ cls := "DemandedBits", name := "analyse", desc := "()V" } : Jvm.MethodName)) ∈ dt := dt_r 173 (by decide +kernel) rfl
theorem tw_175 : (Jvm.Cond.instanceMethod ({ cls := "DemandedBits", name := "analyse", desc := "()V" } : Jvm.MethodName)) ∈ dt := dt_r 175 (by decide +kernel) rfl
theorem tw_176 : (Jvm.Cond.code ({ cls := "DemandedBits", name := "analyse", desc := "()V" } : Jvm.MethodName) prog_1_method_18_code (2 : Nat) (Option.none : Option Jvm.ClassFile.FieldType)) ∈ dt := dt_r 176 (by decide +kernel) rfl
theorem tw_177 : (Jvm.Cond.methodLink "DemandedBits" (154 : Nat) ({ cls := "DemandedBits$Facts", name := "find", desc := "(LDemandedBits$Function;)V" } : Jvm.MethodName)) ∈ dt := dt_r 177 (by decide +kernel) rfl
theorem tw_178 : (Jvm.Cond.instanceMethod ({ cls := "DemandedBits$Facts", name := "find", desc := "(LDemandedBits$Function;)V" } : Jvm.MethodName)) ∈ dt := dt_r 178 (by decide +kernel) rfl
theorem tw_179 : (Jvm.Cond.selects "DemandedBits$Facts" ({ cls := "DemandedBits$Facts", name := "find", desc := "(LDemandedBits$Function;)V" } : Jvm.MethodName) ({ cls := "DemandedBits$Facts", name := "find", desc := "(LDemandedBits$Function;)V" } : Jvm.MethodName)) ∈ dt := dt_r 179 (by decide +kernel) rfl
theorem tw_180 : (Jvm.Cond.code ({ cls := "DemandedBits$Facts", name := "find", desc := "(LDemandedBits$Function;)V" } : Jvm.MethodName) prog_4_method_3_code (4 : Nat) (Option.none : Option Jvm.ClassFile.FieldType)) ∈ dt := dt_r 180 (by decide +kernel) rfl
theorem tw_181 : (Jvm.Cond.methodLink "DemandedBits$Facts" (30 : Nat) ({ cls := "DemandedBits$Facts", name := "learn", desc := "(III)V" } : Jvm.MethodName)) ∈ dt := dt_r 181 (by decide +kernel) rfl
theorem tw_183 : (Jvm.Cond.instanceMethod ({ cls := "DemandedBits$Facts", name := "learn", desc := "(III)V" } : Jvm.MethodName)) ∈ dt := dt_r 183 (by decide +kernel) rfl
theorem tw_184 : (Jvm.Cond.code ({ cls := "DemandedBits$Facts", name := "learn", desc := "(III)V" } : Jvm.MethodName) prog_4_method_4_code (4 : Nat) (Option.none : Option Jvm.ClassFile.FieldType)) ∈ dt := dt_r 184 (by decide +kernel) rfl
theorem tw_185 : (Jvm.Cond.methodLink "DemandedBits$Facts" (34 : Nat) ({ cls := "DemandedBits$Facts", name := "workOut", desc := "(LDemandedBits$Function;I)V" } : Jvm.MethodName)) ∈ dt := dt_r 185 (by decide +kernel) rfl
theorem tw_187 : (Jvm.Cond.instanceMethod ({ cls := "DemandedBits$Facts", name := "workOut", desc := "(LDemandedBits$Function;I)V" } : Jvm.MethodName)) ∈ dt := dt_r 187 (by decide +kernel) rfl
theorem tw_188 : (Jvm.Cond.code ({ cls := "DemandedBits$Facts", name := "workOut", desc := "(LDemandedBits$Function;I)V" } : Jvm.MethodName) prog_4_method_5_code (6 : Nat) (Option.none : Option Jvm.ClassFile.FieldType)) ∈ dt := dt_r 188 (by decide +kernel) rfl
theorem tw_189 : (Jvm.Cond.methodLink "DemandedBits$Facts" (48 : Nat) ({ cls := "DemandedBits$Facts", name := "learnSum", desc := "(IIIII)V" } : Jvm.MethodName)) ∈ dt := dt_r 189 (by decide +kernel) rfl
theorem tw_191 : (Jvm.Cond.instanceMethod ({ cls := "DemandedBits$Facts", name := "learnSum", desc := "(IIIII)V" } : Jvm.MethodName)) ∈ dt := dt_r 191 (by decide +kernel) rfl
theorem tw_192 : (Jvm.Cond.code ({ cls := "DemandedBits$Facts", name := "learnSum", desc := "(IIIII)V" } : Jvm.MethodName) prog_4_method_7_code (11 : Nat) (Option.none : Option Jvm.ClassFile.FieldType)) ∈ dt := dt_r 192 (by decide +kernel) rfl
theorem tw_193 : (Jvm.Cond.methodLink "DemandedBits$Facts" (59 : Nat) ({ cls := "DemandedBits$Facts", name := "known", desc := "(I)I" } : Jvm.MethodName)) ∈ dt := dt_r 193 (by decide +kernel) rfl
theorem tw_194 : (Jvm.Cond.instanceMethod ({ cls := "DemandedBits$Facts", name := "known", desc := "(I)I" } : Jvm.MethodName)) ∈ dt := dt_r 194 (by decide +kernel) rfl
theorem tw_195 : (Jvm.Cond.selects "DemandedBits$Facts" ({ cls := "DemandedBits$Facts", name := "known", desc := "(I)I" } : Jvm.MethodName) ({ cls := "DemandedBits$Facts", name := "known", desc := "(I)I" } : Jvm.MethodName)) ∈ dt := dt_r 195 (by decide +kernel) rfl
theorem tw_196 : (Jvm.Cond.code ({ cls := "DemandedBits$Facts", name := "known", desc := "(I)I" } : Jvm.MethodName) prog_4_method_2_code (2 : Nat) (Option.some Jvm.ClassFile.FieldType.int)) ∈ dt := dt_r 196 (by decide +kernel) rfl
theorem tw_197 : (Jvm.Cond.methodLink "DemandedBits$Facts" (52 : Nat) ({ cls := "DemandedBits$Facts", name := "learnProduct", desc := "(III)V" } : Jvm.MethodName)) ∈ dt := dt_r 197 (by decide +kernel) rfl
theorem tw_199 : (Jvm.Cond.instanceMethod ({ cls := "DemandedBits$Facts", name := "learnProduct", desc := "(III)V" } : Jvm.MethodName)) ∈ dt := dt_r 199 (by decide +kernel) rfl
theorem tw_200 : (Jvm.Cond.code ({ cls := "DemandedBits$Facts", name := "learnProduct", desc := "(III)V" } : Jvm.MethodName) prog_4_method_8_code (7 : Nat) (Option.none : Option Jvm.ClassFile.FieldType)) ∈ dt := dt_r 200 (by decide +kernel) rfl
theorem tw_201 : (Jvm.Cond.methodLink "DemandedBits$Facts" (63 : Nat) ({ cls := "java/lang/Integer", name := "numberOfTrailingZeros", desc := "(I)I" } : Jvm.MethodName)) ∈ dt := dt_r 201 (by decide +kernel) rfl
theorem tw_202 : (Jvm.Cond.static ({ cls := "java/lang/Integer", name := "numberOfTrailingZeros", desc := "(I)I" } : Jvm.MethodName)) ∈ dt := dt_r 202 (by decide +kernel) rfl
theorem tw_203 : (Jvm.Cond.code ({ cls := "java/lang/Integer", name := "numberOfTrailingZeros", desc := "(I)I" } : Jvm.MethodName) prog_12_method_48_code (2 : Nat) (Option.some Jvm.ClassFile.FieldType.int)) ∈ dt := dt_r 203 (by decide +kernel) rfl
theorem tw_204 : (Jvm.Cond.constant "java/lang/Integer" (264 : Nat) (65536 : Int32)) ∈ dt := dt_r 204 (by decide +kernel) rfl
theorem tw_206 : (Jvm.Cond.static ({ cls := "DemandedBits", name := "lowest", desc := "(I)I" } : Jvm.MethodName)) ∈ dt := dt_r 206 (by decide +kernel) rfl
theorem tw_207 : (Jvm.Cond.code ({ cls := "DemandedBits", name := "lowest", desc := "(I)I" } : Jvm.MethodName) prog_1_method_24_code (1 : Nat) (Option.some Jvm.ClassFile.FieldType.int)) ∈ dt := dt_r 207 (by decide +kernel) rfl
theorem tw_208 : (Jvm.Cond.methodLink "DemandedBits$Facts" (55 : Nat) ({ cls := "DemandedBits$Facts", name := "workOutMoved", desc := "(IIII)V" } : Jvm.MethodName)) ∈ dt := dt_r 208 (by decide +kernel) rfl
theorem tw_210 : (Jvm.Cond.instanceMethod ({ cls := "DemandedBits$Facts", name := "workOutMoved", desc := "(IIII)V" } : Jvm.MethodName)) ∈ dt := dt_r 210 (by decide +kernel) rfl
theorem tw_211 : (Jvm.Cond.code ({ cls := "DemandedBits$Facts", name := "workOutMoved", desc := "(IIII)V" } : Jvm.MethodName) prog_4_method_6_code (5 : Nat) (Option.none : Option Jvm.ClassFile.FieldType)) ∈ dt := dt_r 211 (by decide +kernel) rfl
theorem tw_212 : (Jvm.Cond.methodLink "DemandedBits" (158 : Nat) ({ cls := "DemandedBits$Demands", name := "find", desc := "(LDemandedBits$Function;LDemandedBits$Facts;[I)V" } : Jvm.MethodName)) ∈ dt := dt_r 212 (by decide +kernel) rfl
theorem tw_213 : (Jvm.Cond.instanceMethod ({ cls := "DemandedBits$Demands", name := "find", desc := "(LDemandedBits$Function;LDemandedBits$Facts;[I)V" } : Jvm.MethodName)) ∈ dt := dt_r 213 (by decide +kernel) rfl
theorem tw_214 : (Jvm.Cond.selects "DemandedBits$Demands" ({ cls := "DemandedBits$Demands", name := "find", desc := "(LDemandedBits$Function;LDemandedBits$Facts;[I)V" } : Jvm.MethodName) ({ cls := "DemandedBits$Demands", name := "find", desc := "(LDemandedBits$Function;LDemandedBits$Facts;[I)V" } : Jvm.MethodName)) ∈ dt := dt_r 214 (by decide +kernel) rfl
theorem tw_215 : (Jvm.Cond.code ({ cls := "DemandedBits$Demands", name := "find", desc := "(LDemandedBits$Function;LDemandedBits$Facts;[I)V" } : Jvm.MethodName) prog_3_method_2_code (6 : Nat) (Option.none : Option Jvm.ClassFile.FieldType)) ∈ dt := dt_r 215 (by decide +kernel) rfl
theorem tw_216 : (Jvm.Cond.methodLink "DemandedBits$Demands" (15 : Nat) ({ cls := "java/util/Arrays", name := "fill", desc := "([II)V" } : Jvm.MethodName)) ∈ dt := dt_r 216 (by decide +kernel) rfl
theorem tw_217 : (Jvm.Cond.methodLink "DemandedBits$Demands" (33 : Nat) ({ cls := "DemandedBits$Demands", name := "demand", desc := "(II)V" } : Jvm.MethodName)) ∈ dt := dt_r 217 (by decide +kernel) rfl
theorem tw_219 : (Jvm.Cond.instanceMethod ({ cls := "DemandedBits$Demands", name := "demand", desc := "(II)V" } : Jvm.MethodName)) ∈ dt := dt_r 219 (by decide +kernel) rfl
theorem tw_220 : (Jvm.Cond.code ({ cls := "DemandedBits$Demands", name := "demand", desc := "(II)V" } : Jvm.MethodName) prog_3_method_3_code (4 : Nat) (Option.none : Option Jvm.ClassFile.FieldType)) ∈ dt := dt_r 220 (by decide +kernel) rfl
theorem tw_221 : (Jvm.Cond.methodLink "DemandedBits$Demands" (44 : Nat) ({ cls := "DemandedBits$Demands", name := "ask", desc := "(LDemandedBits$Function;LDemandedBits$Facts;II)V" } : Jvm.MethodName)) ∈ dt := dt_r 221 (by decide +kernel) rfl
theorem tw_223 : (Jvm.Cond.instanceMethod ({ cls := "DemandedBits$Demands", name := "ask", desc := "(LDemandedBits$Function;LDemandedBits$Facts;II)V" } : Jvm.MethodName)) ∈ dt := dt_r 223 (by decide +kernel) rfl
theorem tw_224 : (Jvm.Cond.code ({ cls := "DemandedBits$Demands", name := "ask", desc := "(LDemandedBits$Function;LDemandedBits$Facts;II)V" } : Jvm.MethodName) prog_3_method_4_code (6 : Nat) (Option.none : Option Jvm.ClassFile.FieldType)) ∈ dt := dt_r 224 (by decide +kernel) rfl
theorem tw_225 : (Jvm.Cond.methodLink "DemandedBits$Demands" (51 : Nat) ({ cls := "DemandedBits$Demands", name := "askedOfX", desc := "(LDemandedBits$Function;LDemandedBits$Facts;II)I" } : Jvm.MethodName)) ∈ dt := dt_r 225 (by decide +kernel) rfl
theorem tw_226 : (Jvm.Cond.static ({ cls := "DemandedBits$Demands", name := "askedOfX", desc := "(LDemandedBits$Function;LDemandedBits$Facts;II)I" } : Jvm.MethodName)) ∈ dt := dt_r 226 (by decide +kernel) rfl
theorem tw_227 : (Jvm.Cond.code ({ cls := "DemandedBits$Demands", name := "askedOfX", desc := "(LDemandedBits$Function;LDemandedBits$Facts;II)I" } : Jvm.MethodName) prog_3_method_5_code (6 : Nat) (Option.some Jvm.ClassFile.FieldType.int)) ∈ dt := dt_r 227 (by decide +kernel) rfl
theorem tw_229 : (Jvm.Cond.static ({ cls := "DemandedBits", name := "upTo", desc := "(I)I" } : Jvm.MethodName)) ∈ dt := dt_r 229 (by decide +kernel) rfl
theorem tw_230 : (Jvm.Cond.code ({ cls := "DemandedBits", name := "upTo", desc := "(I)I" } : Jvm.MethodName) prog_1_method_23_code (1 : Nat) (Option.some Jvm.ClassFile.FieldType.int)) ∈ dt := dt_r 230 (by decide +kernel) rfl
theorem tw_231 : (Jvm.Cond.methodLink "DemandedBits" (181 : Nat) ({ cls := "java/lang/Integer", name := "numberOfLeadingZeros", desc := "(I)I" } : Jvm.MethodName)) ∈ dt := dt_r 231 (by decide +kernel) rfl
theorem tw_232 : (Jvm.Cond.static ({ cls := "java/lang/Integer", name := "numberOfLeadingZeros", desc := "(I)I" } : Jvm.MethodName)) ∈ dt := dt_r 232 (by decide +kernel) rfl
theorem tw_233 : (Jvm.Cond.code ({ cls := "java/lang/Integer", name := "numberOfLeadingZeros", desc := "(I)I" } : Jvm.MethodName) prog_12_method_47_code (2 : Nat) (Option.some Jvm.ClassFile.FieldType.int)) ∈ dt := dt_r 233 (by decide +kernel) rfl
theorem tw_234 : (Jvm.Cond.constant "DemandedBits$Demands" (79 : Nat) (-2147483648 : Int32)) ∈ dt := dt_r 234 (by decide +kernel) rfl
theorem tw_235 : (Jvm.Cond.methodLink "DemandedBits$Demands" (80 : Nat) ({ cls := "DemandedBits$Demands", name := "signIf", desc := "(II)I" } : Jvm.MethodName)) ∈ dt := dt_r 235 (by decide +kernel) rfl
theorem tw_236 : (Jvm.Cond.static ({ cls := "DemandedBits$Demands", name := "signIf", desc := "(II)I" } : Jvm.MethodName)) ∈ dt := dt_r 236 (by decide +kernel) rfl
theorem tw_237 : (Jvm.Cond.code ({ cls := "DemandedBits$Demands", name := "signIf", desc := "(II)I" } : Jvm.MethodName) prog_3_method_7_code (2 : Nat) (Option.some Jvm.ClassFile.FieldType.int)) ∈ dt := dt_r 237 (by decide +kernel) rfl
theorem tw_239 : (Jvm.Cond.methodLink "DemandedBits$Demands" (58 : Nat) ({ cls := "DemandedBits$Demands", name := "askedOfY", desc := "(LDemandedBits$Function;LDemandedBits$Facts;II)I" } : Jvm.MethodName)) ∈ dt := dt_r 239 (by decide +kernel) rfl
theorem tw_240 : (Jvm.Cond.static ({ cls := "DemandedBits$Demands", name := "askedOfY", desc := "(LDemandedBits$Function;LDemandedBits$Facts;II)I" } : Jvm.MethodName)) ∈ dt := dt_r 240 (by decide +kernel) rfl
theorem tw_241 : (Jvm.Cond.code ({ cls := "DemandedBits$Demands", name := "askedOfY", desc := "(LDemandedBits$Function;LDemandedBits$Facts;II)I" } : Jvm.MethodName) prog_3_method_6_code (6 : Nat) (Option.some Jvm.ClassFile.FieldType.int)) ∈ dt := dt_r 241 (by decide +kernel) rfl
theorem tw_242 : (Jvm.Cond.methodLink "DemandedBits" (161 : Nat) ({ cls := "DemandedBits", name := "replacementOf", desc := "(I)I" } : Jvm.MethodName)) ∈ dt := dt_r 242 (by decide +kernel) rfl
theorem tw_244 : (Jvm.Cond.instanceMethod ({ cls := "DemandedBits", name := "replacementOf", desc := "(I)I" } : Jvm.MethodName)) ∈ dt := dt_r 244 (by decide +kernel) rfl
theorem tw_245 : (Jvm.Cond.code ({ cls := "DemandedBits", name := "replacementOf", desc := "(I)I" } : Jvm.MethodName) prog_1_method_19_code (3 : Nat) (Option.some Jvm.ClassFile.FieldType.int)) ∈ dt := dt_r 245 (by decide +kernel) rfl
theorem tw_246 : (Jvm.Cond.methodLink "DemandedBits" (164 : Nat) ({ cls := "DemandedBits$Facts", name := "known", desc := "(I)I" } : Jvm.MethodName)) ∈ dt := dt_r 246 (by decide +kernel) rfl
theorem tw_247 : (Jvm.Cond.methodLink "DemandedBits" (167 : Nat) ({ cls := "DemandedBits", name := "hasBitsOfX", desc := "(II)Z" } : Jvm.MethodName)) ∈ dt := dt_r 247 (by decide +kernel) rfl
theorem tw_249 : (Jvm.Cond.instanceMethod ({ cls := "DemandedBits", name := "hasBitsOfX", desc := "(II)Z" } : Jvm.MethodName)) ∈ dt := dt_r 249 (by decide +kernel) rfl
theorem tw_250 : (Jvm.Cond.code ({ cls := "DemandedBits", name := "hasBitsOfX", desc := "(II)Z" } : Jvm.MethodName) prog_1_method_20_code (6 : Nat) (Option.some Jvm.ClassFile.FieldType.boolean)) ∈ dt := dt_r 250 (by decide +kernel) rfl
theorem tw_251 : (Jvm.Cond.methodLink "DemandedBits" (177 : Nat) ({ cls := "DemandedBits", name := "upTo", desc := "(I)I" } : Jvm.MethodName)) ∈ dt := dt_r 251 (by decide +kernel) rfl
theorem tw_252 : (Jvm.Cond.constant "DemandedBits" (180 : Nat) (-65536 : Int32)) ∈ dt := dt_r 252 (by decide +kernel) rfl
theorem tw_253 : (Jvm.Cond.methodLink "DemandedBitsLaw" (64 : Nat) ({ cls := "DemandedBitsLaw", name := "input", desc := "(LDemandedBits;I[J)I" } : Jvm.MethodName)) ∈ dt := dt_r 253 (by decide +kernel) rfl
theorem tw_254 : (Jvm.Cond.static ({ cls := "DemandedBitsLaw", name := "input", desc := "(LDemandedBits;I[J)I" } : Jvm.MethodName)) ∈ dt := dt_r 254 (by decide +kernel) rfl
theorem tw_255 : (Jvm.Cond.codeWith ({ cls := "DemandedBitsLaw", name := "input", desc := "(LDemandedBits;I[J)I" } : Jvm.MethodName) method_3_code (4 : Nat) (Option.some Jvm.ClassFile.FieldType.int) [((0 : Nat), (9 : Nat), (12 : Nat), (13 : Nat)), ((0 : Nat), (9 : Nat), (15 : Nat), (15 : Nat))]) ∈ dt := dt_r 255 (by decide +kernel) rfl
theorem tw_256 : (Jvm.Cond.classLink "DemandedBitsLaw" (13 : Nat) "java/lang/IllegalArgumentException") ∈ dt := dt_r 256 (by decide +kernel) rfl
theorem tw_257 : (Jvm.Cond.classLink "DemandedBitsLaw" (15 : Nat) "java/lang/IllegalStateException") ∈ dt := dt_r 257 (by decide +kernel) rfl
theorem tw_258 : (Jvm.Cond.methodLink "DemandedBitsLaw" (7 : Nat) ({ cls := "DemandedBits", name := "input", desc := "(I)I" } : Jvm.MethodName)) ∈ dt := dt_r 258 (by decide +kernel) rfl
theorem tw_259 : (Jvm.Cond.instanceMethod ({ cls := "DemandedBits", name := "input", desc := "(I)I" } : Jvm.MethodName)) ∈ dt := dt_r 259 (by decide +kernel) rfl
theorem tw_260 : (Jvm.Cond.selects "DemandedBits" ({ cls := "DemandedBits", name := "input", desc := "(I)I" } : Jvm.MethodName) ({ cls := "DemandedBits", name := "input", desc := "(I)I" } : Jvm.MethodName)) ∈ dt := dt_r 260 (by decide +kernel) rfl
theorem tw_261 : (Jvm.Cond.code ({ cls := "DemandedBits", name := "input", desc := "(I)I" } : Jvm.MethodName) prog_1_method_2_code (2 : Nat) (Option.some Jvm.ClassFile.FieldType.int)) ∈ dt := dt_r 261 (by decide +kernel) rfl
theorem tw_262 : (Jvm.Cond.classLink "DemandedBits" (59 : Nat) "java/lang/IllegalArgumentException") ∈ dt := dt_r 262 (by decide +kernel) rfl
theorem tw_263 : (Jvm.Cond.instantiable "java/lang/IllegalArgumentException" (6 : Nat)) ∈ dt := dt_r 263 (by decide +kernel) rfl
theorem tw_271 : (Jvm.Cond.selects "java/lang/IllegalArgumentException" ({ cls := "java/lang/Throwable", name := "fillInStackTrace", desc := "(I)Ljava/lang/Throwable;" } : Jvm.MethodName) ({ cls := "java/lang/Throwable", name := "fillInStackTrace", desc := "(I)Ljava/lang/Throwable;" } : Jvm.MethodName)) ∈ dt := dt_r 271 (by decide +kernel) rfl
theorem tw_272 : (Jvm.Cond.selects "java/lang/IllegalArgumentException" ({ cls := "java/lang/Throwable", name := "fillInStackTrace", desc := "()Ljava/lang/Throwable;" } : Jvm.MethodName) ({ cls := "java/lang/Throwable", name := "fillInStackTrace", desc := "()Ljava/lang/Throwable;" } : Jvm.MethodName)) ∈ dt := dt_r 272 (by decide +kernel) rfl
theorem tw_283 : (Jvm.Cond.fieldLink "java/lang/Throwable" (198 : Nat) "java/lang/Throwable" "backtrace" "Ljava/lang/Object;") ∈ dt := dt_r 283 (by decide +kernel) rfl
theorem tw_284 : (Jvm.Cond.superclass "java/lang/Throwable" "java/lang/Object") ∈ dt := dt_r 284 (by decide +kernel) rfl
theorem tw_285 : (Jvm.Cond.instanceMethod ({ cls := "java/lang/Throwable", name := "<init>", desc := "()V" } : Jvm.MethodName)) ∈ dt := dt_r 285 (by decide +kernel) rfl
theorem tw_286 : (Jvm.Cond.code ({ cls := "java/lang/Throwable", name := "<init>", desc := "()V" } : Jvm.MethodName) prog_16_method_1_code (1 : Nat) (Option.none : Option Jvm.ClassFile.FieldType)) ∈ dt := dt_r 286 (by decide +kernel) rfl
theorem tw_287 : (Jvm.Cond.methodLink "java/lang/Throwable" (1 : Nat) ({ cls := "java/lang/Object", name := "<init>", desc := "()V" } : Jvm.MethodName)) ∈ dt := dt_r 287 (by decide +kernel) rfl
theorem tw_288 : (Jvm.Cond.fieldLink "java/lang/Throwable" (13 : Nat) "java/lang/Throwable" "UNASSIGNED_STACK" "[Ljava/lang/StackTraceElement;") ∈ dt := dt_r 288 (by decide +kernel) rfl
theorem tw_290 : (Jvm.Cond.fieldLink "java/lang/Throwable" (20 : Nat) "java/lang/Throwable" "SUPPRESSED_SENTINEL" "Ljava/util/List;") ∈ dt := dt_r 290 (by decide +kernel) rfl
theorem tw_292 : (Jvm.Cond.methodLink "java/lang/Throwable" (27 : Nat) ({ cls := "java/lang/Throwable", name := "fillInStackTrace", desc := "()Ljava/lang/Throwable;" } : Jvm.MethodName)) ∈ dt := dt_r 292 (by decide +kernel) rfl
theorem tw_293 : (Jvm.Cond.instanceMethod ({ cls := "java/lang/Throwable", name := "fillInStackTrace", desc := "()Ljava/lang/Throwable;" } : Jvm.MethodName)) ∈ dt := dt_r 293 (by decide +kernel) rfl
theorem tw_295 : (Jvm.Cond.selects "java/lang/IllegalStateException" ({ cls := "java/lang/Throwable", name := "fillInStackTrace", desc := "()Ljava/lang/Throwable;" } : Jvm.MethodName) ({ cls := "java/lang/Throwable", name := "fillInStackTrace", desc := "()Ljava/lang/Throwable;" } : Jvm.MethodName)) ∈ dt := dt_r 295 (by decide +kernel) rfl
theorem tw_296 : (Jvm.Cond.selects "java/lang/IndexOutOfBoundsException" ({ cls := "java/lang/Throwable", name := "fillInStackTrace", desc := "()Ljava/lang/Throwable;" } : Jvm.MethodName) ({ cls := "java/lang/Throwable", name := "fillInStackTrace", desc := "()Ljava/lang/Throwable;" } : Jvm.MethodName)) ∈ dt := dt_r 296 (by decide +kernel) rfl
theorem tw_298 : (Jvm.Cond.methodLink "java/lang/Throwable" (202 : Nat) ({ cls := "java/lang/Throwable", name := "fillInStackTrace", desc := "(I)Ljava/lang/Throwable;" } : Jvm.MethodName)) ∈ dt := dt_r 298 (by decide +kernel) rfl
theorem tw_300 : (Jvm.Cond.instanceMethod ({ cls := "java/lang/Throwable", name := "fillInStackTrace", desc := "(I)Ljava/lang/Throwable;" } : Jvm.MethodName)) ∈ dt := dt_r 300 (by decide +kernel) rfl
theorem tw_301 : (Jvm.Cond.instantiable "java/lang/Throwable" (6 : Nat)) ∈ dt := dt_r 301 (by decide +kernel) rfl
theorem tw_304 : (Jvm.Cond.methodLink "DemandedBits" (63 : Nat) ({ cls := "java/lang/IllegalArgumentException", name := "<init>", desc := "(Ljava/lang/String;)V" } : Jvm.MethodName)) ∈ dt := dt_r 304 (by decide +kernel) rfl
theorem tw_305 : (Jvm.Cond.instanceMethod ({ cls := "java/lang/IllegalArgumentException", name := "<init>", desc := "(Ljava/lang/String;)V" } : Jvm.MethodName)) ∈ dt := dt_r 305 (by decide +kernel) rfl
theorem tw_306 : (Jvm.Cond.code ({ cls := "java/lang/IllegalArgumentException", name := "<init>", desc := "(Ljava/lang/String;)V" } : Jvm.MethodName) prog_9_method_2_code (2 : Nat) (Option.none : Option Jvm.ClassFile.FieldType)) ∈ dt := dt_r 306 (by decide +kernel) rfl
theorem tw_307 : (Jvm.Cond.methodLink "java/lang/IllegalArgumentException" (7 : Nat) ({ cls := "java/lang/RuntimeException", name := "<init>", desc := "(Ljava/lang/String;)V" } : Jvm.MethodName)) ∈ dt := dt_r 307 (by decide +kernel) rfl
theorem tw_308 : (Jvm.Cond.instanceMethod ({ cls := "java/lang/RuntimeException", name := "<init>", desc := "(Ljava/lang/String;)V" } : Jvm.MethodName)) ∈ dt := dt_r 308 (by decide +kernel) rfl
theorem tw_309 : (Jvm.Cond.code ({ cls := "java/lang/RuntimeException", name := "<init>", desc := "(Ljava/lang/String;)V" } : Jvm.MethodName) prog_13_method_2_code (2 : Nat) (Option.none : Option Jvm.ClassFile.FieldType)) ∈ dt := dt_r 309 (by decide +kernel) rfl
theorem tw_310 : (Jvm.Cond.methodLink "java/lang/RuntimeException" (7 : Nat) ({ cls := "java/lang/Exception", name := "<init>", desc := "(Ljava/lang/String;)V" } : Jvm.MethodName)) ∈ dt := dt_r 310 (by decide +kernel) rfl
theorem tw_311 : (Jvm.Cond.instanceMethod ({ cls := "java/lang/Exception", name := "<init>", desc := "(Ljava/lang/String;)V" } : Jvm.MethodName)) ∈ dt := dt_r 311 (by decide +kernel) rfl
theorem tw_312 : (Jvm.Cond.code ({ cls := "java/lang/Exception", name := "<init>", desc := "(Ljava/lang/String;)V" } : Jvm.MethodName) prog_8_method_2_code (2 : Nat) (Option.none : Option Jvm.ClassFile.FieldType)) ∈ dt := dt_r 312 (by decide +kernel) rfl
theorem tw_313 : (Jvm.Cond.methodLink "java/lang/Exception" (7 : Nat) ({ cls := "java/lang/Throwable", name := "<init>", desc := "(Ljava/lang/String;)V" } : Jvm.MethodName)) ∈ dt := dt_r 313 (by decide +kernel) rfl
theorem tw_314 : (Jvm.Cond.instanceMethod ({ cls := "java/lang/Throwable", name := "<init>", desc := "(Ljava/lang/String;)V" } : Jvm.MethodName)) ∈ dt := dt_r 314 (by decide +kernel) rfl
theorem tw_315 : (Jvm.Cond.code ({ cls := "java/lang/Throwable", name := "<init>", desc := "(Ljava/lang/String;)V" } : Jvm.MethodName) prog_16_method_2_code (2 : Nat) (Option.none : Option Jvm.ClassFile.FieldType)) ∈ dt := dt_r 315 (by decide +kernel) rfl
theorem tw_316 : (Jvm.Cond.fieldLink "java/lang/Throwable" (198 : Nat) "java/lang/Throwable" "backtrace" "Ljava/lang/Object;") ∈ dt := dt_r 316 (by decide +kernel) rfl
theorem tw_317 : (Jvm.Cond.fieldLink "java/lang/Throwable" (31 : Nat) "java/lang/Throwable" "detailMessage" "Ljava/lang/String;") ∈ dt := dt_r 317 (by decide +kernel) rfl
theorem tw_318 : (Jvm.Cond.fieldLink "java/lang/Throwable" (7 : Nat) "java/lang/Throwable" "cause" "Ljava/lang/Throwable;") ∈ dt := dt_r 318 (by decide +kernel) rfl
theorem tw_319 : (Jvm.Cond.fieldLink "java/lang/Throwable" (17 : Nat) "java/lang/Throwable" "stackTrace" "[Ljava/lang/StackTraceElement;") ∈ dt := dt_r 319 (by decide +kernel) rfl
theorem tw_320 : (Jvm.Cond.fieldLink "java/lang/Throwable" (24 : Nat) "java/lang/Throwable" "suppressedExceptions" "Ljava/util/List;") ∈ dt := dt_r 320 (by decide +kernel) rfl
theorem tw_328 : (Jvm.Cond.superclass "java/lang/IllegalArgumentException" "java/lang/RuntimeException") ∈ dt := dt_r 328 (by decide +kernel) rfl
theorem tw_329 : (Jvm.Cond.arrayClass Jvm.ClassFile.FieldType.byte) ∈ dt := dt_r 329 (by decide +kernel) rfl
theorem tw_330 : (Jvm.Cond.methodLink "DemandedBits" (66 : Nat) ({ cls := "DemandedBits", name := "append", desc := "(IIII)I" } : Jvm.MethodName)) ∈ dt := dt_r 330 (by decide +kernel) rfl
theorem tw_332 : (Jvm.Cond.instanceMethod ({ cls := "DemandedBits", name := "append", desc := "(IIII)I" } : Jvm.MethodName)) ∈ dt := dt_r 332 (by decide +kernel) rfl
theorem tw_333 : (Jvm.Cond.code ({ cls := "DemandedBits", name := "append", desc := "(IIII)I" } : Jvm.MethodName) prog_1_method_17_code (5 : Nat) (Option.some Jvm.ClassFile.FieldType.int)) ∈ dt := dt_r 333 (by decide +kernel) rfl
theorem tw_334 : (Jvm.Cond.classLink "DemandedBits" (99 : Nat) "java/lang/IllegalStateException") ∈ dt := dt_r 334 (by decide +kernel) rfl
theorem tw_335 : (Jvm.Cond.instantiable "java/lang/IllegalStateException" (6 : Nat)) ∈ dt := dt_r 335 (by decide +kernel) rfl
theorem tw_337 : (Jvm.Cond.selects "java/lang/IllegalStateException" ({ cls := "java/lang/Throwable", name := "fillInStackTrace", desc := "(I)Ljava/lang/Throwable;" } : Jvm.MethodName) ({ cls := "java/lang/Throwable", name := "fillInStackTrace", desc := "(I)Ljava/lang/Throwable;" } : Jvm.MethodName)) ∈ dt := dt_r 337 (by decide +kernel) rfl
theorem tw_344 : (Jvm.Cond.methodLink "DemandedBits" (103 : Nat) ({ cls := "java/lang/IllegalStateException", name := "<init>", desc := "(Ljava/lang/String;)V" } : Jvm.MethodName)) ∈ dt := dt_r 344 (by decide +kernel) rfl
theorem tw_345 : (Jvm.Cond.instanceMethod ({ cls := "java/lang/IllegalStateException", name := "<init>", desc := "(Ljava/lang/String;)V" } : Jvm.MethodName)) ∈ dt := dt_r 345 (by decide +kernel) rfl
theorem tw_346 : (Jvm.Cond.code ({ cls := "java/lang/IllegalStateException", name := "<init>", desc := "(Ljava/lang/String;)V" } : Jvm.MethodName) prog_10_method_2_code (2 : Nat) (Option.none : Option Jvm.ClassFile.FieldType)) ∈ dt := dt_r 346 (by decide +kernel) rfl
theorem tw_347 : (Jvm.Cond.methodLink "java/lang/IllegalStateException" (7 : Nat) ({ cls := "java/lang/RuntimeException", name := "<init>", desc := "(Ljava/lang/String;)V" } : Jvm.MethodName)) ∈ dt := dt_r 347 (by decide +kernel) rfl
theorem tw_349 : (Jvm.Cond.superclass "java/lang/IllegalStateException" "java/lang/RuntimeException") ∈ dt := dt_r 349 (by decide +kernel) rfl
theorem tw_350 : (Jvm.Cond.methodLink "DemandedBits" (151 : Nat) ({ cls := "DemandedBits$Function", name := "appendValue", desc := "(IIII)I" } : Jvm.MethodName)) ∈ dt := dt_r 350 (by decide +kernel) rfl
theorem tw_351 : (Jvm.Cond.instanceMethod ({ cls := "DemandedBits$Function", name := "appendValue", desc := "(IIII)I" } : Jvm.MethodName)) ∈ dt := dt_r 351 (by decide +kernel) rfl
theorem tw_352 : (Jvm.Cond.selects "DemandedBits$Function" ({ cls := "DemandedBits$Function", name := "appendValue", desc := "(IIII)I" } : Jvm.MethodName) ({ cls := "DemandedBits$Function", name := "appendValue", desc := "(IIII)I" } : Jvm.MethodName)) ∈ dt := dt_r 352 (by decide +kernel) rfl
theorem tw_353 : (Jvm.Cond.code ({ cls := "DemandedBits$Function", name := "appendValue", desc := "(IIII)I" } : Jvm.MethodName) prog_5_method_2_code (5 : Nat) (Option.some Jvm.ClassFile.FieldType.int)) ∈ dt := dt_r 353 (by decide +kernel) rfl
theorem tw_354 : (Jvm.Cond.methodLink "DemandedBitsLaw" (74 : Nat) ({ cls := "DemandedBitsLaw", name := "constant", desc := "(LDemandedBits;I[J)I" } : Jvm.MethodName)) ∈ dt := dt_r 354 (by decide +kernel) rfl
theorem tw_355 : (Jvm.Cond.static ({ cls := "DemandedBitsLaw", name := "constant", desc := "(LDemandedBits;I[J)I" } : Jvm.MethodName)) ∈ dt := dt_r 355 (by decide +kernel) rfl
theorem tw_356 : (Jvm.Cond.codeWith ({ cls := "DemandedBitsLaw", name := "constant", desc := "(LDemandedBits;I[J)I" } : Jvm.MethodName) method_4_code (4 : Nat) (Option.some Jvm.ClassFile.FieldType.int) [((0 : Nat), (9 : Nat), (12 : Nat), (15 : Nat))]) ∈ dt := dt_r 356 (by decide +kernel) rfl
theorem tw_357 : (Jvm.Cond.methodLink "DemandedBitsLaw" (17 : Nat) ({ cls := "DemandedBits", name := "constant", desc := "(I)I" } : Jvm.MethodName)) ∈ dt := dt_r 357 (by decide +kernel) rfl
theorem tw_358 : (Jvm.Cond.instanceMethod ({ cls := "DemandedBits", name := "constant", desc := "(I)I" } : Jvm.MethodName)) ∈ dt := dt_r 358 (by decide +kernel) rfl
theorem tw_359 : (Jvm.Cond.selects "DemandedBits" ({ cls := "DemandedBits", name := "constant", desc := "(I)I" } : Jvm.MethodName) ({ cls := "DemandedBits", name := "constant", desc := "(I)I" } : Jvm.MethodName)) ∈ dt := dt_r 359 (by decide +kernel) rfl
theorem tw_360 : (Jvm.Cond.code ({ cls := "DemandedBits", name := "constant", desc := "(I)I" } : Jvm.MethodName) prog_1_method_3_code (2 : Nat) (Option.some Jvm.ClassFile.FieldType.int)) ∈ dt := dt_r 360 (by decide +kernel) rfl
theorem tw_361 : (Jvm.Cond.methodLink "DemandedBitsLaw" (77 : Nat) ({ cls := "DemandedBitsLaw", name := "binary", desc := "(LDemandedBits;III[J)I" } : Jvm.MethodName)) ∈ dt := dt_r 361 (by decide +kernel) rfl
theorem tw_362 : (Jvm.Cond.static ({ cls := "DemandedBitsLaw", name := "binary", desc := "(LDemandedBits;III[J)I" } : Jvm.MethodName)) ∈ dt := dt_r 362 (by decide +kernel) rfl
theorem tw_363 : (Jvm.Cond.codeWith ({ cls := "DemandedBitsLaw", name := "binary", desc := "(LDemandedBits;III[J)I" } : Jvm.MethodName) method_5_code (6 : Nat) (Option.some Jvm.ClassFile.FieldType.int) [((0 : Nat), (12 : Nat), (15 : Nat), (13 : Nat)), ((0 : Nat), (12 : Nat), (19 : Nat), (24 : Nat)), ((0 : Nat), (12 : Nat), (23 : Nat), (15 : Nat))]) ∈ dt := dt_r 363 (by decide +kernel) rfl
theorem tw_364 : (Jvm.Cond.classLink "DemandedBitsLaw" (24 : Nat) "java/lang/IndexOutOfBoundsException") ∈ dt := dt_r 364 (by decide +kernel) rfl
theorem tw_365 : (Jvm.Cond.methodLink "DemandedBitsLaw" (20 : Nat) ({ cls := "DemandedBits", name := "binary", desc := "(III)I" } : Jvm.MethodName)) ∈ dt := dt_r 365 (by decide +kernel) rfl
theorem tw_366 : (Jvm.Cond.instanceMethod ({ cls := "DemandedBits", name := "binary", desc := "(III)I" } : Jvm.MethodName)) ∈ dt := dt_r 366 (by decide +kernel) rfl
theorem tw_367 : (Jvm.Cond.selects "DemandedBits" ({ cls := "DemandedBits", name := "binary", desc := "(III)I" } : Jvm.MethodName) ({ cls := "DemandedBits", name := "binary", desc := "(III)I" } : Jvm.MethodName)) ∈ dt := dt_r 367 (by decide +kernel) rfl
theorem tw_368 : (Jvm.Cond.code ({ cls := "DemandedBits", name := "binary", desc := "(III)I" } : Jvm.MethodName) prog_1_method_4_code (4 : Nat) (Option.some Jvm.ClassFile.FieldType.int)) ∈ dt := dt_r 368 (by decide +kernel) rfl
theorem tw_370 : (Jvm.Cond.methodLink "DemandedBits" (72 : Nat) ({ cls := "DemandedBits", name := "requireValue", desc := "(I)V" } : Jvm.MethodName)) ∈ dt := dt_r 370 (by decide +kernel) rfl
theorem tw_372 : (Jvm.Cond.instanceMethod ({ cls := "DemandedBits", name := "requireValue", desc := "(I)V" } : Jvm.MethodName)) ∈ dt := dt_r 372 (by decide +kernel) rfl
theorem tw_373 : (Jvm.Cond.code ({ cls := "DemandedBits", name := "requireValue", desc := "(I)V" } : Jvm.MethodName) prog_1_method_16_code (2 : Nat) (Option.none : Option Jvm.ClassFile.FieldType)) ∈ dt := dt_r 373 (by decide +kernel) rfl
theorem tw_374 : (Jvm.Cond.classLink "DemandedBits" (136 : Nat) "java/lang/IndexOutOfBoundsException") ∈ dt := dt_r 374 (by decide +kernel) rfl
theorem tw_375 : (Jvm.Cond.instantiable "java/lang/IndexOutOfBoundsException" (6 : Nat)) ∈ dt := dt_r 375 (by decide +kernel) rfl
theorem tw_377 : (Jvm.Cond.selects "java/lang/IndexOutOfBoundsException" ({ cls := "java/lang/Throwable", name := "fillInStackTrace", desc := "(I)Ljava/lang/Throwable;" } : Jvm.MethodName) ({ cls := "java/lang/Throwable", name := "fillInStackTrace", desc := "(I)Ljava/lang/Throwable;" } : Jvm.MethodName)) ∈ dt := dt_r 377 (by decide +kernel) rfl
theorem tw_384 : (Jvm.Cond.methodLink "DemandedBits" (140 : Nat) ({ cls := "java/lang/IndexOutOfBoundsException", name := "<init>", desc := "(Ljava/lang/String;)V" } : Jvm.MethodName)) ∈ dt := dt_r 384 (by decide +kernel) rfl
theorem tw_385 : (Jvm.Cond.instanceMethod ({ cls := "java/lang/IndexOutOfBoundsException", name := "<init>", desc := "(Ljava/lang/String;)V" } : Jvm.MethodName)) ∈ dt := dt_r 385 (by decide +kernel) rfl
theorem tw_386 : (Jvm.Cond.code ({ cls := "java/lang/IndexOutOfBoundsException", name := "<init>", desc := "(Ljava/lang/String;)V" } : Jvm.MethodName) prog_11_method_2_code (2 : Nat) (Option.none : Option Jvm.ClassFile.FieldType)) ∈ dt := dt_r 386 (by decide +kernel) rfl
theorem tw_387 : (Jvm.Cond.methodLink "java/lang/IndexOutOfBoundsException" (7 : Nat) ({ cls := "java/lang/RuntimeException", name := "<init>", desc := "(Ljava/lang/String;)V" } : Jvm.MethodName)) ∈ dt := dt_r 387 (by decide +kernel) rfl
theorem tw_389 : (Jvm.Cond.superclass "java/lang/IndexOutOfBoundsException" "java/lang/RuntimeException") ∈ dt := dt_r 389 (by decide +kernel) rfl
theorem tw_390 : (Jvm.Cond.methodLink "DemandedBitsLaw" (81 : Nat) ({ cls := "DemandedBitsLaw", name := "shift", desc := "(LDemandedBits;III[J)I" } : Jvm.MethodName)) ∈ dt := dt_r 390 (by decide +kernel) rfl
theorem tw_391 : (Jvm.Cond.static ({ cls := "DemandedBitsLaw", name := "shift", desc := "(LDemandedBits;III[J)I" } : Jvm.MethodName)) ∈ dt := dt_r 391 (by decide +kernel) rfl
theorem tw_392 : (Jvm.Cond.codeWith ({ cls := "DemandedBitsLaw", name := "shift", desc := "(LDemandedBits;III[J)I" } : Jvm.MethodName) method_6_code (6 : Nat) (Option.some Jvm.ClassFile.FieldType.int) [((0 : Nat), (12 : Nat), (15 : Nat), (13 : Nat)), ((0 : Nat), (12 : Nat), (19 : Nat), (24 : Nat)), ((0 : Nat), (12 : Nat), (23 : Nat), (15 : Nat))]) ∈ dt := dt_r 392 (by decide +kernel) rfl
theorem tw_393 : (Jvm.Cond.methodLink "DemandedBitsLaw" (26 : Nat) ({ cls := "DemandedBits", name := "shift", desc := "(III)I" } : Jvm.MethodName)) ∈ dt := dt_r 393 (by decide +kernel) rfl
theorem tw_394 : (Jvm.Cond.instanceMethod ({ cls := "DemandedBits", name := "shift", desc := "(III)I" } : Jvm.MethodName)) ∈ dt := dt_r 394 (by decide +kernel) rfl
theorem tw_395 : (Jvm.Cond.selects "DemandedBits" ({ cls := "DemandedBits", name := "shift", desc := "(III)I" } : Jvm.MethodName) ({ cls := "DemandedBits", name := "shift", desc := "(III)I" } : Jvm.MethodName)) ∈ dt := dt_r 395 (by decide +kernel) rfl
theorem tw_396 : (Jvm.Cond.code ({ cls := "DemandedBits", name := "shift", desc := "(III)I" } : Jvm.MethodName) prog_1_method_5_code (4 : Nat) (Option.some Jvm.ClassFile.FieldType.int)) ∈ dt := dt_r 396 (by decide +kernel) rfl
theorem tw_399 : (Jvm.Cond.methodLink "DemandedBitsLaw" (84 : Nat) ({ cls := "DemandedBitsLaw", name := "extend", desc := "(LDemandedBits;IZ[J)I" } : Jvm.MethodName)) ∈ dt := dt_r 399 (by decide +kernel) rfl
theorem tw_400 : (Jvm.Cond.static ({ cls := "DemandedBitsLaw", name := "extend", desc := "(LDemandedBits;IZ[J)I" } : Jvm.MethodName)) ∈ dt := dt_r 400 (by decide +kernel) rfl
theorem tw_401 : (Jvm.Cond.codeWith ({ cls := "DemandedBitsLaw", name := "extend", desc := "(LDemandedBits;IZ[J)I" } : Jvm.MethodName) method_7_code (5 : Nat) (Option.some Jvm.ClassFile.FieldType.int) [((0 : Nat), (10 : Nat), (13 : Nat), (24 : Nat)), ((0 : Nat), (10 : Nat), (17 : Nat), (15 : Nat))]) ∈ dt := dt_r 401 (by decide +kernel) rfl
theorem tw_402 : (Jvm.Cond.methodLink "DemandedBitsLaw" (29 : Nat) ({ cls := "DemandedBits", name := "extend", desc := "(IZ)I" } : Jvm.MethodName)) ∈ dt := dt_r 402 (by decide +kernel) rfl
theorem tw_403 : (Jvm.Cond.instanceMethod ({ cls := "DemandedBits", name := "extend", desc := "(IZ)I" } : Jvm.MethodName)) ∈ dt := dt_r 403 (by decide +kernel) rfl
theorem tw_404 : (Jvm.Cond.selects "DemandedBits" ({ cls := "DemandedBits", name := "extend", desc := "(IZ)I" } : Jvm.MethodName) ({ cls := "DemandedBits", name := "extend", desc := "(IZ)I" } : Jvm.MethodName)) ∈ dt := dt_r 404 (by decide +kernel) rfl
theorem tw_405 : (Jvm.Cond.code ({ cls := "DemandedBits", name := "extend", desc := "(IZ)I" } : Jvm.MethodName) prog_1_method_6_code (3 : Nat) (Option.some Jvm.ClassFile.FieldType.int)) ∈ dt := dt_r 405 (by decide +kernel) rfl
theorem tw_406 : (Jvm.Cond.methodLink "DemandedBitsLaw" (88 : Nat) ({ cls := "DemandedBitsLaw", name := "loop", desc := "(LDemandedBits;I[J)I" } : Jvm.MethodName)) ∈ dt := dt_r 406 (by decide +kernel) rfl
theorem tw_407 : (Jvm.Cond.static ({ cls := "DemandedBitsLaw", name := "loop", desc := "(LDemandedBits;I[J)I" } : Jvm.MethodName)) ∈ dt := dt_r 407 (by decide +kernel) rfl
theorem tw_408 : (Jvm.Cond.codeWith ({ cls := "DemandedBitsLaw", name := "loop", desc := "(LDemandedBits;I[J)I" } : Jvm.MethodName) method_8_code (4 : Nat) (Option.some Jvm.ClassFile.FieldType.int) [((0 : Nat), (9 : Nat), (12 : Nat), (24 : Nat)), ((0 : Nat), (9 : Nat), (15 : Nat), (15 : Nat))]) ∈ dt := dt_r 408 (by decide +kernel) rfl
theorem tw_409 : (Jvm.Cond.methodLink "DemandedBitsLaw" (33 : Nat) ({ cls := "DemandedBits", name := "loop", desc := "(I)I" } : Jvm.MethodName)) ∈ dt := dt_r 409 (by decide +kernel) rfl
theorem tw_410 : (Jvm.Cond.instanceMethod ({ cls := "DemandedBits", name := "loop", desc := "(I)I" } : Jvm.MethodName)) ∈ dt := dt_r 410 (by decide +kernel) rfl
theorem tw_411 : (Jvm.Cond.selects "DemandedBits" ({ cls := "DemandedBits", name := "loop", desc := "(I)I" } : Jvm.MethodName) ({ cls := "DemandedBits", name := "loop", desc := "(I)I" } : Jvm.MethodName)) ∈ dt := dt_r 411 (by decide +kernel) rfl
theorem tw_412 : (Jvm.Cond.code ({ cls := "DemandedBits", name := "loop", desc := "(I)I" } : Jvm.MethodName) prog_1_method_7_code (2 : Nat) (Option.some Jvm.ClassFile.FieldType.int)) ∈ dt := dt_r 412 (by decide +kernel) rfl
theorem tw_413 : (Jvm.Cond.methodLink "DemandedBitsLaw" (91 : Nat) ({ cls := "DemandedBitsLaw", name := "back", desc := "(LDemandedBits;II)I" } : Jvm.MethodName)) ∈ dt := dt_r 413 (by decide +kernel) rfl
theorem tw_414 : (Jvm.Cond.static ({ cls := "DemandedBitsLaw", name := "back", desc := "(LDemandedBits;II)I" } : Jvm.MethodName)) ∈ dt := dt_r 414 (by decide +kernel) rfl
theorem tw_415 : (Jvm.Cond.codeWith ({ cls := "DemandedBitsLaw", name := "back", desc := "(LDemandedBits;II)I" } : Jvm.MethodName) method_9_code (4 : Nat) (Option.some Jvm.ClassFile.FieldType.int) [((0 : Nat), (6 : Nat), (9 : Nat), (24 : Nat)), ((0 : Nat), (6 : Nat), (12 : Nat), (13 : Nat))]) ∈ dt := dt_r 415 (by decide +kernel) rfl
theorem tw_416 : (Jvm.Cond.methodLink "DemandedBitsLaw" (36 : Nat) ({ cls := "DemandedBits", name := "back", desc := "(II)V" } : Jvm.MethodName)) ∈ dt := dt_r 416 (by decide +kernel) rfl
theorem tw_417 : (Jvm.Cond.instanceMethod ({ cls := "DemandedBits", name := "back", desc := "(II)V" } : Jvm.MethodName)) ∈ dt := dt_r 417 (by decide +kernel) rfl
theorem tw_418 : (Jvm.Cond.selects "DemandedBits" ({ cls := "DemandedBits", name := "back", desc := "(II)V" } : Jvm.MethodName) ({ cls := "DemandedBits", name := "back", desc := "(II)V" } : Jvm.MethodName)) ∈ dt := dt_r 418 (by decide +kernel) rfl
theorem tw_419 : (Jvm.Cond.code ({ cls := "DemandedBits", name := "back", desc := "(II)V" } : Jvm.MethodName) prog_1_method_8_code (3 : Nat) (Option.none : Option Jvm.ClassFile.FieldType)) ∈ dt := dt_r 419 (by decide +kernel) rfl
theorem tw_421 : (Jvm.Cond.methodLink "DemandedBitsLaw" (95 : Nat) ({ cls := "DemandedBitsLaw", name := "result", desc := "(LDemandedBits;II[J)I" } : Jvm.MethodName)) ∈ dt := dt_r 421 (by decide +kernel) rfl
theorem tw_422 : (Jvm.Cond.static ({ cls := "DemandedBitsLaw", name := "result", desc := "(LDemandedBits;II[J)I" } : Jvm.MethodName)) ∈ dt := dt_r 422 (by decide +kernel) rfl
theorem tw_423 : (Jvm.Cond.codeWith ({ cls := "DemandedBitsLaw", name := "result", desc := "(LDemandedBits;II[J)I" } : Jvm.MethodName) method_10_code (5 : Nat) (Option.some Jvm.ClassFile.FieldType.int) [((0 : Nat), (10 : Nat), (13 : Nat), (24 : Nat)), ((0 : Nat), (10 : Nat), (17 : Nat), (15 : Nat))]) ∈ dt := dt_r 423 (by decide +kernel) rfl
theorem tw_424 : (Jvm.Cond.methodLink "DemandedBitsLaw" (40 : Nat) ({ cls := "DemandedBits", name := "result", desc := "(II)I" } : Jvm.MethodName)) ∈ dt := dt_r 424 (by decide +kernel) rfl
theorem tw_425 : (Jvm.Cond.instanceMethod ({ cls := "DemandedBits", name := "result", desc := "(II)I" } : Jvm.MethodName)) ∈ dt := dt_r 425 (by decide +kernel) rfl
theorem tw_426 : (Jvm.Cond.selects "DemandedBits" ({ cls := "DemandedBits", name := "result", desc := "(II)I" } : Jvm.MethodName) ({ cls := "DemandedBits", name := "result", desc := "(II)I" } : Jvm.MethodName)) ∈ dt := dt_r 426 (by decide +kernel) rfl
theorem tw_427 : (Jvm.Cond.code ({ cls := "DemandedBits", name := "result", desc := "(II)I" } : Jvm.MethodName) prog_1_method_9_code (3 : Nat) (Option.some Jvm.ClassFile.FieldType.int)) ∈ dt := dt_r 427 (by decide +kernel) rfl
theorem tw_429 : (Jvm.Cond.methodLink "DemandedBits" (104 : Nat) ({ cls := "DemandedBits$Function", name := "appendResult", desc := "(II)I" } : Jvm.MethodName)) ∈ dt := dt_r 429 (by decide +kernel) rfl
theorem tw_430 : (Jvm.Cond.instanceMethod ({ cls := "DemandedBits$Function", name := "appendResult", desc := "(II)I" } : Jvm.MethodName)) ∈ dt := dt_r 430 (by decide +kernel) rfl
theorem tw_431 : (Jvm.Cond.selects "DemandedBits$Function" ({ cls := "DemandedBits$Function", name := "appendResult", desc := "(II)I" } : Jvm.MethodName) ({ cls := "DemandedBits$Function", name := "appendResult", desc := "(II)I" } : Jvm.MethodName)) ∈ dt := dt_r 431 (by decide +kernel) rfl
theorem tw_432 : (Jvm.Cond.code ({ cls := "DemandedBits$Function", name := "appendResult", desc := "(II)I" } : Jvm.MethodName) prog_5_method_3_code (3 : Nat) (Option.some Jvm.ClassFile.FieldType.int)) ∈ dt := dt_r 432 (by decide +kernel) rfl
theorem tw_433 : (Jvm.Cond.methodLink "DemandedBitsLaw" (99 : Nat) ({ cls := "DemandedBitsLaw", name := "bits", desc := "(LDemandedBits;II[J)I" } : Jvm.MethodName)) ∈ dt := dt_r 433 (by decide +kernel) rfl
theorem tw_434 : (Jvm.Cond.static ({ cls := "DemandedBitsLaw", name := "bits", desc := "(LDemandedBits;II[J)I" } : Jvm.MethodName)) ∈ dt := dt_r 434 (by decide +kernel) rfl
theorem tw_435 : (Jvm.Cond.codeWith ({ cls := "DemandedBitsLaw", name := "bits", desc := "(LDemandedBits;II[J)I" } : Jvm.MethodName) method_11_code (5 : Nat) (Option.some Jvm.ClassFile.FieldType.int) [((0 : Nat), (10 : Nat), (13 : Nat), (24 : Nat)), ((0 : Nat), (10 : Nat), (17 : Nat), (13 : Nat))]) ∈ dt := dt_r 435 (by decide +kernel) rfl
theorem tw_436 : (Jvm.Cond.methodLink "DemandedBitsLaw" (44 : Nat) ({ cls := "DemandedBits", name := "bits", desc := "(II)I" } : Jvm.MethodName)) ∈ dt := dt_r 436 (by decide +kernel) rfl
theorem tw_437 : (Jvm.Cond.instanceMethod ({ cls := "DemandedBits", name := "bits", desc := "(II)I" } : Jvm.MethodName)) ∈ dt := dt_r 437 (by decide +kernel) rfl
theorem tw_438 : (Jvm.Cond.selects "DemandedBits" ({ cls := "DemandedBits", name := "bits", desc := "(II)I" } : Jvm.MethodName) ({ cls := "DemandedBits", name := "bits", desc := "(II)I" } : Jvm.MethodName)) ∈ dt := dt_r 438 (by decide +kernel) rfl
theorem tw_439 : (Jvm.Cond.code ({ cls := "DemandedBits", name := "bits", desc := "(II)I" } : Jvm.MethodName) prog_1_method_10_code (3 : Nat) (Option.some Jvm.ClassFile.FieldType.int)) ∈ dt := dt_r 439 (by decide +kernel) rfl
theorem tw_441 : (Jvm.Cond.methodLink "DemandedBits" (122 : Nat) ({ cls := "DemandedBits", name := "width", desc := "(I)I" } : Jvm.MethodName)) ∈ dt := dt_r 441 (by decide +kernel) rfl
theorem tw_442 : (Jvm.Cond.static ({ cls := "DemandedBits", name := "width", desc := "(I)I" } : Jvm.MethodName)) ∈ dt := dt_r 442 (by decide +kernel) rfl
theorem tw_443 : (Jvm.Cond.code ({ cls := "DemandedBits", name := "width", desc := "(I)I" } : Jvm.MethodName) prog_1_method_22_code (1 : Nat) (Option.some Jvm.ClassFile.FieldType.int)) ∈ dt := dt_r 443 (by decide +kernel) rfl
theorem tw_444 : (Jvm.Cond.methodLink "DemandedBitsLaw" (102 : Nat) ({ cls := "DemandedBitsLaw", name := "replaced", desc := "(LDemandedBits;I[J)I" } : Jvm.MethodName)) ∈ dt := dt_r 444 (by decide +kernel) rfl
theorem tw_445 : (Jvm.Cond.static ({ cls := "DemandedBitsLaw", name := "replaced", desc := "(LDemandedBits;I[J)I" } : Jvm.MethodName)) ∈ dt := dt_r 445 (by decide +kernel) rfl
theorem tw_446 : (Jvm.Cond.codeWith ({ cls := "DemandedBitsLaw", name := "replaced", desc := "(LDemandedBits;I[J)I" } : Jvm.MethodName) method_12_code (4 : Nat) (Option.some Jvm.ClassFile.FieldType.int) [((0 : Nat), (9 : Nat), (12 : Nat), (24 : Nat))]) ∈ dt := dt_r 446 (by decide +kernel) rfl
theorem tw_447 : (Jvm.Cond.methodLink "DemandedBitsLaw" (47 : Nat) ({ cls := "DemandedBits", name := "replaced", desc := "(I)I" } : Jvm.MethodName)) ∈ dt := dt_r 447 (by decide +kernel) rfl
theorem tw_448 : (Jvm.Cond.instanceMethod ({ cls := "DemandedBits", name := "replaced", desc := "(I)I" } : Jvm.MethodName)) ∈ dt := dt_r 448 (by decide +kernel) rfl
theorem tw_449 : (Jvm.Cond.selects "DemandedBits" ({ cls := "DemandedBits", name := "replaced", desc := "(I)I" } : Jvm.MethodName) ({ cls := "DemandedBits", name := "replaced", desc := "(I)I" } : Jvm.MethodName)) ∈ dt := dt_r 449 (by decide +kernel) rfl
theorem tw_450 : (Jvm.Cond.code ({ cls := "DemandedBits", name := "replaced", desc := "(I)I" } : Jvm.MethodName) prog_1_method_11_code (2 : Nat) (Option.some Jvm.ClassFile.FieldType.int)) ∈ dt := dt_r 450 (by decide +kernel) rfl
theorem tw_451 : (Jvm.Cond.methodLink "DemandedBitsLaw" (109 : Nat) ({ cls := "DemandedBitsLaw", name := "run", desc := "(LDemandedBits;IIII[J)I" } : Jvm.MethodName)) ∈ dt := dt_r 451 (by decide +kernel) rfl
theorem tw_452 : (Jvm.Cond.static ({ cls := "DemandedBitsLaw", name := "run", desc := "(LDemandedBits;IIII[J)I" } : Jvm.MethodName)) ∈ dt := dt_r 452 (by decide +kernel) rfl
theorem tw_453 : (Jvm.Cond.codeWith ({ cls := "DemandedBitsLaw", name := "run", desc := "(LDemandedBits;IIII[J)I" } : Jvm.MethodName) method_13_code (7 : Nat) (Option.some Jvm.ClassFile.FieldType.int) [((0 : Nat), (14 : Nat), (17 : Nat), (13 : Nat))]) ∈ dt := dt_r 453 (by decide +kernel) rfl
theorem tw_454 : (Jvm.Cond.methodLink "DemandedBitsLaw" (50 : Nat) ({ cls := "DemandedBits", name := "run", desc := "(IIII)I" } : Jvm.MethodName)) ∈ dt := dt_r 454 (by decide +kernel) rfl
theorem tw_455 : (Jvm.Cond.instanceMethod ({ cls := "DemandedBits", name := "run", desc := "(IIII)I" } : Jvm.MethodName)) ∈ dt := dt_r 455 (by decide +kernel) rfl
theorem tw_456 : (Jvm.Cond.selects "DemandedBits" ({ cls := "DemandedBits", name := "run", desc := "(IIII)I" } : Jvm.MethodName) ({ cls := "DemandedBits", name := "run", desc := "(IIII)I" } : Jvm.MethodName)) ∈ dt := dt_r 456 (by decide +kernel) rfl
theorem tw_457 : (Jvm.Cond.code ({ cls := "DemandedBits", name := "run", desc := "(IIII)I" } : Jvm.MethodName) prog_1_method_13_code (5 : Nat) (Option.some Jvm.ClassFile.FieldType.int)) ∈ dt := dt_r 457 (by decide +kernel) rfl
theorem tw_459 : (Jvm.Cond.methodLink "DemandedBits" (128 : Nat) ({ cls := "DemandedBits$Course", name := "follow", desc := "(LDemandedBits$Function;[I[I[II)V" } : Jvm.MethodName)) ∈ dt := dt_r 459 (by decide +kernel) rfl
theorem tw_460 : (Jvm.Cond.instanceMethod ({ cls := "DemandedBits$Course", name := "follow", desc := "(LDemandedBits$Function;[I[I[II)V" } : Jvm.MethodName)) ∈ dt := dt_r 460 (by decide +kernel) rfl
theorem tw_461 : (Jvm.Cond.selects "DemandedBits$Course" ({ cls := "DemandedBits$Course", name := "follow", desc := "(LDemandedBits$Function;[I[I[II)V" } : Jvm.MethodName) ({ cls := "DemandedBits$Course", name := "follow", desc := "(LDemandedBits$Function;[I[I[II)V" } : Jvm.MethodName)) ∈ dt := dt_r 461 (by decide +kernel) rfl
theorem tw_462 : (Jvm.Cond.code ({ cls := "DemandedBits$Course", name := "follow", desc := "(LDemandedBits$Function;[I[I[II)V" } : Jvm.MethodName) prog_2_method_2_code (8 : Nat) (Option.none : Option Jvm.ClassFile.FieldType)) ∈ dt := dt_r 462 (by decide +kernel) rfl
theorem tw_463 : (Jvm.Cond.methodLink "DemandedBits$Course" (27 : Nat) ({ cls := "java/lang/System", name := "arraycopy", desc := "(Ljava/lang/Object;ILjava/lang/Object;II)V" } : Jvm.MethodName)) ∈ dt := dt_r 463 (by decide +kernel) rfl
theorem tw_464 : (Jvm.Cond.static ({ cls := "java/lang/System", name := "arraycopy", desc := "(Ljava/lang/Object;ILjava/lang/Object;II)V" } : Jvm.MethodName)) ∈ dt := dt_r 464 (by decide +kernel) rfl
theorem tw_466 : (Jvm.Cond.methodLink "DemandedBits$Course" (45 : Nat) ({ cls := "DemandedBits$Course", name := "workOut", desc := "(IIII[I)I" } : Jvm.MethodName)) ∈ dt := dt_r 466 (by decide +kernel) rfl
theorem tw_467 : (Jvm.Cond.static ({ cls := "DemandedBits$Course", name := "workOut", desc := "(IIII[I)I" } : Jvm.MethodName)) ∈ dt := dt_r 467 (by decide +kernel) rfl
theorem tw_468 : (Jvm.Cond.code ({ cls := "DemandedBits$Course", name := "workOut", desc := "(IIII[I)I" } : Jvm.MethodName) prog_2_method_3_code (5 : Nat) (Option.some Jvm.ClassFile.FieldType.int)) ∈ dt := dt_r 468 (by decide +kernel) rfl
theorem tw_469 : (Jvm.Cond.methodLink "DemandedBits" (132 : Nat) ({ cls := "DemandedBits", name := "countDifferences", desc := "()I" } : Jvm.MethodName)) ∈ dt := dt_r 469 (by decide +kernel) rfl
theorem tw_471 : (Jvm.Cond.instanceMethod ({ cls := "DemandedBits", name := "countDifferences", desc := "()I" } : Jvm.MethodName)) ∈ dt := dt_r 471 (by decide +kernel) rfl
theorem tw_472 : (Jvm.Cond.code ({ cls := "DemandedBits", name := "countDifferences", desc := "()I" } : Jvm.MethodName) prog_1_method_21_code (3 : Nat) (Option.some Jvm.ClassFile.FieldType.int)) ∈ dt := dt_r 472 (by decide +kernel) rfl
theorem tw_473 : (Jvm.Cond.methodLink "DemandedBitsLaw" (113 : Nat) ({ cls := "DemandedBitsLaw", name := "observed", desc := "(LDemandedBits;IZ[J)I" } : Jvm.MethodName)) ∈ dt := dt_r 473 (by decide +kernel) rfl
theorem tw_474 : (Jvm.Cond.static ({ cls := "DemandedBitsLaw", name := "observed", desc := "(LDemandedBits;IZ[J)I" } : Jvm.MethodName)) ∈ dt := dt_r 474 (by decide +kernel) rfl
theorem tw_475 : (Jvm.Cond.codeWith ({ cls := "DemandedBitsLaw", name := "observed", desc := "(LDemandedBits;IZ[J)I" } : Jvm.MethodName) method_14_code (5 : Nat) (Option.some Jvm.ClassFile.FieldType.int) [((0 : Nat), (10 : Nat), (13 : Nat), (24 : Nat))]) ∈ dt := dt_r 475 (by decide +kernel) rfl
theorem tw_476 : (Jvm.Cond.methodLink "DemandedBitsLaw" (54 : Nat) ({ cls := "DemandedBits", name := "observed", desc := "(IZ)I" } : Jvm.MethodName)) ∈ dt := dt_r 476 (by decide +kernel) rfl
theorem tw_477 : (Jvm.Cond.instanceMethod ({ cls := "DemandedBits", name := "observed", desc := "(IZ)I" } : Jvm.MethodName)) ∈ dt := dt_r 477 (by decide +kernel) rfl
theorem tw_478 : (Jvm.Cond.selects "DemandedBits" ({ cls := "DemandedBits", name := "observed", desc := "(IZ)I" } : Jvm.MethodName) ({ cls := "DemandedBits", name := "observed", desc := "(IZ)I" } : Jvm.MethodName)) ∈ dt := dt_r 478 (by decide +kernel) rfl
theorem tw_479 : (Jvm.Cond.code ({ cls := "DemandedBits", name := "observed", desc := "(IZ)I" } : Jvm.MethodName) prog_1_method_14_code (3 : Nat) (Option.some Jvm.ClassFile.FieldType.int)) ∈ dt := dt_r 479 (by decide +kernel) rfl
theorem tw_481 : (Jvm.Cond.methodLink "DemandedBitsLaw" (116 : Nat) ({ cls := "DemandedBitsLaw", name := "value", desc := "(LDemandedBits;IZ[J)I" } : Jvm.MethodName)) ∈ dt := dt_r 481 (by decide +kernel) rfl
theorem tw_482 : (Jvm.Cond.static ({ cls := "DemandedBitsLaw", name := "value", desc := "(LDemandedBits;IZ[J)I" } : Jvm.MethodName)) ∈ dt := dt_r 482 (by decide +kernel) rfl
theorem tw_483 : (Jvm.Cond.codeWith ({ cls := "DemandedBitsLaw", name := "value", desc := "(LDemandedBits;IZ[J)I" } : Jvm.MethodName) method_15_code (5 : Nat) (Option.some Jvm.ClassFile.FieldType.int) [((0 : Nat), (10 : Nat), (13 : Nat), (24 : Nat))]) ∈ dt := dt_r 483 (by decide +kernel) rfl
theorem tw_484 : (Jvm.Cond.methodLink "DemandedBitsLaw" (57 : Nat) ({ cls := "DemandedBits", name := "value", desc := "(IZ)I" } : Jvm.MethodName)) ∈ dt := dt_r 484 (by decide +kernel) rfl
theorem tw_485 : (Jvm.Cond.instanceMethod ({ cls := "DemandedBits", name := "value", desc := "(IZ)I" } : Jvm.MethodName)) ∈ dt := dt_r 485 (by decide +kernel) rfl
theorem tw_486 : (Jvm.Cond.selects "DemandedBits" ({ cls := "DemandedBits", name := "value", desc := "(IZ)I" } : Jvm.MethodName) ({ cls := "DemandedBits", name := "value", desc := "(IZ)I" } : Jvm.MethodName)) ∈ dt := dt_r 486 (by decide +kernel) rfl
theorem tw_487 : (Jvm.Cond.code ({ cls := "DemandedBits", name := "value", desc := "(IZ)I" } : Jvm.MethodName) prog_1_method_15_code (3 : Nat) (Option.some Jvm.ClassFile.FieldType.int)) ∈ dt := dt_r 487 (by decide +kernel) rfl
theorem tw_488 : (Jvm.Cond.classLink "DemandedBitsLaw" (61 : Nat) "DemandedBitsModel") ∈ dt := dt_r 488 (by decide +kernel) rfl
theorem tw_489 : (Jvm.Cond.instantiable "DemandedBitsModel" (19 : Nat)) ∈ dt := dt_r 489 (by decide +kernel) rfl
theorem tw_490 : (Jvm.Cond.methodLink "DemandedBitsLaw" (63 : Nat) ({ cls := "DemandedBitsModel", name := "<init>", desc := "()V" } : Jvm.MethodName)) ∈ dt := dt_r 490 (by decide +kernel) rfl
theorem tw_491 : (Jvm.Cond.instanceMethod ({ cls := "DemandedBitsModel", name := "<init>", desc := "()V" } : Jvm.MethodName)) ∈ dt := dt_r 491 (by decide +kernel) rfl
theorem tw_492 : (Jvm.Cond.code ({ cls := "DemandedBitsModel", name := "<init>", desc := "()V" } : Jvm.MethodName) prog_7_method_1_code (1 : Nat) (Option.none : Option Jvm.ClassFile.FieldType)) ∈ dt := dt_r 492 (by decide +kernel) rfl
theorem tw_493 : (Jvm.Cond.methodLink "DemandedBitsModel" (1 : Nat) ({ cls := "java/lang/Object", name := "<init>", desc := "()V" } : Jvm.MethodName)) ∈ dt := dt_r 493 (by decide +kernel) rfl
theorem tw_494 : (Jvm.Cond.fieldLink "DemandedBitsModel" (50 : Nat) "DemandedBitsModel" "fault" "I") ∈ dt := dt_r 494 (by decide +kernel) rfl
theorem tw_495 : (Jvm.Cond.fieldLink "DemandedBitsModel" (54 : Nat) "DemandedBitsModel" "values" "I") ∈ dt := dt_r 495 (by decide +kernel) rfl
theorem tw_496 : (Jvm.Cond.fieldLink "DemandedBitsModel" (7 : Nat) "DemandedBitsModel" "made" "[I") ∈ dt := dt_r 496 (by decide +kernel) rfl
theorem tw_497 : (Jvm.Cond.fieldLink "DemandedBitsModel" (13 : Nat) "DemandedBitsModel" "one" "[I") ∈ dt := dt_r 497 (by decide +kernel) rfl
theorem tw_498 : (Jvm.Cond.fieldLink "DemandedBitsModel" (16 : Nat) "DemandedBitsModel" "two" "[I") ∈ dt := dt_r 498 (by decide +kernel) rfl
theorem tw_499 : (Jvm.Cond.fieldLink "DemandedBitsModel" (65 : Nat) "DemandedBitsModel" "results" "I") ∈ dt := dt_r 499 (by decide +kernel) rfl
theorem tw_500 : (Jvm.Cond.fieldLink "DemandedBitsModel" (19 : Nat) "DemandedBitsModel" "shown" "[I") ∈ dt := dt_r 500 (by decide +kernel) rfl
theorem tw_501 : (Jvm.Cond.fieldLink "DemandedBitsModel" (22 : Nat) "DemandedBitsModel" "mask" "[I") ∈ dt := dt_r 501 (by decide +kernel) rfl
theorem tw_502 : (Jvm.Cond.fieldLink "DemandedBitsModel" (25 : Nat) "DemandedBitsModel" "fact" "[I") ∈ dt := dt_r 502 (by decide +kernel) rfl
theorem tw_503 : (Jvm.Cond.fieldLink "DemandedBitsModel" (28 : Nat) "DemandedBitsModel" "demanded" "[Z") ∈ dt := dt_r 503 (by decide +kernel) rfl
theorem tw_504 : (Jvm.Cond.fieldLink "DemandedBitsModel" (32 : Nat) "DemandedBitsModel" "needed" "[Z") ∈ dt := dt_r 504 (by decide +kernel) rfl
theorem tw_505 : (Jvm.Cond.fieldLink "DemandedBitsModel" (35 : Nat) "DemandedBitsModel" "by" "[I") ∈ dt := dt_r 505 (by decide +kernel) rfl
theorem tw_506 : (Jvm.Cond.fieldLink "DemandedBitsModel" (38 : Nat) "DemandedBitsModel" "pile" "[I") ∈ dt := dt_r 506 (by decide +kernel) rfl
theorem tw_507 : (Jvm.Cond.fieldLink "DemandedBitsModel" (100 : Nat) "DemandedBitsModel" "piled" "I") ∈ dt := dt_r 507 (by decide +kernel) rfl
theorem tw_508 : (Jvm.Cond.fieldLink "DemandedBitsModel" (41 : Nat) "DemandedBitsModel" "now" "[I") ∈ dt := dt_r 508 (by decide +kernel) rfl
theorem tw_509 : (Jvm.Cond.fieldLink "DemandedBitsModel" (44 : Nat) "DemandedBitsModel" "nowShort" "[I") ∈ dt := dt_r 509 (by decide +kernel) rfl
theorem tw_510 : (Jvm.Cond.fieldLink "DemandedBitsModel" (47 : Nat) "DemandedBitsModel" "before" "[I") ∈ dt := dt_r 510 (by decide +kernel) rfl
theorem tw_511 : (Jvm.Cond.fieldLink "DemandedBitsModel" (156 : Nat) "DemandedBitsModel" "ran" "I") ∈ dt := dt_r 511 (by decide +kernel) rfl
theorem tw_512 : (Jvm.Cond.fieldLink "DemandedBitsModel" (159 : Nat) "DemandedBitsModel" "ranResults" "I") ∈ dt := dt_r 512 (by decide +kernel) rfl
theorem tw_551 : (Jvm.Cond.superclass "DemandedBitsModel" "java/lang/Object") ∈ dt := dt_r 551 (by decide +kernel) rfl
theorem tw_552 : (Jvm.Cond.arrayClass Jvm.ClassFile.FieldType.boolean) ∈ dt := dt_r 552 (by decide +kernel) rfl
theorem tw_553 : (Jvm.Cond.methodLink "DemandedBitsLaw" (70 : Nat) ({ cls := "DemandedBitsModel", name := "thrown", desc := "()I" } : Jvm.MethodName)) ∈ dt := dt_r 553 (by decide +kernel) rfl
theorem tw_554 : (Jvm.Cond.instanceMethod ({ cls := "DemandedBitsModel", name := "thrown", desc := "()I" } : Jvm.MethodName)) ∈ dt := dt_r 554 (by decide +kernel) rfl
theorem tw_555 : (Jvm.Cond.selects "DemandedBitsModel" ({ cls := "DemandedBitsModel", name := "thrown", desc := "()I" } : Jvm.MethodName) ({ cls := "DemandedBitsModel", name := "thrown", desc := "()I" } : Jvm.MethodName)) ∈ dt := dt_r 555 (by decide +kernel) rfl
theorem tw_556 : (Jvm.Cond.code ({ cls := "DemandedBitsModel", name := "thrown", desc := "()I" } : Jvm.MethodName) prog_7_method_2_code (1 : Nat) (Option.some Jvm.ClassFile.FieldType.int)) ∈ dt := dt_r 556 (by decide +kernel) rfl
theorem tw_557 : (Jvm.Cond.methodLink "DemandedBitsLaw" (69 : Nat) ({ cls := "DemandedBitsModel", name := "input", desc := "(I)I" } : Jvm.MethodName)) ∈ dt := dt_r 557 (by decide +kernel) rfl
theorem tw_558 : (Jvm.Cond.instanceMethod ({ cls := "DemandedBitsModel", name := "input", desc := "(I)I" } : Jvm.MethodName)) ∈ dt := dt_r 558 (by decide +kernel) rfl
theorem tw_559 : (Jvm.Cond.selects "DemandedBitsModel" ({ cls := "DemandedBitsModel", name := "input", desc := "(I)I" } : Jvm.MethodName) ({ cls := "DemandedBitsModel", name := "input", desc := "(I)I" } : Jvm.MethodName)) ∈ dt := dt_r 559 (by decide +kernel) rfl
theorem tw_560 : (Jvm.Cond.code ({ cls := "DemandedBitsModel", name := "input", desc := "(I)I" } : Jvm.MethodName) prog_7_method_5_code (2 : Nat) (Option.some Jvm.ClassFile.FieldType.int)) ∈ dt := dt_r 560 (by decide +kernel) rfl
theorem tw_561 : (Jvm.Cond.methodLink "DemandedBitsModel" (57 : Nat) ({ cls := "DemandedBitsModel", name := "make", desc := "(IIII)I" } : Jvm.MethodName)) ∈ dt := dt_r 561 (by decide +kernel) rfl
theorem tw_563 : (Jvm.Cond.instanceMethod ({ cls := "DemandedBitsModel", name := "make", desc := "(IIII)I" } : Jvm.MethodName)) ∈ dt := dt_r 563 (by decide +kernel) rfl
theorem tw_564 : (Jvm.Cond.code ({ cls := "DemandedBitsModel", name := "make", desc := "(IIII)I" } : Jvm.MethodName) prog_7_method_4_code (5 : Nat) (Option.some Jvm.ClassFile.FieldType.int)) ∈ dt := dt_r 564 (by decide +kernel) rfl
theorem tw_565 : (Jvm.Cond.methodLink "DemandedBitsLaw" (76 : Nat) ({ cls := "DemandedBitsModel", name := "constant", desc := "(I)I" } : Jvm.MethodName)) ∈ dt := dt_r 565 (by decide +kernel) rfl
theorem tw_566 : (Jvm.Cond.instanceMethod ({ cls := "DemandedBitsModel", name := "constant", desc := "(I)I" } : Jvm.MethodName)) ∈ dt := dt_r 566 (by decide +kernel) rfl
theorem tw_567 : (Jvm.Cond.selects "DemandedBitsModel" ({ cls := "DemandedBitsModel", name := "constant", desc := "(I)I" } : Jvm.MethodName) ({ cls := "DemandedBitsModel", name := "constant", desc := "(I)I" } : Jvm.MethodName)) ∈ dt := dt_r 567 (by decide +kernel) rfl
theorem tw_568 : (Jvm.Cond.code ({ cls := "DemandedBitsModel", name := "constant", desc := "(I)I" } : Jvm.MethodName) prog_7_method_6_code (2 : Nat) (Option.some Jvm.ClassFile.FieldType.int)) ∈ dt := dt_r 568 (by decide +kernel) rfl
theorem tw_569 : (Jvm.Cond.methodLink "DemandedBitsLaw" (80 : Nat) ({ cls := "DemandedBitsModel", name := "binary", desc := "(III)I" } : Jvm.MethodName)) ∈ dt := dt_r 569 (by decide +kernel) rfl
theorem tw_570 : (Jvm.Cond.instanceMethod ({ cls := "DemandedBitsModel", name := "binary", desc := "(III)I" } : Jvm.MethodName)) ∈ dt := dt_r 570 (by decide +kernel) rfl
theorem tw_571 : (Jvm.Cond.selects "DemandedBitsModel" ({ cls := "DemandedBitsModel", name := "binary", desc := "(III)I" } : Jvm.MethodName) ({ cls := "DemandedBitsModel", name := "binary", desc := "(III)I" } : Jvm.MethodName)) ∈ dt := dt_r 571 (by decide +kernel) rfl
theorem tw_572 : (Jvm.Cond.code ({ cls := "DemandedBitsModel", name := "binary", desc := "(III)I" } : Jvm.MethodName) prog_7_method_7_code (4 : Nat) (Option.some Jvm.ClassFile.FieldType.int)) ∈ dt := dt_r 572 (by decide +kernel) rfl
theorem tw_573 : (Jvm.Cond.methodLink "DemandedBitsModel" (61 : Nat) ({ cls := "DemandedBitsModel", name := "isValue", desc := "(I)Z" } : Jvm.MethodName)) ∈ dt := dt_r 573 (by decide +kernel) rfl
theorem tw_575 : (Jvm.Cond.instanceMethod ({ cls := "DemandedBitsModel", name := "isValue", desc := "(I)Z" } : Jvm.MethodName)) ∈ dt := dt_r 575 (by decide +kernel) rfl
theorem tw_576 : (Jvm.Cond.code ({ cls := "DemandedBitsModel", name := "isValue", desc := "(I)Z" } : Jvm.MethodName) prog_7_method_3_code (2 : Nat) (Option.some Jvm.ClassFile.FieldType.boolean)) ∈ dt := dt_r 576 (by decide +kernel) rfl
theorem tw_577 : (Jvm.Cond.methodLink "DemandedBitsLaw" (83 : Nat) ({ cls := "DemandedBitsModel", name := "shift", desc := "(III)I" } : Jvm.MethodName)) ∈ dt := dt_r 577 (by decide +kernel) rfl
theorem tw_578 : (Jvm.Cond.instanceMethod ({ cls := "DemandedBitsModel", name := "shift", desc := "(III)I" } : Jvm.MethodName)) ∈ dt := dt_r 578 (by decide +kernel) rfl
theorem tw_579 : (Jvm.Cond.selects "DemandedBitsModel" ({ cls := "DemandedBitsModel", name := "shift", desc := "(III)I" } : Jvm.MethodName) ({ cls := "DemandedBitsModel", name := "shift", desc := "(III)I" } : Jvm.MethodName)) ∈ dt := dt_r 579 (by decide +kernel) rfl
theorem tw_580 : (Jvm.Cond.code ({ cls := "DemandedBitsModel", name := "shift", desc := "(III)I" } : Jvm.MethodName) prog_7_method_8_code (5 : Nat) (Option.some Jvm.ClassFile.FieldType.int)) ∈ dt := dt_r 580 (by decide +kernel) rfl
theorem tw_581 : (Jvm.Cond.methodLink "DemandedBitsLaw" (87 : Nat) ({ cls := "DemandedBitsModel", name := "extend", desc := "(IZ)I" } : Jvm.MethodName)) ∈ dt := dt_r 581 (by decide +kernel) rfl
theorem tw_582 : (Jvm.Cond.instanceMethod ({ cls := "DemandedBitsModel", name := "extend", desc := "(IZ)I" } : Jvm.MethodName)) ∈ dt := dt_r 582 (by decide +kernel) rfl
theorem tw_583 : (Jvm.Cond.selects "DemandedBitsModel" ({ cls := "DemandedBitsModel", name := "extend", desc := "(IZ)I" } : Jvm.MethodName) ({ cls := "DemandedBitsModel", name := "extend", desc := "(IZ)I" } : Jvm.MethodName)) ∈ dt := dt_r 583 (by decide +kernel) rfl
theorem tw_584 : (Jvm.Cond.code ({ cls := "DemandedBitsModel", name := "extend", desc := "(IZ)I" } : Jvm.MethodName) prog_7_method_9_code (3 : Nat) (Option.some Jvm.ClassFile.FieldType.int)) ∈ dt := dt_r 584 (by decide +kernel) rfl
theorem tw_585 : (Jvm.Cond.methodLink "DemandedBitsLaw" (90 : Nat) ({ cls := "DemandedBitsModel", name := "loop", desc := "(I)I" } : Jvm.MethodName)) ∈ dt := dt_r 585 (by decide +kernel) rfl
theorem tw_586 : (Jvm.Cond.instanceMethod ({ cls := "DemandedBitsModel", name := "loop", desc := "(I)I" } : Jvm.MethodName)) ∈ dt := dt_r 586 (by decide +kernel) rfl
theorem tw_587 : (Jvm.Cond.selects "DemandedBitsModel" ({ cls := "DemandedBitsModel", name := "loop", desc := "(I)I" } : Jvm.MethodName) ({ cls := "DemandedBitsModel", name := "loop", desc := "(I)I" } : Jvm.MethodName)) ∈ dt := dt_r 587 (by decide +kernel) rfl
theorem tw_588 : (Jvm.Cond.code ({ cls := "DemandedBitsModel", name := "loop", desc := "(I)I" } : Jvm.MethodName) prog_7_method_10_code (2 : Nat) (Option.some Jvm.ClassFile.FieldType.int)) ∈ dt := dt_r 588 (by decide +kernel) rfl
theorem tw_589 : (Jvm.Cond.methodLink "DemandedBitsLaw" (94 : Nat) ({ cls := "DemandedBitsModel", name := "back", desc := "(II)V" } : Jvm.MethodName)) ∈ dt := dt_r 589 (by decide +kernel) rfl
theorem tw_590 : (Jvm.Cond.instanceMethod ({ cls := "DemandedBitsModel", name := "back", desc := "(II)V" } : Jvm.MethodName)) ∈ dt := dt_r 590 (by decide +kernel) rfl
theorem tw_591 : (Jvm.Cond.selects "DemandedBitsModel" ({ cls := "DemandedBitsModel", name := "back", desc := "(II)V" } : Jvm.MethodName) ({ cls := "DemandedBitsModel", name := "back", desc := "(II)V" } : Jvm.MethodName)) ∈ dt := dt_r 591 (by decide +kernel) rfl
theorem tw_592 : (Jvm.Cond.code ({ cls := "DemandedBitsModel", name := "back", desc := "(II)V" } : Jvm.MethodName) prog_7_method_11_code (3 : Nat) (Option.none : Option Jvm.ClassFile.FieldType)) ∈ dt := dt_r 592 (by decide +kernel) rfl
theorem tw_593 : (Jvm.Cond.methodLink "DemandedBitsLaw" (98 : Nat) ({ cls := "DemandedBitsModel", name := "result", desc := "(II)I" } : Jvm.MethodName)) ∈ dt := dt_r 593 (by decide +kernel) rfl
theorem tw_594 : (Jvm.Cond.instanceMethod ({ cls := "DemandedBitsModel", name := "result", desc := "(II)I" } : Jvm.MethodName)) ∈ dt := dt_r 594 (by decide +kernel) rfl
theorem tw_595 : (Jvm.Cond.selects "DemandedBitsModel" ({ cls := "DemandedBitsModel", name := "result", desc := "(II)I" } : Jvm.MethodName) ({ cls := "DemandedBitsModel", name := "result", desc := "(II)I" } : Jvm.MethodName)) ∈ dt := dt_r 595 (by decide +kernel) rfl
theorem tw_596 : (Jvm.Cond.code ({ cls := "DemandedBitsModel", name := "result", desc := "(II)I" } : Jvm.MethodName) prog_7_method_12_code (3 : Nat) (Option.some Jvm.ClassFile.FieldType.int)) ∈ dt := dt_r 596 (by decide +kernel) rfl
theorem tw_597 : (Jvm.Cond.methodLink "DemandedBitsLaw" (101 : Nat) ({ cls := "DemandedBitsModel", name := "bits", desc := "(II)I" } : Jvm.MethodName)) ∈ dt := dt_r 597 (by decide +kernel) rfl
theorem tw_598 : (Jvm.Cond.instanceMethod ({ cls := "DemandedBitsModel", name := "bits", desc := "(II)I" } : Jvm.MethodName)) ∈ dt := dt_r 598 (by decide +kernel) rfl
theorem tw_599 : (Jvm.Cond.selects "DemandedBitsModel" ({ cls := "DemandedBitsModel", name := "bits", desc := "(II)I" } : Jvm.MethodName) ({ cls := "DemandedBitsModel", name := "bits", desc := "(II)I" } : Jvm.MethodName)) ∈ dt := dt_r 599 (by decide +kernel) rfl
theorem tw_600 : (Jvm.Cond.code ({ cls := "DemandedBitsModel", name := "bits", desc := "(II)I" } : Jvm.MethodName) prog_7_method_35_code (3 : Nat) (Option.some Jvm.ClassFile.FieldType.int)) ∈ dt := dt_r 600 (by decide +kernel) rfl
theorem tw_601 : (Jvm.Cond.methodLink "DemandedBitsModel" (138 : Nat) ({ cls := "DemandedBitsModel", name := "analyse", desc := "()V" } : Jvm.MethodName)) ∈ dt := dt_r 601 (by decide +kernel) rfl
theorem tw_603 : (Jvm.Cond.instanceMethod ({ cls := "DemandedBitsModel", name := "analyse", desc := "()V" } : Jvm.MethodName)) ∈ dt := dt_r 603 (by decide +kernel) rfl
theorem tw_604 : (Jvm.Cond.code ({ cls := "DemandedBitsModel", name := "analyse", desc := "()V" } : Jvm.MethodName) prog_7_method_32_code (2 : Nat) (Option.none : Option Jvm.ClassFile.FieldType)) ∈ dt := dt_r 604 (by decide +kernel) rfl
theorem tw_605 : (Jvm.Cond.methodLink "DemandedBitsModel" (128 : Nat) ({ cls := "DemandedBitsModel", name := "learnAll", desc := "()V" } : Jvm.MethodName)) ∈ dt := dt_r 605 (by decide +kernel) rfl
theorem tw_607 : (Jvm.Cond.instanceMethod ({ cls := "DemandedBitsModel", name := "learnAll", desc := "()V" } : Jvm.MethodName)) ∈ dt := dt_r 607 (by decide +kernel) rfl
theorem tw_608 : (Jvm.Cond.code ({ cls := "DemandedBitsModel", name := "learnAll", desc := "()V" } : Jvm.MethodName) prog_7_method_22_code (6 : Nat) (Option.none : Option Jvm.ClassFile.FieldType)) ∈ dt := dt_r 608 (by decide +kernel) rfl
theorem tw_609 : (Jvm.Cond.methodLink "DemandedBitsModel" (97 : Nat) ({ cls := "DemandedBitsModel", name := "learn", desc := "(I)V" } : Jvm.MethodName)) ∈ dt := dt_r 609 (by decide +kernel) rfl
theorem tw_611 : (Jvm.Cond.instanceMethod ({ cls := "DemandedBitsModel", name := "learn", desc := "(I)V" } : Jvm.MethodName)) ∈ dt := dt_r 611 (by decide +kernel) rfl
theorem tw_612 : (Jvm.Cond.code ({ cls := "DemandedBitsModel", name := "learn", desc := "(I)V" } : Jvm.MethodName) prog_7_method_21_code (6 : Nat) (Option.none : Option Jvm.ClassFile.FieldType)) ∈ dt := dt_r 612 (by decide +kernel) rfl
theorem tw_613 : (Jvm.Cond.methodLink "DemandedBitsModel" (83 : Nat) ({ cls := "DemandedBitsModel", name := "add", desc := "(IZ)V" } : Jvm.MethodName)) ∈ dt := dt_r 613 (by decide +kernel) rfl
theorem tw_615 : (Jvm.Cond.instanceMethod ({ cls := "DemandedBitsModel", name := "add", desc := "(IZ)V" } : Jvm.MethodName)) ∈ dt := dt_r 615 (by decide +kernel) rfl
theorem tw_616 : (Jvm.Cond.code ({ cls := "DemandedBitsModel", name := "add", desc := "(IZ)V" } : Jvm.MethodName) prog_7_method_18_code (7 : Nat) (Option.none : Option Jvm.ClassFile.FieldType)) ∈ dt := dt_r 616 (by decide +kernel) rfl
theorem tw_617 : (Jvm.Cond.methodLink "DemandedBitsModel" (68 : Nat) ({ cls := "DemandedBitsModel", name := "turned", desc := "(I)I" } : Jvm.MethodName)) ∈ dt := dt_r 617 (by decide +kernel) rfl
theorem tw_618 : (Jvm.Cond.static ({ cls := "DemandedBitsModel", name := "turned", desc := "(I)I" } : Jvm.MethodName)) ∈ dt := dt_r 618 (by decide +kernel) rfl
theorem tw_619 : (Jvm.Cond.code ({ cls := "DemandedBitsModel", name := "turned", desc := "(I)I" } : Jvm.MethodName) prog_7_method_16_code (1 : Nat) (Option.some Jvm.ClassFile.FieldType.int)) ∈ dt := dt_r 619 (by decide +kernel) rfl
theorem tw_620 : (Jvm.Cond.methodLink "DemandedBitsModel" (72 : Nat) ({ cls := "DemandedBitsModel", name := "sum", desc := "(III)I" } : Jvm.MethodName)) ∈ dt := dt_r 620 (by decide +kernel) rfl
theorem tw_621 : (Jvm.Cond.static ({ cls := "DemandedBitsModel", name := "sum", desc := "(III)I" } : Jvm.MethodName)) ∈ dt := dt_r 621 (by decide +kernel) rfl
theorem tw_622 : (Jvm.Cond.code ({ cls := "DemandedBitsModel", name := "sum", desc := "(III)I" } : Jvm.MethodName) prog_7_method_14_code (3 : Nat) (Option.some Jvm.ClassFile.FieldType.int)) ∈ dt := dt_r 622 (by decide +kernel) rfl
theorem tw_623 : (Jvm.Cond.methodLink "DemandedBitsModel" (76 : Nat) ({ cls := "DemandedBitsModel", name := "carry", desc := "(III)I" } : Jvm.MethodName)) ∈ dt := dt_r 623 (by decide +kernel) rfl
theorem tw_624 : (Jvm.Cond.static ({ cls := "DemandedBitsModel", name := "carry", desc := "(III)I" } : Jvm.MethodName)) ∈ dt := dt_r 624 (by decide +kernel) rfl
theorem tw_625 : (Jvm.Cond.code ({ cls := "DemandedBitsModel", name := "carry", desc := "(III)I" } : Jvm.MethodName) prog_7_method_15_code (5 : Nat) (Option.some Jvm.ClassFile.FieldType.int)) ∈ dt := dt_r 625 (by decide +kernel) rfl
theorem tw_626 : (Jvm.Cond.methodLink "DemandedBitsModel" (87 : Nat) ({ cls := "DemandedBitsModel", name := "multiply", desc := "(I)V" } : Jvm.MethodName)) ∈ dt := dt_r 626 (by decide +kernel) rfl
theorem tw_628 : (Jvm.Cond.instanceMethod ({ cls := "DemandedBitsModel", name := "multiply", desc := "(I)V" } : Jvm.MethodName)) ∈ dt := dt_r 628 (by decide +kernel) rfl
theorem tw_629 : (Jvm.Cond.code ({ cls := "DemandedBitsModel", name := "multiply", desc := "(I)V" } : Jvm.MethodName) prog_7_method_19_code (9 : Nat) (Option.none : Option Jvm.ClassFile.FieldType)) ∈ dt := dt_r 629 (by decide +kernel) rfl
theorem tw_630 : (Jvm.Cond.methodLink "DemandedBitsModel" (79 : Nat) ({ cls := "DemandedBitsModel", name := "bit", desc := "(II)I" } : Jvm.MethodName)) ∈ dt := dt_r 630 (by decide +kernel) rfl
theorem tw_631 : (Jvm.Cond.static ({ cls := "DemandedBitsModel", name := "bit", desc := "(II)I" } : Jvm.MethodName)) ∈ dt := dt_r 631 (by decide +kernel) rfl
theorem tw_632 : (Jvm.Cond.code ({ cls := "DemandedBitsModel", name := "bit", desc := "(II)I" } : Jvm.MethodName) prog_7_method_13_code (2 : Nat) (Option.some Jvm.ClassFile.FieldType.int)) ∈ dt := dt_r 632 (by decide +kernel) rfl
theorem tw_633 : (Jvm.Cond.methodLink "DemandedBitsModel" (91 : Nat) ({ cls := "DemandedBitsModel", name := "and", desc := "(II)I" } : Jvm.MethodName)) ∈ dt := dt_r 633 (by decide +kernel) rfl
theorem tw_634 : (Jvm.Cond.static ({ cls := "DemandedBitsModel", name := "and", desc := "(II)I" } : Jvm.MethodName)) ∈ dt := dt_r 634 (by decide +kernel) rfl
theorem tw_635 : (Jvm.Cond.code ({ cls := "DemandedBitsModel", name := "and", desc := "(II)I" } : Jvm.MethodName) prog_7_method_17_code (2 : Nat) (Option.some Jvm.ClassFile.FieldType.int)) ∈ dt := dt_r 635 (by decide +kernel) rfl
theorem tw_636 : (Jvm.Cond.methodLink "DemandedBitsModel" (94 : Nat) ({ cls := "DemandedBitsModel", name := "from", desc := "(II)I" } : Jvm.MethodName)) ∈ dt := dt_r 636 (by decide +kernel) rfl
theorem tw_638 : (Jvm.Cond.instanceMethod ({ cls := "DemandedBitsModel", name := "from", desc := "(II)I" } : Jvm.MethodName)) ∈ dt := dt_r 638 (by decide +kernel) rfl
theorem tw_639 : (Jvm.Cond.code ({ cls := "DemandedBitsModel", name := "from", desc := "(II)I" } : Jvm.MethodName) prog_7_method_20_code (5 : Nat) (Option.some Jvm.ClassFile.FieldType.int)) ∈ dt := dt_r 639 (by decide +kernel) rfl
theorem tw_640 : (Jvm.Cond.methodLink "DemandedBitsModel" (131 : Nat) ({ cls := "DemandedBitsModel", name := "demand", desc := "([ZZ)V" } : Jvm.MethodName)) ∈ dt := dt_r 640 (by decide +kernel) rfl
theorem tw_642 : (Jvm.Cond.instanceMethod ({ cls := "DemandedBitsModel", name := "demand", desc := "([ZZ)V" } : Jvm.MethodName)) ∈ dt := dt_r 642 (by decide +kernel) rfl
theorem tw_643 : (Jvm.Cond.code ({ cls := "DemandedBitsModel", name := "demand", desc := "([ZZ)V" } : Jvm.MethodName) prog_7_method_27_code (5 : Nat) (Option.none : Option Jvm.ClassFile.FieldType)) ∈ dt := dt_r 643 (by decide +kernel) rfl
theorem tw_644 : (Jvm.Cond.methodLink "DemandedBitsModel" (103 : Nat) ({ cls := "DemandedBitsModel", name := "want", desc := "([ZII)V" } : Jvm.MethodName)) ∈ dt := dt_r 644 (by decide +kernel) rfl
theorem tw_646 : (Jvm.Cond.instanceMethod ({ cls := "DemandedBitsModel", name := "want", desc := "([ZII)V" } : Jvm.MethodName)) ∈ dt := dt_r 646 (by decide +kernel) rfl
theorem tw_647 : (Jvm.Cond.code ({ cls := "DemandedBitsModel", name := "want", desc := "([ZII)V" } : Jvm.MethodName) prog_7_method_23_code (4 : Nat) (Option.none : Option Jvm.ClassFile.FieldType)) ∈ dt := dt_r 647 (by decide +kernel) rfl
theorem tw_648 : (Jvm.Cond.methodLink "DemandedBitsModel" (114 : Nat) ({ cls := "DemandedBitsModel", name := "ask", desc := "([ZII)V" } : Jvm.MethodName)) ∈ dt := dt_r 648 (by decide +kernel) rfl
theorem tw_650 : (Jvm.Cond.instanceMethod ({ cls := "DemandedBitsModel", name := "ask", desc := "([ZII)V" } : Jvm.MethodName)) ∈ dt := dt_r 650 (by decide +kernel) rfl
theorem tw_651 : (Jvm.Cond.code ({ cls := "DemandedBitsModel", name := "ask", desc := "([ZII)V" } : Jvm.MethodName) prog_7_method_25_code (6 : Nat) (Option.none : Option Jvm.ClassFile.FieldType)) ∈ dt := dt_r 651 (by decide +kernel) rfl
theorem tw_652 : (Jvm.Cond.methodLink "DemandedBitsModel" (107 : Nat) ({ cls := "DemandedBitsModel", name := "wantUpTo", desc := "([ZII)V" } : Jvm.MethodName)) ∈ dt := dt_r 652 (by decide +kernel) rfl
theorem tw_654 : (Jvm.Cond.instanceMethod ({ cls := "DemandedBitsModel", name := "wantUpTo", desc := "([ZII)V" } : Jvm.MethodName)) ∈ dt := dt_r 654 (by decide +kernel) rfl
theorem tw_655 : (Jvm.Cond.code ({ cls := "DemandedBitsModel", name := "wantUpTo", desc := "([ZII)V" } : Jvm.MethodName) prog_7_method_24_code (5 : Nat) (Option.none : Option Jvm.ClassFile.FieldType)) ∈ dt := dt_r 655 (by decide +kernel) rfl
theorem tw_656 : (Jvm.Cond.methodLink "DemandedBitsModel" (110 : Nat) ({ cls := "DemandedBitsModel", name := "askWith", desc := "([ZIIII)V" } : Jvm.MethodName)) ∈ dt := dt_r 656 (by decide +kernel) rfl
theorem tw_658 : (Jvm.Cond.instanceMethod ({ cls := "DemandedBitsModel", name := "askWith", desc := "([ZIIII)V" } : Jvm.MethodName)) ∈ dt := dt_r 658 (by decide +kernel) rfl
theorem tw_659 : (Jvm.Cond.code ({ cls := "DemandedBitsModel", name := "askWith", desc := "([ZIIII)V" } : Jvm.MethodName) prog_7_method_26_code (8 : Nat) (Option.none : Option Jvm.ClassFile.FieldType)) ∈ dt := dt_r 659 (by decide +kernel) rfl
theorem tw_660 : (Jvm.Cond.methodLink "DemandedBitsModel" (135 : Nat) ({ cls := "DemandedBitsModel", name := "replacement", desc := "(I)I" } : Jvm.MethodName)) ∈ dt := dt_r 660 (by decide +kernel) rfl
theorem tw_662 : (Jvm.Cond.instanceMethod ({ cls := "DemandedBitsModel", name := "replacement", desc := "(I)I" } : Jvm.MethodName)) ∈ dt := dt_r 662 (by decide +kernel) rfl
theorem tw_663 : (Jvm.Cond.code ({ cls := "DemandedBitsModel", name := "replacement", desc := "(I)I" } : Jvm.MethodName) prog_7_method_31_code (4 : Nat) (Option.some Jvm.ClassFile.FieldType.int)) ∈ dt := dt_r 663 (by decide +kernel) rfl
theorem tw_664 : (Jvm.Cond.methodLink "DemandedBitsModel" (117 : Nat) ({ cls := "DemandedBitsModel", name := "isKnown", desc := "(I)Z" } : Jvm.MethodName)) ∈ dt := dt_r 664 (by decide +kernel) rfl
theorem tw_666 : (Jvm.Cond.instanceMethod ({ cls := "DemandedBitsModel", name := "isKnown", desc := "(I)Z" } : Jvm.MethodName)) ∈ dt := dt_r 666 (by decide +kernel) rfl
theorem tw_667 : (Jvm.Cond.code ({ cls := "DemandedBitsModel", name := "isKnown", desc := "(I)Z" } : Jvm.MethodName) prog_7_method_29_code (4 : Nat) (Option.some Jvm.ClassFile.FieldType.boolean)) ∈ dt := dt_r 667 (by decide +kernel) rfl
theorem tw_668 : (Jvm.Cond.methodLink "DemandedBitsModel" (120 : Nat) ({ cls := "DemandedBitsModel", name := "areIn", desc := "(IIIZ)Z" } : Jvm.MethodName)) ∈ dt := dt_r 668 (by decide +kernel) rfl
theorem tw_670 : (Jvm.Cond.instanceMethod ({ cls := "DemandedBitsModel", name := "areIn", desc := "(IIIZ)Z" } : Jvm.MethodName)) ∈ dt := dt_r 670 (by decide +kernel) rfl
theorem tw_671 : (Jvm.Cond.code ({ cls := "DemandedBitsModel", name := "areIn", desc := "(IIIZ)Z" } : Jvm.MethodName) prog_7_method_28_code (8 : Nat) (Option.some Jvm.ClassFile.FieldType.boolean)) ∈ dt := dt_r 671 (by decide +kernel) rfl
theorem tw_672 : (Jvm.Cond.methodLink "DemandedBitsModel" (124 : Nat) ({ cls := "DemandedBitsModel", name := "isNarrow", desc := "(II)Z" } : Jvm.MethodName)) ∈ dt := dt_r 672 (by decide +kernel) rfl
theorem tw_674 : (Jvm.Cond.instanceMethod ({ cls := "DemandedBitsModel", name := "isNarrow", desc := "(II)Z" } : Jvm.MethodName)) ∈ dt := dt_r 674 (by decide +kernel) rfl
theorem tw_675 : (Jvm.Cond.code ({ cls := "DemandedBitsModel", name := "isNarrow", desc := "(II)Z" } : Jvm.MethodName) prog_7_method_30_code (5 : Nat) (Option.some Jvm.ClassFile.FieldType.boolean)) ∈ dt := dt_r 675 (by decide +kernel) rfl
theorem tw_676 : (Jvm.Cond.methodLink "DemandedBitsModel" (141 : Nat) ({ cls := "DemandedBitsModel", name := "known", desc := "(II)I" } : Jvm.MethodName)) ∈ dt := dt_r 676 (by decide +kernel) rfl
theorem tw_678 : (Jvm.Cond.instanceMethod ({ cls := "DemandedBitsModel", name := "known", desc := "(II)I" } : Jvm.MethodName)) ∈ dt := dt_r 678 (by decide +kernel) rfl
theorem tw_679 : (Jvm.Cond.code ({ cls := "DemandedBitsModel", name := "known", desc := "(II)I" } : Jvm.MethodName) prog_7_method_34_code (5 : Nat) (Option.some Jvm.ClassFile.FieldType.int)) ∈ dt := dt_r 679 (by decide +kernel) rfl
theorem tw_680 : (Jvm.Cond.methodLink "DemandedBitsModel" (144 : Nat) ({ cls := "DemandedBitsModel", name := "word", desc := "([ZI)I" } : Jvm.MethodName)) ∈ dt := dt_r 680 (by decide +kernel) rfl
theorem tw_682 : (Jvm.Cond.instanceMethod ({ cls := "DemandedBitsModel", name := "word", desc := "([ZI)I" } : Jvm.MethodName)) ∈ dt := dt_r 682 (by decide +kernel) rfl
theorem tw_683 : (Jvm.Cond.code ({ cls := "DemandedBitsModel", name := "word", desc := "([ZI)I" } : Jvm.MethodName) prog_7_method_33_code (5 : Nat) (Option.some Jvm.ClassFile.FieldType.int)) ∈ dt := dt_r 683 (by decide +kernel) rfl
theorem tw_684 : (Jvm.Cond.methodLink "DemandedBitsLaw" (104 : Nat) ({ cls := "DemandedBitsModel", name := "replaced", desc := "(I)I" } : Jvm.MethodName)) ∈ dt := dt_r 684 (by decide +kernel) rfl
theorem tw_685 : (Jvm.Cond.instanceMethod ({ cls := "DemandedBitsModel", name := "replaced", desc := "(I)I" } : Jvm.MethodName)) ∈ dt := dt_r 685 (by decide +kernel) rfl
theorem tw_686 : (Jvm.Cond.selects "DemandedBitsModel" ({ cls := "DemandedBitsModel", name := "replaced", desc := "(I)I" } : Jvm.MethodName) ({ cls := "DemandedBitsModel", name := "replaced", desc := "(I)I" } : Jvm.MethodName)) ∈ dt := dt_r 686 (by decide +kernel) rfl
theorem tw_687 : (Jvm.Cond.code ({ cls := "DemandedBitsModel", name := "replaced", desc := "(I)I" } : Jvm.MethodName) prog_7_method_36_code (2 : Nat) (Option.some Jvm.ClassFile.FieldType.int)) ∈ dt := dt_r 687 (by decide +kernel) rfl
theorem tw_688 : (Jvm.Cond.methodLink "DemandedBitsLaw" (108 : Nat) ({ cls := "DemandedBitsModel", name := "live", desc := "()I" } : Jvm.MethodName)) ∈ dt := dt_r 688 (by decide +kernel) rfl
theorem tw_689 : (Jvm.Cond.instanceMethod ({ cls := "DemandedBitsModel", name := "live", desc := "()I" } : Jvm.MethodName)) ∈ dt := dt_r 689 (by decide +kernel) rfl
theorem tw_690 : (Jvm.Cond.selects "DemandedBitsModel" ({ cls := "DemandedBitsModel", name := "live", desc := "()I" } : Jvm.MethodName) ({ cls := "DemandedBitsModel", name := "live", desc := "()I" } : Jvm.MethodName)) ∈ dt := dt_r 690 (by decide +kernel) rfl
theorem tw_691 : (Jvm.Cond.code ({ cls := "DemandedBitsModel", name := "live", desc := "()I" } : Jvm.MethodName) prog_7_method_37_code (3 : Nat) (Option.some Jvm.ClassFile.FieldType.int)) ∈ dt := dt_r 691 (by decide +kernel) rfl
theorem tw_692 : (Jvm.Cond.methodLink "DemandedBitsLaw" (112 : Nat) ({ cls := "DemandedBitsModel", name := "run", desc := "(IIII)I" } : Jvm.MethodName)) ∈ dt := dt_r 692 (by decide +kernel) rfl
theorem tw_693 : (Jvm.Cond.instanceMethod ({ cls := "DemandedBitsModel", name := "run", desc := "(IIII)I" } : Jvm.MethodName)) ∈ dt := dt_r 693 (by decide +kernel) rfl
theorem tw_694 : (Jvm.Cond.selects "DemandedBitsModel" ({ cls := "DemandedBitsModel", name := "run", desc := "(IIII)I" } : Jvm.MethodName) ({ cls := "DemandedBitsModel", name := "run", desc := "(IIII)I" } : Jvm.MethodName)) ∈ dt := dt_r 694 (by decide +kernel) rfl
theorem tw_695 : (Jvm.Cond.code ({ cls := "DemandedBitsModel", name := "run", desc := "(IIII)I" } : Jvm.MethodName) prog_7_method_40_code (7 : Nat) (Option.some Jvm.ClassFile.FieldType.int)) ∈ dt := dt_r 695 (by decide +kernel) rfl
theorem tw_696 : (Jvm.Cond.methodLink "DemandedBitsModel" (152 : Nat) ({ cls := "DemandedBitsModel", name := "runOne", desc := "([IZIIII)V" } : Jvm.MethodName)) ∈ dt := dt_r 696 (by decide +kernel) rfl
theorem tw_698 : (Jvm.Cond.instanceMethod ({ cls := "DemandedBitsModel", name := "runOne", desc := "([IZIIII)V" } : Jvm.MethodName)) ∈ dt := dt_r 698 (by decide +kernel) rfl
theorem tw_699 : (Jvm.Cond.code ({ cls := "DemandedBitsModel", name := "runOne", desc := "([IZIIII)V" } : Jvm.MethodName) prog_7_method_39_code (9 : Nat) (Option.none : Option Jvm.ClassFile.FieldType)) ∈ dt := dt_r 699 (by decide +kernel) rfl
theorem tw_700 : (Jvm.Cond.methodLink "DemandedBitsModel" (148 : Nat) ({ cls := "DemandedBitsModel", name := "reckon", desc := "(I[I)I" } : Jvm.MethodName)) ∈ dt := dt_r 700 (by decide +kernel) rfl
theorem tw_702 : (Jvm.Cond.instanceMethod ({ cls := "DemandedBitsModel", name := "reckon", desc := "(I[I)I" } : Jvm.MethodName)) ∈ dt := dt_r 702 (by decide +kernel) rfl
theorem tw_703 : (Jvm.Cond.code ({ cls := "DemandedBitsModel", name := "reckon", desc := "(I[I)I" } : Jvm.MethodName) prog_7_method_38_code (5 : Nat) (Option.some Jvm.ClassFile.FieldType.int)) ∈ dt := dt_r 703 (by decide +kernel) rfl
theorem tw_704 : (Jvm.Cond.methodLink "DemandedBitsLaw" (115 : Nat) ({ cls := "DemandedBitsModel", name := "observed", desc := "(IZ)I" } : Jvm.MethodName)) ∈ dt := dt_r 704 (by decide +kernel) rfl
theorem tw_705 : (Jvm.Cond.instanceMethod ({ cls := "DemandedBitsModel", name := "observed", desc := "(IZ)I" } : Jvm.MethodName)) ∈ dt := dt_r 705 (by decide +kernel) rfl
theorem tw_706 : (Jvm.Cond.selects "DemandedBitsModel" ({ cls := "DemandedBitsModel", name := "observed", desc := "(IZ)I" } : Jvm.MethodName) ({ cls := "DemandedBitsModel", name := "observed", desc := "(IZ)I" } : Jvm.MethodName)) ∈ dt := dt_r 706 (by decide +kernel) rfl
theorem tw_707 : (Jvm.Cond.code ({ cls := "DemandedBitsModel", name := "observed", desc := "(IZ)I" } : Jvm.MethodName) prog_7_method_41_code (3 : Nat) (Option.some Jvm.ClassFile.FieldType.int)) ∈ dt := dt_r 707 (by decide +kernel) rfl
theorem tw_708 : (Jvm.Cond.methodLink "DemandedBitsLaw" (118 : Nat) ({ cls := "DemandedBitsModel", name := "value", desc := "(IZ)I" } : Jvm.MethodName)) ∈ dt := dt_r 708 (by decide +kernel) rfl
theorem tw_709 : (Jvm.Cond.instanceMethod ({ cls := "DemandedBitsModel", name := "value", desc := "(IZ)I" } : Jvm.MethodName)) ∈ dt := dt_r 709 (by decide +kernel) rfl
theorem tw_710 : (Jvm.Cond.selects "DemandedBitsModel" ({ cls := "DemandedBitsModel", name := "value", desc := "(IZ)I" } : Jvm.MethodName) ({ cls := "DemandedBitsModel", name := "value", desc := "(IZ)I" } : Jvm.MethodName)) ∈ dt := dt_r 710 (by decide +kernel) rfl
theorem tw_711 : (Jvm.Cond.code ({ cls := "DemandedBitsModel", name := "value", desc := "(IZ)I" } : Jvm.MethodName) prog_7_method_42_code (3 : Nat) (Option.some Jvm.ClassFile.FieldType.int)) ∈ dt := dt_r 711 (by decide +kernel) rfl
theorem tw_712 : (Jvm.Cond.arrayClass Jvm.ClassFile.FieldType.long) ∈ dt := dt_r 712 (by decide +kernel) rfl
