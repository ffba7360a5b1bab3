abbrev R_CO : String := "SlitWidths$Coil"
def F_CO : u_T := fun k => match k with
  | 0 => ("SlitWidths$Coil", "width", "I", false)
  | 1 => ("SlitWidths$Coil", "kilos", "I", false)
  | 2 => ("SlitWidths$Coil", "trim", "I", false)
  | 3 => ("SlitWidths$Coil", "kerf", "I", false)
  | _ => ("SlitWidths$Coil", "knives", "I", false)
def t_CO : Nat → FieldType := fun k => match k with
  | 0 => .int
  | 1 => .int
  | 2 => .int
  | 3 => .int
  | _ => .int
theorem n_CO : ∀ a, a < 5 → ∀ b, b < 5 → a ≠ b → (F_CO a).2.1 ≠ (F_CO b).2.1 := by decide +kernel
theorem t_CO_ok : ∀ k, k < 5 → parseFieldDescriptor (F_CO k).2.2.1 = some (t_CO k) := by decide +kernel
abbrev R_DE : String := "SlitWidths$Defects"
def F_DE : u_T := fun k => match k with
  | 0 => ("SlitWidths$Defects", "froms", "[I", true)
  | 1 => ("SlitWidths$Defects", "tos", "[I", true)
  | _ => ("SlitWidths$Defects", "count", "I", false)
def t_DE : Nat → FieldType := fun k => match k with
  | 0 => .array .int
  | 1 => .array .int
  | _ => .int
theorem n_DE : ∀ a, a < 3 → ∀ b, b < 3 → a ≠ b → (F_DE a).2.1 ≠ (F_DE b).2.1 := by decide +kernel
theorem t_DE_ok : ∀ k, k < 3 → parseFieldDescriptor (F_DE k).2.2.1 = some (t_DE k) := by decide +kernel
abbrev R_PS : String := "SlitWidths$PatternSearch"
def F_PS : u_T := fun k => match k with
  | 0 => ("SlitWidths$PatternSearch", "bestCounts", "[I", true)
  | 1 => ("SlitWidths$PatternSearch", "bestStrips", "I", false)
  | 2 => ("SlitWidths$PatternSearch", "bestFill", "I", false)
  | 3 => ("SlitWidths$PatternSearch", "known", "Z", false)
  | 4 => ("SlitWidths$PatternSearch", "pitches", "[I", true)
  | 5 => ("SlitWidths$PatternSearch", "pitchesFrom", "[I", true)
  | 6 => ("SlitWidths$PatternSearch", "counts", "[I", true)
  | 7 => ("SlitWidths$PatternSearch", "room", "I", false)
  | 8 => ("SlitWidths$PatternSearch", "mostStrips", "I", false)
  | _ => ("SlitWidths$PatternSearch", "bestSum", "I", false)
def t_PS : Nat → FieldType := fun k => match k with
  | 0 => .array .int
  | 1 => .int
  | 2 => .int
  | 3 => .boolean
  | 4 => .array .int
  | 5 => .array .int
  | 6 => .array .int
  | 7 => .int
  | 8 => .int
  | _ => .int
theorem n_PS : ∀ a, a < 10 → ∀ b, b < 10 → a ≠ b → (F_PS a).2.1 ≠ (F_PS b).2.1 := by decide +kernel
theorem t_PS_ok : ∀ k, k < 10 → parseFieldDescriptor (F_PS k).2.2.1 = some (t_PS k) := by decide +kernel
abbrev R_SQ : String := "SlitWidths$Sequence"
def F_SQ : u_T := fun k => match k with
  | 0 => ("SlitWidths$Sequence", "numbers", "[I", true)
  | 1 => ("SlitWidths$Sequence", "total", "I", false)
  | 2 => ("SlitWidths$Sequence", "known", "Z", false)
  | 3 => ("SlitWidths$Sequence", "steps", "[I", true)
  | _ => ("SlitWidths$Sequence", "fewest", "[I", true)
def t_SQ : Nat → FieldType := fun k => match k with
  | 0 => .array .int
  | 1 => .int
  | 2 => .boolean
  | 3 => .array .int
  | _ => .array .int
theorem n_SQ : ∀ a, a < 5 → ∀ b, b < 5 → a ≠ b → (F_SQ a).2.1 ≠ (F_SQ b).2.1 := by decide +kernel
theorem t_SQ_ok : ∀ k, k < 5 → parseFieldDescriptor (F_SQ k).2.2.1 = some (t_SQ k) := by decide +kernel
abbrev R_SU : String := "SlitWidths$SetUp"
def F_SU : u_T := fun k => match k with
  | 0 => ("SlitWidths$SetUp", "numbers", "[I", true)
  | 1 => ("SlitWidths$SetUp", "begins", "[I", true)
  | 2 => ("SlitWidths$SetUp", "ends", "[I", true)
  | 3 => ("SlitWidths$SetUp", "stripCount", "I", false)
  | 4 => ("SlitWidths$SetUp", "left", "I", false)
  | 5 => ("SlitWidths$SetUp", "knifePlaces", "[I", true)
  | 6 => ("SlitWidths$SetUp", "knifeCount", "I", false)
  | 7 => ("SlitWidths$SetUp", "width", "I", false)
  | 8 => ("SlitWidths$SetUp", "kilos", "I", false)
  | 9 => ("SlitWidths$SetUp", "trim", "I", false)
  | _ => ("SlitWidths$SetUp", "span", "I", false)
def t_SU : Nat → FieldType := fun k => match k with
  | 0 => .array .int
  | 1 => .array .int
  | 2 => .array .int
  | 3 => .int
  | 4 => .int
  | 5 => .array .int
  | 6 => .int
  | 7 => .int
  | 8 => .int
  | 9 => .int
  | _ => .int
theorem n_SU : ∀ a, a < 11 → ∀ b, b < 11 → a ≠ b → (F_SU a).2.1 ≠ (F_SU b).2.1 := by decide +kernel
theorem t_SU_ok : ∀ k, k < 11 → parseFieldDescriptor (F_SU k).2.2.1 = some (t_SU k) := by decide +kernel
abbrev R_WI : String := "SlitWidths$Wishes"
def F_WI : u_T := fun k => match k with
  | 0 => ("SlitWidths$Wishes", "widths", "[I", true)
  | 1 => ("SlitWidths$Wishes", "still", "[I", true)
  | _ => ("SlitWidths$Wishes", "count", "I", false)
def t_WI : Nat → FieldType := fun k => match k with
  | 0 => .array .int
  | 1 => .array .int
  | _ => .int
theorem n_WI : ∀ a, a < 3 → ∀ b, b < 3 → a ≠ b → (F_WI a).2.1 ≠ (F_WI b).2.1 := by decide +kernel
theorem t_WI_ok : ∀ k, k < 3 → parseFieldDescriptor (F_WI k).2.2.1 = some (t_WI k) := by decide +kernel
abbrev R_SW : String := "SlitWidths"
def F_SW : u_T := fun k => match k with
  | 0 => ("SlitWidths", "nextCoil", "LSlitWidths$Coil;", true)
  | 1 => ("SlitWidths", "wishes", "LSlitWidths$Wishes;", true)
  | 2 => ("SlitWidths", "search", "LSlitWidths$PatternSearch;", true)
  | 3 => ("SlitWidths", "defects", "LSlitWidths$Defects;", true)
  | 4 => ("SlitWidths", "sequence", "LSlitWidths$Sequence;", true)
  | 5 => ("SlitWidths", "setUps", "[LSlitWidths$SetUp;", true)
  | _ => ("SlitWidths", "setUpCount", "I", false)
def t_SW : Nat → FieldType := fun k => match k with
  | 0 => .object "SlitWidths$Coil"
  | 1 => .object "SlitWidths$Wishes"
  | 2 => .object "SlitWidths$PatternSearch"
  | 3 => .object "SlitWidths$Defects"
  | 4 => .object "SlitWidths$Sequence"
  | 5 => .array (.object "SlitWidths$SetUp")
  | _ => .int
theorem n_SW : ∀ a, a < 7 → ∀ b, b < 7 → a ≠ b → (F_SW a).2.1 ≠ (F_SW b).2.1 := by decide +kernel
theorem t_SW_ok : ∀ k, k < 7 → parseFieldDescriptor (F_SW k).2.2.1 = some (t_SW k) := by decide +kernel
abbrev R_MO : String := "SlitWidthsModel"
def F_MO : u_T := fun k => match k with
  | 0 => ("SlitWidthsModel", "thrown", "I", false)
  | 1 => ("SlitWidthsModel", "width", "I", false)
  | 2 => ("SlitWidthsModel", "kilos", "I", false)
  | 3 => ("SlitWidthsModel", "trim", "I", false)
  | 4 => ("SlitWidthsModel", "kerf", "I", false)
  | 5 => ("SlitWidthsModel", "knives", "I", false)
  | 6 => ("SlitWidthsModel", "wants", "I", false)
  | 7 => ("SlitWidthsModel", "wantWidth", "[I", true)
  | 8 => ("SlitWidthsModel", "wanted", "[I", true)
  | 9 => ("SlitWidthsModel", "now", "[I", true)
  | 10 => ("SlitWidthsModel", "best", "[I", true)
  | 11 => ("SlitWidthsModel", "setups", "I", false)
  | 12 => ("SlitWidthsModel", "setWidth", "[I", true)
  | 13 => ("SlitWidthsModel", "setKilos", "[I", true)
  | 14 => ("SlitWidthsModel", "setTrim", "[I", true)
  | 15 => ("SlitWidthsModel", "setKerf", "[I", true)
  | 16 => ("SlitWidthsModel", "setLeft", "[I", true)
  | 17 => ("SlitWidthsModel", "setStrips", "[I", true)
  | 18 => ("SlitWidthsModel", "defects", "I", false)
  | 19 => ("SlitWidthsModel", "defectFrom", "[I", true)
  | 20 => ("SlitWidthsModel", "defectTo", "[I", true)
  | 21 => ("SlitWidthsModel", "rest", "[I", true)
  | _ => ("SlitWidthsModel", "moved", "[I", true)
def t_MO : Nat → FieldType := fun k => match k with
  | 0 => .int
  | 1 => .int
  | 2 => .int
  | 3 => .int
  | 4 => .int
  | 5 => .int
  | 6 => .int
  | 7 => .array .int
  | 8 => .array .int
  | 9 => .array .int
  | 10 => .array .int
  | 11 => .int
  | 12 => .array .int
  | 13 => .array .int
  | 14 => .array .int
  | 15 => .array .int
  | 16 => .array .int
  | 17 => .array .int
  | 18 => .int
  | 19 => .array .int
  | 20 => .array .int
  | 21 => .array .int
  | _ => .array .int
theorem n_MO : ∀ a, a < 23 → ∀ b, b < 23 → a ≠ b → (F_MO a).2.1 ≠ (F_MO b).2.1 := by decide +kernel
theorem t_MO_ok : ∀ k, k < 23 → parseFieldDescriptor (F_MO k).2.2.1 = some (t_MO k) := by decide +kernel
abbrev R_LA : String := "SlitWidthsLaw"
abbrev R_AR : String := "java/util/Arrays"
abbrev vwCl : List vw_C := [(R_CO, F_CO, 5), (R_DE, F_DE, 3), (R_PS, F_PS, 10), (R_SQ, F_SQ, 5), (R_SU, F_SU, 11), (R_WI, F_WI, 3), (R_SW, F_SW, 7), (R_MO, F_MO, 23)]
/-- the good words of the tables -/
def gw : List Cond := lw_tbl.filter goodWord
theorem gw_of {w : Cond} (h : w ∈ lw_tbl) (g : goodWord w = true) : w ∈ gw := List.mem_filter.mpr ⟨h, g⟩
theorem gw_t {w : Cond} (h : w ∈ tables_1) (g : goodWord w = true) : w ∈ gw := gw_of (List.mem_append_right _ h) g
theorem gw_in : ∀ w ∈ gw, w ∈ lw_tbl := fun _ h => (List.mem_filter.mp h).1
theorem gw_good {w : Cond} (h : w ∈ gw) : goodWord w = true := (List.mem_filter.mp h).2
theorem gw_self : GoodIn gw gw := fun _ h => ⟨h, good_of_word (gw_good h)⟩
theorem gw_cons {w : Cond} {ws : List Cond} (h : w ∈ gw) (g : GoodIn gw ws) : GoodIn gw (w :: ws) := fun v hv => (List.mem_cons.mp hv).elim (fun e => by rw [e]; exact ⟨h, good_of_word (gw_good h)⟩) (g v)
/-- what a call of a method found by its receiver wants -/
theorem gw_V {own C : String} {idx : Nat} {y : MethodName} {k : Cond} (h1 : Cond.methodLink own idx y ∈ gw) (h2 : Cond.instanceMethod y ∈ gw) (h3 : Cond.selects C y y ∈ gw) (h4 : Cond.initialized C ∈ gw) (h5 : k ∈ gw) : GoodIn gw (wsV own idx C y (k :: gw)) := gw_cons h1 (gw_cons h2 (gw_cons h3 (gw_cons h4 (gw_cons h5 gw_self))))
theorem gw_S {own : String} {idx : Nat} {y : MethodName} {k : Cond} (h1 : Cond.methodLink own idx y ∈ gw) (h2 : Cond.static y ∈ gw) (h3 : Cond.initialized y.cls ∈ gw) (h5 : k ∈ gw) : GoodIn gw (va_wsS own idx y (k :: gw)) := gw_cons h1 (gw_cons h2 (gw_cons h3 (gw_cons h5 gw_self)))
theorem gw_h {args : Array Value} {s : State} {k : Cond} (h : ∀ w ∈ k :: gw, w.before args s = true) : ∀ w ∈ gw, w.before args s = true := fun w hw => h w (List.mem_cons_of_mem _ hw)
abbrev b_SW_init : ByteArray := prog_1_method_1_code
abbrev y_SW_init : MethodName := ⟨"SlitWidths", "<init>", "()V"⟩
abbrev w_SW_init : List Cond := .code y_SW_init b_SW_init 2 none :: gw
abbrev b_CO_init : ByteArray := prog_2_method_1_code
abbrev y_CO_init : MethodName := ⟨"SlitWidths$Coil", "<init>", "()V"⟩
abbrev w_CO_init : List Cond := .code y_CO_init b_CO_init 1 none :: gw
abbrev b_WI_init : ByteArray := prog_7_method_1_code
abbrev y_WI_init : MethodName := ⟨"SlitWidths$Wishes", "<init>", "()V"⟩
abbrev w_WI_init : List Cond := .code y_WI_init b_WI_init 1 none :: gw
abbrev b_PS_init : ByteArray := prog_4_method_1_code
abbrev y_PS_init : MethodName := ⟨"SlitWidths$PatternSearch", "<init>", "()V"⟩
abbrev w_PS_init : List Cond := .code y_PS_init b_PS_init 1 none :: gw
abbrev b_DE_init : ByteArray := prog_3_method_1_code
abbrev y_DE_init : MethodName := ⟨"SlitWidths$Defects", "<init>", "()V"⟩
abbrev w_DE_init : List Cond := .code y_DE_init b_DE_init 1 none :: gw
abbrev b_SQ_init : ByteArray := prog_5_method_1_code
abbrev y_SQ_init : MethodName := ⟨"SlitWidths$Sequence", "<init>", "()V"⟩
abbrev w_SQ_init : List Cond := .code y_SQ_init b_SQ_init 1 none :: gw
abbrev b_SU_init : ByteArray := prog_6_method_1_code
abbrev y_SU_init : MethodName := ⟨"SlitWidths$SetUp", "<init>", "()V"⟩
abbrev w_SU_init : List Cond := .code y_SU_init b_SU_init 1 none :: gw
abbrev b_SW_fill : ByteArray := prog_1_method_5_code
abbrev y_SW_fill : MethodName := ⟨"SlitWidths", "fill", "()I"⟩
abbrev w_SW_fill : List Cond := .code y_SW_fill b_SW_fill 1 (some .int) :: gw
abbrev b_PS_find : ByteArray := prog_4_method_2_code
abbrev y_PS_find : MethodName := ⟨"SlitWidths$PatternSearch", "find", "(LSlitWidths$Coil;LSlitWidths$Wishes;)V"⟩
abbrev w_PS_find : List Cond := .code y_PS_find b_PS_find 3 none :: gw
abbrev b_AR_fill : ByteArray := prog_19_method_103_code
abbrev y_AR_fill : MethodName := ⟨"java/util/Arrays", "fill", "([II)V"⟩
abbrev w_AR_fill : List Cond := .code y_AR_fill b_AR_fill 4 none :: gw
abbrev b_PS_measure : ByteArray := prog_4_method_3_code
abbrev y_PS_measure : MethodName := ⟨"SlitWidths$PatternSearch", "measure", "(LSlitWidths$Coil;LSlitWidths$Wishes;)V"⟩
abbrev w_PS_measure : List Cond := .code y_PS_measure b_PS_measure 4 none :: gw
abbrev b_PS_tryCounts : ByteArray := prog_4_method_4_code
abbrev y_PS_tryCounts : MethodName := ⟨"SlitWidths$PatternSearch", "tryCounts", "(LSlitWidths$Wishes;III)V"⟩
abbrev w_PS_tryCounts : List Cond := .code y_PS_tryCounts b_PS_tryCounts 7 none :: gw
abbrev b_PS_keepIfBetter : ByteArray := prog_4_method_5_code
abbrev y_PS_keepIfBetter : MethodName := ⟨"SlitWidths$PatternSearch", "keepIfBetter", "(II)V"⟩
abbrev w_PS_keepIfBetter : List Cond := .code y_PS_keepIfBetter b_PS_keepIfBetter 3 none :: gw
abbrev b_SW_order : ByteArray := prog_1_method_11_code
abbrev y_SW_order : MethodName := ⟨"SlitWidths", "order", "()I"⟩
abbrev w_SW_order : List Cond := .code y_SW_order b_SW_order 1 (some .int) :: gw
abbrev b_SQ_find : ByteArray := prog_5_method_2_code
abbrev y_SQ_find : MethodName := ⟨"SlitWidths$Sequence", "find", "([LSlitWidths$SetUp;I)V"⟩
abbrev w_SQ_find : List Cond := .code y_SQ_find b_SQ_find 3 none :: gw
abbrev b_SQ_measureSteps : ByteArray := prog_5_method_3_code
abbrev y_SQ_measureSteps : MethodName := ⟨"SlitWidths$Sequence", "measureSteps", "([LSlitWidths$SetUp;I)V"⟩
abbrev w_SQ_measureSteps : List Cond := .code y_SQ_measureSteps b_SQ_measureSteps 5 none :: gw
abbrev b_SU_placesNotIn : ByteArray := prog_6_method_5_code
abbrev y_SU_placesNotIn : MethodName := ⟨"SlitWidths$SetUp", "placesNotIn", "(LSlitWidths$SetUp;)I"⟩
abbrev w_SU_placesNotIn : List Cond := .code y_SU_placesNotIn b_SU_placesNotIn 6 (some .int) :: gw
abbrev b_SQ_measureSets : ByteArray := prog_5_method_4_code
abbrev y_SQ_measureSets : MethodName := ⟨"SlitWidths$Sequence", "measureSets", "(I)V"⟩
abbrev w_SQ_measureSets : List Cond := .code y_SQ_measureSets b_SQ_measureSets 5 none :: gw
abbrev b_SQ_lowestNext : ByteArray := prog_5_method_6_code
abbrev y_SQ_lowestNext : MethodName := ⟨"SlitWidths$Sequence", "lowestNext", "(III)I"⟩
abbrev w_SQ_lowestNext : List Cond := .code y_SQ_lowestNext b_SQ_lowestNext 8 (some .int) :: gw
abbrev b_SQ_through : ByteArray := prog_5_method_7_code
abbrev y_SQ_through : MethodName := ⟨"SlitWidths$Sequence", "through", "(III)I"⟩
abbrev w_SQ_through : List Cond := .code y_SQ_through b_SQ_through 4 (some .int) :: gw
abbrev b_SQ_step : ByteArray := prog_5_method_8_code
abbrev y_SQ_step : MethodName := ⟨"SlitWidths$Sequence", "step", "(II)I"⟩
abbrev w_SQ_step : List Cond := .code y_SQ_step b_SQ_step 3 (some .int) :: gw
abbrev b_SQ_choose : ByteArray := prog_5_method_5_code
abbrev y_SQ_choose : MethodName := ⟨"SlitWidths$Sequence", "choose", "(I)V"⟩
abbrev w_SQ_choose : List Cond := .code y_SQ_choose b_SQ_choose 6 none :: gw
abbrev b_SW_sound : ByteArray := prog_1_method_14_code
abbrev y_SW_sound : MethodName := ⟨"SlitWidths", "sound", "()V"⟩
abbrev w_SW_sound : List Cond := .code y_SW_sound b_SW_sound 1 none :: gw
abbrev b_LA_coil : ByteArray := method_3_code
abbrev y_LA_coil : MethodName := ⟨"SlitWidthsLaw", "coil", "(LSlitWidths;IIIII)I"⟩
abbrev b_SW_coil : ByteArray := prog_1_method_2_code
abbrev y_SW_coil : MethodName := ⟨"SlitWidths", "coil", "(IIIII)V"⟩
abbrev w_SW_coil : List Cond := .code y_SW_coil b_SW_coil 6 none :: gw
abbrev b_SW_within : ByteArray := prog_1_method_16_code
abbrev y_SW_within : MethodName := ⟨"SlitWidths", "within", "(III)Z"⟩
abbrev w_SW_within : List Cond := .code y_SW_within b_SW_within 3 (some .boolean) :: gw
abbrev b_LA_want : ByteArray := method_4_code
abbrev y_LA_want : MethodName := ⟨"SlitWidthsLaw", "want", "(LSlitWidths;II[J)I"⟩
abbrev b_SW_want : ByteArray := prog_1_method_3_code
abbrev y_SW_want : MethodName := ⟨"SlitWidths", "want", "(II)I"⟩
abbrev w_SW_want : List Cond := .code y_SW_want b_SW_want 4 (some .int) :: gw
abbrev b_LA_strips : ByteArray := method_5_code
abbrev y_LA_strips : MethodName := ⟨"SlitWidthsLaw", "strips", "(LSlitWidths;II)I"⟩
abbrev b_SW_strips : ByteArray := prog_1_method_4_code
abbrev y_SW_strips : MethodName := ⟨"SlitWidths", "strips", "(II)V"⟩
abbrev w_SW_strips : List Cond := .code y_SW_strips b_SW_strips 3 none :: gw
abbrev b_SW_checkWanted : ByteArray := prog_1_method_17_code
abbrev y_SW_checkWanted : MethodName := ⟨"SlitWidths", "checkWanted", "(I)V"⟩
abbrev w_SW_checkWanted : List Cond := .code y_SW_checkWanted b_SW_checkWanted 2 none :: gw
abbrev b_LA_best : ByteArray := method_6_code
abbrev y_LA_best : MethodName := ⟨"SlitWidthsLaw", "best", "(LSlitWidths;I[J)I"⟩
abbrev b_SW_best : ByteArray := prog_1_method_6_code
abbrev y_SW_best : MethodName := ⟨"SlitWidths", "best", "(I)I"⟩
abbrev w_SW_best : List Cond := .code y_SW_best b_SW_best 2 (some .int) :: gw
abbrev b_LA_cut : ByteArray := method_7_code
abbrev y_LA_cut : MethodName := ⟨"SlitWidthsLaw", "cut", "(LSlitWidths;[J)I"⟩
abbrev b_SW_cut : ByteArray := prog_1_method_7_code
abbrev y_SW_cut : MethodName := ⟨"SlitWidths", "cut", "()I"⟩
abbrev w_SW_cut : List Cond := .code y_SW_cut b_SW_cut 2 (some .int) :: gw
abbrev b_SU_make : ByteArray := prog_6_method_2_code
abbrev y_SU_make : MethodName := ⟨"SlitWidths$SetUp", "make", "(LSlitWidths$Coil;LSlitWidths$Wishes;LSlitWidths$PatternSearch;)V"⟩
abbrev w_SU_make : List Cond := .code y_SU_make b_SU_make 7 none :: gw
abbrev b_SU_lay : ByteArray := prog_6_method_3_code
abbrev y_SU_lay : MethodName := ⟨"SlitWidths$SetUp", "lay", "(III)V"⟩
abbrev w_SU_lay : List Cond := .code y_SU_lay b_SU_lay 4 none :: gw
abbrev b_SU_setKnife : ByteArray := prog_6_method_4_code
abbrev y_SU_setKnife : MethodName := ⟨"SlitWidths$SetUp", "setKnife", "(I)V"⟩
abbrev w_SU_setKnife : List Cond := .code y_SU_setKnife b_SU_setKnife 3 none :: gw
abbrev b_WI_deliver : ByteArray := prog_7_method_2_code
abbrev y_WI_deliver : MethodName := ⟨"SlitWidths$Wishes", "deliver", "([I)V"⟩
abbrev w_WI_deliver : List Cond := .code y_WI_deliver b_WI_deliver 3 none :: gw
abbrev b_LA_strip : ByteArray := method_8_code
abbrev y_LA_strip : MethodName := ⟨"SlitWidthsLaw", "strip", "(LSlitWidths;III[J)I"⟩
abbrev b_SW_strip : ByteArray := prog_1_method_8_code
abbrev y_SW_strip : MethodName := ⟨"SlitWidths", "strip", "(III)I"⟩
abbrev w_SW_strip : List Cond := .code y_SW_strip b_SW_strip 5 (some .int) :: gw
abbrev b_SW_checkSetUp : ByteArray := prog_1_method_18_code
abbrev y_SW_checkSetUp : MethodName := ⟨"SlitWidths", "checkSetUp", "(I)V"⟩
abbrev w_SW_checkSetUp : List Cond := .code y_SW_checkSetUp b_SW_checkSetUp 2 none :: gw
abbrev b_SU_stripWeight : ByteArray := prog_6_method_6_code
abbrev y_SU_stripWeight : MethodName := ⟨"SlitWidths$SetUp", "stripWeight", "(I)I"⟩
abbrev w_SU_stripWeight : List Cond := .code y_SU_stripWeight b_SU_stripWeight 2 (some .int) :: gw
abbrev b_SU_kilosBefore : ByteArray := prog_6_method_8_code
abbrev y_SU_kilosBefore : MethodName := ⟨"SlitWidths$SetUp", "kilosBefore", "(I)I"⟩
abbrev w_SU_kilosBefore : List Cond := .code y_SU_kilosBefore b_SU_kilosBefore 2 (some .int) :: gw
abbrev b_LA_scrap : ByteArray := method_9_code
abbrev y_LA_scrap : MethodName := ⟨"SlitWidthsLaw", "scrap", "(LSlitWidths;I[J)I"⟩
abbrev b_SW_scrap : ByteArray := prog_1_method_9_code
abbrev y_SW_scrap : MethodName := ⟨"SlitWidths", "scrap", "(I)I"⟩
abbrev w_SW_scrap : List Cond := .code y_SW_scrap b_SW_scrap 2 (some .int) :: gw
abbrev b_SU_scrapWeight : ByteArray := prog_6_method_7_code
abbrev y_SU_scrapWeight : MethodName := ⟨"SlitWidths$SetUp", "scrapWeight", "()I"⟩
abbrev w_SU_scrapWeight : List Cond := .code y_SU_scrapWeight b_SU_scrapWeight 3 (some .int) :: gw
abbrev b_LA_moves : ByteArray := method_10_code
abbrev y_LA_moves : MethodName := ⟨"SlitWidthsLaw", "moves", "(LSlitWidths;II[J)I"⟩
abbrev b_SW_moves : ByteArray := prog_1_method_10_code
abbrev y_SW_moves : MethodName := ⟨"SlitWidths", "moves", "(II)I"⟩
abbrev w_SW_moves : List Cond := .code y_SW_moves b_SW_moves 3 (some .int) :: gw
abbrev b_LA_ordered : ByteArray := method_11_code
abbrev y_LA_ordered : MethodName := ⟨"SlitWidthsLaw", "ordered", "(LSlitWidths;I[J)I"⟩
abbrev b_SW_ordered : ByteArray := prog_1_method_12_code
abbrev y_SW_ordered : MethodName := ⟨"SlitWidths", "ordered", "(I)I"⟩
abbrev w_SW_ordered : List Cond := .code y_SW_ordered b_SW_ordered 2 (some .int) :: gw
abbrev b_LA_defect : ByteArray := method_12_code
abbrev y_LA_defect : MethodName := ⟨"SlitWidthsLaw", "defect", "(LSlitWidths;II[J)I"⟩
abbrev b_SW_defect : ByteArray := prog_1_method_13_code
abbrev y_SW_defect : MethodName := ⟨"SlitWidths", "defect", "(II)I"⟩
abbrev w_SW_defect : List Cond := .code y_SW_defect b_SW_defect 3 (some .int) :: gw
abbrev b_LA_shift : ByteArray := method_13_code
abbrev y_LA_shift : MethodName := ⟨"SlitWidthsLaw", "shift", "(LSlitWidths;I[J)I"⟩
abbrev b_SW_shift : ByteArray := prog_1_method_15_code
abbrev y_SW_shift : MethodName := ⟨"SlitWidths", "shift", "(I)I"⟩
abbrev w_SW_shift : List Cond := .code y_SW_shift b_SW_shift 3 (some .int) :: gw
abbrev b_SU_leastSoundLeft : ByteArray := prog_6_method_9_code
abbrev y_SU_leastSoundLeft : MethodName := ⟨"SlitWidths$SetUp", "leastSoundLeft", "(LSlitWidths$Defects;)I"⟩
abbrev w_SU_leastSoundLeft : List Cond := .code y_SU_leastSoundLeft b_SU_leastSoundLeft 7 (some .int) :: gw
abbrev b_SU_leftPast : ByteArray := prog_6_method_10_code
abbrev y_SU_leftPast : MethodName := ⟨"SlitWidths$SetUp", "leftPast", "(LSlitWidths$Defects;I)I"⟩
abbrev w_SU_leftPast : List Cond := .code y_SU_leftPast b_SU_leftPast 6 (some .int) :: gw
abbrev b_MO_init : ByteArray := prog_9_method_1_code
abbrev y_MO_init : MethodName := ⟨"SlitWidthsModel", "<init>", "()V"⟩
abbrev w_MO_init : List Cond := .code y_MO_init b_MO_init 1 none :: gw
abbrev b_MO_thrown : ByteArray := prog_9_method_2_code
abbrev y_MO_thrown : MethodName := ⟨"SlitWidthsModel", "thrown", "()I"⟩
abbrev w_MO_thrown : List Cond := .code y_MO_thrown b_MO_thrown 1 (some .int) :: gw
abbrev b_MO_coil : ByteArray := prog_9_method_5_code
abbrev y_MO_coil : MethodName := ⟨"SlitWidthsModel", "coil", "(IIIII)V"⟩
abbrev w_MO_coil : List Cond := .code y_MO_coil b_MO_coil 7 none :: gw
abbrev b_MO_in : ByteArray := prog_9_method_4_code
abbrev y_MO_in : MethodName := ⟨"SlitWidthsModel", "in", "(III)Z"⟩
abbrev w_MO_in : List Cond := .code y_MO_in b_MO_in 3 (some .boolean) :: gw
abbrev b_MO_throwing : ByteArray := prog_9_method_3_code
abbrev y_MO_throwing : MethodName := ⟨"SlitWidthsModel", "throwing", "(ZZ)Z"⟩
abbrev w_MO_throwing : List Cond := .code y_MO_throwing b_MO_throwing 3 (some .boolean) :: gw
abbrev b_MO_want : ByteArray := prog_9_method_6_code
abbrev y_MO_want : MethodName := ⟨"SlitWidthsModel", "want", "(II)I"⟩
abbrev w_MO_want : List Cond := .code y_MO_want b_MO_want 3 (some .int) :: gw
abbrev b_MO_strips : ByteArray := prog_9_method_7_code
abbrev y_MO_strips : MethodName := ⟨"SlitWidthsModel", "strips", "(II)V"⟩
abbrev w_MO_strips : List Cond := .code y_MO_strips b_MO_strips 3 none :: gw
abbrev b_MO_fill : ByteArray := prog_9_method_12_code
abbrev y_MO_fill : MethodName := ⟨"SlitWidthsModel", "fill", "()I"⟩
abbrev w_MO_fill : List Cond := .code y_MO_fill b_MO_fill 1 (some .int) :: gw
abbrev b_MO_findBest : ByteArray := prog_9_method_11_code
abbrev y_MO_findBest : MethodName := ⟨"SlitWidthsModel", "findBest", "()I"⟩
abbrev w_MO_findBest : List Cond := .code y_MO_findBest b_MO_findBest 8 (some .int) :: gw
abbrev b_MO_stripsNow : ByteArray := prog_9_method_8_code
abbrev y_MO_stripsNow : MethodName := ⟨"SlitWidthsModel", "stripsNow", "()I"⟩
abbrev w_MO_stripsNow : List Cond := .code y_MO_stripsNow b_MO_stripsNow 3 (some .int) :: gw
abbrev b_MO_fillNow : ByteArray := prog_9_method_9_code
abbrev y_MO_fillNow : MethodName := ⟨"SlitWidthsModel", "fillNow", "()I"⟩
abbrev w_MO_fillNow : List Cond := .code y_MO_fillNow b_MO_fillNow 3 (some .int) :: gw
abbrev b_MO_goesDown : ByteArray := prog_9_method_10_code
abbrev y_MO_goesDown : MethodName := ⟨"SlitWidthsModel", "goesDown", "()Z"⟩
abbrev w_MO_goesDown : List Cond := .code y_MO_goesDown b_MO_goesDown 2 (some .boolean) :: gw
abbrev b_MO_best : ByteArray := prog_9_method_13_code
abbrev y_MO_best : MethodName := ⟨"SlitWidthsModel", "best", "(I)I"⟩
abbrev w_MO_best : List Cond := .code y_MO_best b_MO_best 2 (some .int) :: gw
abbrev b_MO_cut : ByteArray := prog_9_method_14_code
abbrev y_MO_cut : MethodName := ⟨"SlitWidthsModel", "cut", "()I"⟩
abbrev w_MO_cut : List Cond := .code y_MO_cut b_MO_cut 3 (some .int) :: gw
abbrev b_MO_strip : ByteArray := prog_9_method_21_code
abbrev y_MO_strip : MethodName := ⟨"SlitWidthsModel", "strip", "(III)I"⟩
abbrev w_MO_strip : List Cond := .code y_MO_strip b_MO_strip 4 (some .int) :: gw
abbrev b_MO_isSetup : ByteArray := prog_9_method_15_code
abbrev y_MO_isSetup : MethodName := ⟨"SlitWidthsModel", "isSetup", "(I)Z"⟩
abbrev w_MO_isSetup : List Cond := .code y_MO_isSetup b_MO_isSetup 2 (some .boolean) :: gw
abbrev b_MO_many : ByteArray := prog_9_method_16_code
abbrev y_MO_many : MethodName := ⟨"SlitWidthsModel", "many", "(I)I"⟩
abbrev w_MO_many : List Cond := .code y_MO_many b_MO_many 4 (some .int) :: gw
abbrev b_MO_wantOf : ByteArray := prog_9_method_17_code
abbrev y_MO_wantOf : MethodName := ⟨"SlitWidthsModel", "wantOf", "(II)I"⟩
abbrev w_MO_wantOf : List Cond := .code y_MO_wantOf b_MO_wantOf 5 (some .int) :: gw
abbrev b_MO_beginOf : ByteArray := prog_9_method_18_code
abbrev y_MO_beginOf : MethodName := ⟨"SlitWidthsModel", "beginOf", "(II)I"⟩
abbrev w_MO_beginOf : List Cond := .code y_MO_beginOf b_MO_beginOf 5 (some .int) :: gw
abbrev b_MO_endOf : ByteArray := prog_9_method_19_code
abbrev y_MO_endOf : MethodName := ⟨"SlitWidthsModel", "endOf", "(II)I"⟩
abbrev w_MO_endOf : List Cond := .code y_MO_endOf b_MO_endOf 3 (some .int) :: gw
abbrev b_MO_weightOf : ByteArray := prog_9_method_20_code
abbrev y_MO_weightOf : MethodName := ⟨"SlitWidthsModel", "weightOf", "(II)I"⟩
abbrev w_MO_weightOf : List Cond := .code y_MO_weightOf b_MO_weightOf 7 (some .int) :: gw
abbrev b_MO_scrap : ByteArray := prog_9_method_22_code
abbrev y_MO_scrap : MethodName := ⟨"SlitWidthsModel", "scrap", "(I)I"⟩
abbrev w_MO_scrap : List Cond := .code y_MO_scrap b_MO_scrap 4 (some .int) :: gw
abbrev b_MO_moves : ByteArray := prog_9_method_25_code
abbrev y_MO_moves : MethodName := ⟨"SlitWidthsModel", "moves", "(II)I"⟩
abbrev w_MO_moves : List Cond := .code y_MO_moves b_MO_moves 3 (some .int) :: gw
abbrev b_MO_movesFrom : ByteArray := prog_9_method_24_code
abbrev y_MO_movesFrom : MethodName := ⟨"SlitWidthsModel", "movesFrom", "(II)I"⟩
abbrev w_MO_movesFrom : List Cond := .code y_MO_movesFrom b_MO_movesFrom 6 (some .int) :: gw
abbrev b_MO_hasKnife : ByteArray := prog_9_method_23_code
abbrev y_MO_hasKnife : MethodName := ⟨"SlitWidthsModel", "hasKnife", "(II)Z"⟩
abbrev w_MO_hasKnife : List Cond := .code y_MO_hasKnife b_MO_hasKnife 5 (some .boolean) :: gw
abbrev b_MO_order : ByteArray := prog_9_method_27_code
abbrev y_MO_order : MethodName := ⟨"SlitWidthsModel", "order", "()I"⟩
abbrev w_MO_order : List Cond := .code y_MO_order b_MO_order 1 (some .int) :: gw
abbrev b_MO_plan : ByteArray := prog_9_method_26_code
abbrev y_MO_plan : MethodName := ⟨"SlitWidthsModel", "plan", "()I"⟩
abbrev w_MO_plan : List Cond := .code y_MO_plan b_MO_plan 8 (some .int) :: gw
abbrev b_MO_ordered : ByteArray := prog_9_method_28_code
abbrev y_MO_ordered : MethodName := ⟨"SlitWidthsModel", "ordered", "(I)I"⟩
abbrev w_MO_ordered : List Cond := .code y_MO_ordered b_MO_ordered 9 (some .int) :: gw
abbrev b_MO_defect : ByteArray := prog_9_method_29_code
abbrev y_MO_defect : MethodName := ⟨"SlitWidthsModel", "defect", "(II)I"⟩
abbrev w_MO_defect : List Cond := .code y_MO_defect b_MO_defect 3 (some .int) :: gw
abbrev b_MO_sound : ByteArray := prog_9_method_30_code
abbrev y_MO_sound : MethodName := ⟨"SlitWidthsModel", "sound", "()V"⟩
abbrev w_MO_sound : List Cond := .code y_MO_sound b_MO_sound 1 none :: gw
abbrev b_MO_shift : ByteArray := prog_9_method_32_code
abbrev y_MO_shift : MethodName := ⟨"SlitWidthsModel", "shift", "(I)I"⟩
abbrev w_MO_shift : List Cond := .code y_MO_shift b_MO_shift 4 (some .int) :: gw
abbrev b_MO_isSound : ByteArray := prog_9_method_31_code
abbrev y_MO_isSound : MethodName := ⟨"SlitWidthsModel", "isSound", "(II)Z"⟩
abbrev w_MO_isSound : List Cond := .code y_MO_isSound b_MO_isSound 6 (some .boolean) :: gw
theorem s_0 : Cond.selects "SlitWidths$PatternSearch" ⟨"SlitWidths$PatternSearch", "measure", "(LSlitWidths$Coil;LSlitWidths$Wishes;)V"⟩ ⟨"SlitWidths$PatternSearch", "measure", "(LSlitWidths$Coil;LSlitWidths$Wishes;)V"⟩ ∈ gw := gw_of (List.mem_append_left _ (List.mem_of_getElem? (i := 0) (by decide +kernel))) (by decide +kernel)
theorem s_1 : Cond.selects "SlitWidths$PatternSearch" ⟨"SlitWidths$PatternSearch", "tryCounts", "(LSlitWidths$Wishes;III)V"⟩ ⟨"SlitWidths$PatternSearch", "tryCounts", "(LSlitWidths$Wishes;III)V"⟩ ∈ gw := gw_of (List.mem_append_left _ (List.mem_of_getElem? (i := 1) (by decide +kernel))) (by decide +kernel)
theorem s_2 : Cond.selects "SlitWidths$PatternSearch" ⟨"SlitWidths$PatternSearch", "keepIfBetter", "(II)V"⟩ ⟨"SlitWidths$PatternSearch", "keepIfBetter", "(II)V"⟩ ∈ gw := gw_of (List.mem_append_left _ (List.mem_of_getElem? (i := 2) (by decide +kernel))) (by decide +kernel)
theorem s_3 : Cond.selects "SlitWidths$Sequence" ⟨"SlitWidths$Sequence", "measureSteps", "([LSlitWidths$SetUp;I)V"⟩ ⟨"SlitWidths$Sequence", "measureSteps", "([LSlitWidths$SetUp;I)V"⟩ ∈ gw := gw_of (List.mem_append_left _ (List.mem_of_getElem? (i := 3) (by decide +kernel))) (by decide +kernel)
theorem s_4 : Cond.selects "SlitWidths$Sequence" ⟨"SlitWidths$Sequence", "measureSets", "(I)V"⟩ ⟨"SlitWidths$Sequence", "measureSets", "(I)V"⟩ ∈ gw := gw_of (List.mem_append_left _ (List.mem_of_getElem? (i := 4) (by decide +kernel))) (by decide +kernel)
theorem s_5 : Cond.selects "SlitWidths$Sequence" ⟨"SlitWidths$Sequence", "lowestNext", "(III)I"⟩ ⟨"SlitWidths$Sequence", "lowestNext", "(III)I"⟩ ∈ gw := gw_of (List.mem_append_left _ (List.mem_of_getElem? (i := 5) (by decide +kernel))) (by decide +kernel)
theorem s_6 : Cond.selects "SlitWidths$Sequence" ⟨"SlitWidths$Sequence", "through", "(III)I"⟩ ⟨"SlitWidths$Sequence", "through", "(III)I"⟩ ∈ gw := gw_of (List.mem_append_left _ (List.mem_of_getElem? (i := 6) (by decide +kernel))) (by decide +kernel)
theorem s_7 : Cond.selects "SlitWidths$Sequence" ⟨"SlitWidths$Sequence", "step", "(II)I"⟩ ⟨"SlitWidths$Sequence", "step", "(II)I"⟩ ∈ gw := gw_of (List.mem_append_left _ (List.mem_of_getElem? (i := 7) (by decide +kernel))) (by decide +kernel)
theorem s_8 : Cond.selects "SlitWidths$Sequence" ⟨"SlitWidths$Sequence", "choose", "(I)V"⟩ ⟨"SlitWidths$Sequence", "choose", "(I)V"⟩ ∈ gw := gw_of (List.mem_append_left _ (List.mem_of_getElem? (i := 8) (by decide +kernel))) (by decide +kernel)
theorem s_9 : Cond.selects "java/lang/Throwable" ⟨"java/lang/Throwable", "fillInStackTrace", "(I)Ljava/lang/Throwable;"⟩ ⟨"java/lang/Throwable", "fillInStackTrace", "(I)Ljava/lang/Throwable;"⟩ ∈ gw := gw_of (List.mem_append_left _ (List.mem_of_getElem? (i := 9) (by decide +kernel))) (by decide +kernel)
theorem s_10 : Cond.selects "SlitWidths" ⟨"SlitWidths", "checkWanted", "(I)V"⟩ ⟨"SlitWidths", "checkWanted", "(I)V"⟩ ∈ gw := gw_of (List.mem_append_left _ (List.mem_of_getElem? (i := 10) (by decide +kernel))) (by decide +kernel)
theorem s_11 : Cond.selects "SlitWidths$SetUp" ⟨"SlitWidths$SetUp", "lay", "(III)V"⟩ ⟨"SlitWidths$SetUp", "lay", "(III)V"⟩ ∈ gw := gw_of (List.mem_append_left _ (List.mem_of_getElem? (i := 11) (by decide +kernel))) (by decide +kernel)
theorem s_12 : Cond.selects "SlitWidths$SetUp" ⟨"SlitWidths$SetUp", "setKnife", "(I)V"⟩ ⟨"SlitWidths$SetUp", "setKnife", "(I)V"⟩ ∈ gw := gw_of (List.mem_append_left _ (List.mem_of_getElem? (i := 12) (by decide +kernel))) (by decide +kernel)
theorem s_13 : Cond.selects "SlitWidths" ⟨"SlitWidths", "checkSetUp", "(I)V"⟩ ⟨"SlitWidths", "checkSetUp", "(I)V"⟩ ∈ gw := gw_of (List.mem_append_left _ (List.mem_of_getElem? (i := 13) (by decide +kernel))) (by decide +kernel)
theorem s_14 : Cond.selects "SlitWidths$SetUp" ⟨"SlitWidths$SetUp", "kilosBefore", "(I)I"⟩ ⟨"SlitWidths$SetUp", "kilosBefore", "(I)I"⟩ ∈ gw := gw_of (List.mem_append_left _ (List.mem_of_getElem? (i := 14) (by decide +kernel))) (by decide +kernel)
theorem s_15 : Cond.selects "SlitWidths$SetUp" ⟨"SlitWidths$SetUp", "leftPast", "(LSlitWidths$Defects;I)I"⟩ ⟨"SlitWidths$SetUp", "leftPast", "(LSlitWidths$Defects;I)I"⟩ ∈ gw := gw_of (List.mem_append_left _ (List.mem_of_getElem? (i := 15) (by decide +kernel))) (by decide +kernel)
theorem s_16 : Cond.selects "SlitWidthsModel" ⟨"SlitWidthsModel", "throwing", "(ZZ)Z"⟩ ⟨"SlitWidthsModel", "throwing", "(ZZ)Z"⟩ ∈ gw := gw_of (List.mem_append_left _ (List.mem_of_getElem? (i := 16) (by decide +kernel))) (by decide +kernel)
theorem s_17 : Cond.selects "SlitWidthsModel" ⟨"SlitWidthsModel", "findBest", "()I"⟩ ⟨"SlitWidthsModel", "findBest", "()I"⟩ ∈ gw := gw_of (List.mem_append_left _ (List.mem_of_getElem? (i := 17) (by decide +kernel))) (by decide +kernel)
theorem s_18 : Cond.selects "SlitWidthsModel" ⟨"SlitWidthsModel", "stripsNow", "()I"⟩ ⟨"SlitWidthsModel", "stripsNow", "()I"⟩ ∈ gw := gw_of (List.mem_append_left _ (List.mem_of_getElem? (i := 18) (by decide +kernel))) (by decide +kernel)
theorem s_19 : Cond.selects "SlitWidthsModel" ⟨"SlitWidthsModel", "fillNow", "()I"⟩ ⟨"SlitWidthsModel", "fillNow", "()I"⟩ ∈ gw := gw_of (List.mem_append_left _ (List.mem_of_getElem? (i := 19) (by decide +kernel))) (by decide +kernel)
theorem s_20 : Cond.selects "SlitWidthsModel" ⟨"SlitWidthsModel", "goesDown", "()Z"⟩ ⟨"SlitWidthsModel", "goesDown", "()Z"⟩ ∈ gw := gw_of (List.mem_append_left _ (List.mem_of_getElem? (i := 20) (by decide +kernel))) (by decide +kernel)
theorem s_21 : Cond.selects "SlitWidthsModel" ⟨"SlitWidthsModel", "isSetup", "(I)Z"⟩ ⟨"SlitWidthsModel", "isSetup", "(I)Z"⟩ ∈ gw := gw_of (List.mem_append_left _ (List.mem_of_getElem? (i := 21) (by decide +kernel))) (by decide +kernel)
theorem s_22 : Cond.selects "SlitWidthsModel" ⟨"SlitWidthsModel", "many", "(I)I"⟩ ⟨"SlitWidthsModel", "many", "(I)I"⟩ ∈ gw := gw_of (List.mem_append_left _ (List.mem_of_getElem? (i := 22) (by decide +kernel))) (by decide +kernel)
theorem s_23 : Cond.selects "SlitWidthsModel" ⟨"SlitWidthsModel", "wantOf", "(II)I"⟩ ⟨"SlitWidthsModel", "wantOf", "(II)I"⟩ ∈ gw := gw_of (List.mem_append_left _ (List.mem_of_getElem? (i := 23) (by decide +kernel))) (by decide +kernel)
theorem s_24 : Cond.selects "SlitWidthsModel" ⟨"SlitWidthsModel", "beginOf", "(II)I"⟩ ⟨"SlitWidthsModel", "beginOf", "(II)I"⟩ ∈ gw := gw_of (List.mem_append_left _ (List.mem_of_getElem? (i := 24) (by decide +kernel))) (by decide +kernel)
theorem s_25 : Cond.selects "SlitWidthsModel" ⟨"SlitWidthsModel", "endOf", "(II)I"⟩ ⟨"SlitWidthsModel", "endOf", "(II)I"⟩ ∈ gw := gw_of (List.mem_append_left _ (List.mem_of_getElem? (i := 25) (by decide +kernel))) (by decide +kernel)
theorem s_26 : Cond.selects "SlitWidthsModel" ⟨"SlitWidthsModel", "weightOf", "(II)I"⟩ ⟨"SlitWidthsModel", "weightOf", "(II)I"⟩ ∈ gw := gw_of (List.mem_append_left _ (List.mem_of_getElem? (i := 26) (by decide +kernel))) (by decide +kernel)
theorem s_27 : Cond.selects "SlitWidthsModel" ⟨"SlitWidthsModel", "movesFrom", "(II)I"⟩ ⟨"SlitWidthsModel", "movesFrom", "(II)I"⟩ ∈ gw := gw_of (List.mem_append_left _ (List.mem_of_getElem? (i := 27) (by decide +kernel))) (by decide +kernel)
theorem s_28 : Cond.selects "SlitWidthsModel" ⟨"SlitWidthsModel", "hasKnife", "(II)Z"⟩ ⟨"SlitWidthsModel", "hasKnife", "(II)Z"⟩ ∈ gw := gw_of (List.mem_append_left _ (List.mem_of_getElem? (i := 28) (by decide +kernel))) (by decide +kernel)
theorem s_29 : Cond.selects "SlitWidthsModel" ⟨"SlitWidthsModel", "plan", "()I"⟩ ⟨"SlitWidthsModel", "plan", "()I"⟩ ∈ gw := gw_of (List.mem_append_left _ (List.mem_of_getElem? (i := 29) (by decide +kernel))) (by decide +kernel)
theorem s_30 : Cond.selects "SlitWidthsModel" ⟨"SlitWidthsModel", "isSound", "(II)Z"⟩ ⟨"SlitWidthsModel", "isSound", "(II)Z"⟩ ∈ gw := gw_of (List.mem_append_left _ (List.mem_of_getElem? (i := 30) (by decide +kernel))) (by decide +kernel)
