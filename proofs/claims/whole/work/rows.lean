section
-- ===== PART A: goes FIRST, ahead of the names: the tables' words, and 'selects' of the private methods out of them =====
/-- a private method of a class that the tables say can be made, by its rows of tables_1 -/
def lw_okq (q : MethodName × Nat) : Prop := (q.1.cls ≠ "java/lang/invoke/MethodHandle" ∧ q.1.cls ≠ "java/lang/invoke/VarHandle") ∧ Cond.instantiable q.1.cls q.2 ∈ tables_1 ∧ Cond.privateMethod q.1 ∈ tables_1 ∧ Cond.instanceMethod q.1 ∈ tables_1
theorem lw_p0 : lw_okq (⟨"SlitWidths$PatternSearch", "measure", "(LSlitWidths$Coil;LSlitWidths$Wishes;)V"⟩, 10) := ⟨⟨by decide +kernel, by decide +kernel⟩, List.mem_of_getElem? (i := 87) (by decide +kernel), List.mem_of_getElem? (i := 256) (by decide +kernel), List.mem_of_getElem? (i := 257) (by decide +kernel)⟩
theorem lw_p1 : lw_okq (⟨"SlitWidths$PatternSearch", "tryCounts", "(LSlitWidths$Wishes;III)V"⟩, 10) := ⟨⟨by decide +kernel, by decide +kernel⟩, List.mem_of_getElem? (i := 87) (by decide +kernel), List.mem_of_getElem? (i := 260) (by decide +kernel), List.mem_of_getElem? (i := 261) (by decide +kernel)⟩
theorem lw_p2 : lw_okq (⟨"SlitWidths$PatternSearch", "keepIfBetter", "(II)V"⟩, 10) := ⟨⟨by decide +kernel, by decide +kernel⟩, List.mem_of_getElem? (i := 87) (by decide +kernel), List.mem_of_getElem? (i := 264) (by decide +kernel), List.mem_of_getElem? (i := 265) (by decide +kernel)⟩
theorem lw_p3 : lw_okq (⟨"SlitWidths$Sequence", "measureSteps", "([LSlitWidths$SetUp;I)V"⟩, 5) := ⟨⟨by decide +kernel, by decide +kernel⟩, List.mem_of_getElem? (i := 152) (by decide +kernel), List.mem_of_getElem? (i := 279) (by decide +kernel), List.mem_of_getElem? (i := 280) (by decide +kernel)⟩
theorem lw_p4 : lw_okq (⟨"SlitWidths$Sequence", "measureSets", "(I)V"⟩, 5) := ⟨⟨by decide +kernel, by decide +kernel⟩, List.mem_of_getElem? (i := 152) (by decide +kernel), List.mem_of_getElem? (i := 287) (by decide +kernel), List.mem_of_getElem? (i := 288) (by decide +kernel)⟩
theorem lw_p5 : lw_okq (⟨"SlitWidths$Sequence", "lowestNext", "(III)I"⟩, 5) := ⟨⟨by decide +kernel, by decide +kernel⟩, List.mem_of_getElem? (i := 152) (by decide +kernel), List.mem_of_getElem? (i := 291) (by decide +kernel), List.mem_of_getElem? (i := 292) (by decide +kernel)⟩
theorem lw_p6 : lw_okq (⟨"SlitWidths$Sequence", "through", "(III)I"⟩, 5) := ⟨⟨by decide +kernel, by decide +kernel⟩, List.mem_of_getElem? (i := 152) (by decide +kernel), List.mem_of_getElem? (i := 295) (by decide +kernel), List.mem_of_getElem? (i := 296) (by decide +kernel)⟩
theorem lw_p7 : lw_okq (⟨"SlitWidths$Sequence", "step", "(II)I"⟩, 5) := ⟨⟨by decide +kernel, by decide +kernel⟩, List.mem_of_getElem? (i := 152) (by decide +kernel), List.mem_of_getElem? (i := 299) (by decide +kernel), List.mem_of_getElem? (i := 300) (by decide +kernel)⟩
theorem lw_p8 : lw_okq (⟨"SlitWidths$Sequence", "choose", "(I)V"⟩, 5) := ⟨⟨by decide +kernel, by decide +kernel⟩, List.mem_of_getElem? (i := 152) (by decide +kernel), List.mem_of_getElem? (i := 303) (by decide +kernel), List.mem_of_getElem? (i := 304) (by decide +kernel)⟩
theorem lw_p9 : lw_okq (⟨"java/lang/Throwable", "fillInStackTrace", "(I)Ljava/lang/Throwable;"⟩, 6) := ⟨⟨by decide +kernel, by decide +kernel⟩, List.mem_of_getElem? (i := 362) (by decide +kernel), List.mem_of_getElem? (i := 360) (by decide +kernel), List.mem_of_getElem? (i := 361) (by decide +kernel)⟩
theorem lw_p10 : lw_okq (⟨"SlitWidths", "checkWanted", "(I)V"⟩, 7) := ⟨⟨by decide +kernel, by decide +kernel⟩, List.mem_of_getElem? (i := 19) (by decide +kernel), List.mem_of_getElem? (i := 425) (by decide +kernel), List.mem_of_getElem? (i := 426) (by decide +kernel)⟩
theorem lw_p11 : lw_okq (⟨"SlitWidths$SetUp", "lay", "(III)V"⟩, 11) := ⟨⟨by decide +kernel, by decide +kernel⟩, List.mem_of_getElem? (i := 178) (by decide +kernel), List.mem_of_getElem? (i := 481) (by decide +kernel), List.mem_of_getElem? (i := 482) (by decide +kernel)⟩
theorem lw_p12 : lw_okq (⟨"SlitWidths$SetUp", "setKnife", "(I)V"⟩, 11) := ⟨⟨by decide +kernel, by decide +kernel⟩, List.mem_of_getElem? (i := 178) (by decide +kernel), List.mem_of_getElem? (i := 485) (by decide +kernel), List.mem_of_getElem? (i := 486) (by decide +kernel)⟩
theorem lw_p13 : lw_okq (⟨"SlitWidths", "checkSetUp", "(I)V"⟩, 7) := ⟨⟨by decide +kernel, by decide +kernel⟩, List.mem_of_getElem? (i := 19) (by decide +kernel), List.mem_of_getElem? (i := 500) (by decide +kernel), List.mem_of_getElem? (i := 501) (by decide +kernel)⟩
theorem lw_p14 : lw_okq (⟨"SlitWidths$SetUp", "kilosBefore", "(I)I"⟩, 11) := ⟨⟨by decide +kernel, by decide +kernel⟩, List.mem_of_getElem? (i := 178) (by decide +kernel), List.mem_of_getElem? (i := 510) (by decide +kernel), List.mem_of_getElem? (i := 511) (by decide +kernel)⟩
theorem lw_p15 : lw_okq (⟨"SlitWidths$SetUp", "leftPast", "(LSlitWidths$Defects;I)I"⟩, 11) := ⟨⟨by decide +kernel, by decide +kernel⟩, List.mem_of_getElem? (i := 178) (by decide +kernel), List.mem_of_getElem? (i := 562) (by decide +kernel), List.mem_of_getElem? (i := 563) (by decide +kernel)⟩
def lw_privs_1 : List (MethodName × Nat) := [(⟨"SlitWidths$PatternSearch", "measure", "(LSlitWidths$Coil;LSlitWidths$Wishes;)V"⟩, 10), (⟨"SlitWidths$PatternSearch", "tryCounts", "(LSlitWidths$Wishes;III)V"⟩, 10), (⟨"SlitWidths$PatternSearch", "keepIfBetter", "(II)V"⟩, 10), (⟨"SlitWidths$Sequence", "measureSteps", "([LSlitWidths$SetUp;I)V"⟩, 5), (⟨"SlitWidths$Sequence", "measureSets", "(I)V"⟩, 5), (⟨"SlitWidths$Sequence", "lowestNext", "(III)I"⟩, 5), (⟨"SlitWidths$Sequence", "through", "(III)I"⟩, 5), (⟨"SlitWidths$Sequence", "step", "(II)I"⟩, 5), (⟨"SlitWidths$Sequence", "choose", "(I)V"⟩, 5), (⟨"java/lang/Throwable", "fillInStackTrace", "(I)Ljava/lang/Throwable;"⟩, 6), (⟨"SlitWidths", "checkWanted", "(I)V"⟩, 7), (⟨"SlitWidths$SetUp", "lay", "(III)V"⟩, 11), (⟨"SlitWidths$SetUp", "setKnife", "(I)V"⟩, 11), (⟨"SlitWidths", "checkSetUp", "(I)V"⟩, 7), (⟨"SlitWidths$SetUp", "kilosBefore", "(I)I"⟩, 11), (⟨"SlitWidths$SetUp", "leftPast", "(LSlitWidths$Defects;I)I"⟩, 11)]
theorem lw_r1 : ∀ q ∈ lw_privs_1, lw_okq q := List.forall_mem_cons.mpr ⟨lw_p0, List.forall_mem_cons.mpr ⟨lw_p1, List.forall_mem_cons.mpr ⟨lw_p2, List.forall_mem_cons.mpr ⟨lw_p3, List.forall_mem_cons.mpr ⟨lw_p4, List.forall_mem_cons.mpr ⟨lw_p5, List.forall_mem_cons.mpr ⟨lw_p6, List.forall_mem_cons.mpr ⟨lw_p7, List.forall_mem_cons.mpr ⟨lw_p8, List.forall_mem_cons.mpr ⟨lw_p9, List.forall_mem_cons.mpr ⟨lw_p10, List.forall_mem_cons.mpr ⟨lw_p11, List.forall_mem_cons.mpr ⟨lw_p12, List.forall_mem_cons.mpr ⟨lw_p13, List.forall_mem_cons.mpr ⟨lw_p14, List.forall_mem_cons.mpr ⟨lw_p15, fun _ h => absurd h List.not_mem_nil⟩⟩⟩⟩⟩⟩⟩⟩⟩⟩⟩⟩⟩⟩⟩⟩
theorem lw_p16 : lw_okq (⟨"SlitWidthsModel", "throwing", "(ZZ)Z"⟩, 23) := ⟨⟨by decide +kernel, by decide +kernel⟩, List.mem_of_getElem? (i := 567) (by decide +kernel), List.mem_of_getElem? (i := 655) (by decide +kernel), List.mem_of_getElem? (i := 656) (by decide +kernel)⟩
theorem lw_p17 : lw_okq (⟨"SlitWidthsModel", "findBest", "()I"⟩, 23) := ⟨⟨by decide +kernel, by decide +kernel⟩, List.mem_of_getElem? (i := 567) (by decide +kernel), List.mem_of_getElem? (i := 671) (by decide +kernel), List.mem_of_getElem? (i := 672) (by decide +kernel)⟩
theorem lw_p18 : lw_okq (⟨"SlitWidthsModel", "stripsNow", "()I"⟩, 23) := ⟨⟨by decide +kernel, by decide +kernel⟩, List.mem_of_getElem? (i := 567) (by decide +kernel), List.mem_of_getElem? (i := 675) (by decide +kernel), List.mem_of_getElem? (i := 676) (by decide +kernel)⟩
theorem lw_p19 : lw_okq (⟨"SlitWidthsModel", "fillNow", "()I"⟩, 23) := ⟨⟨by decide +kernel, by decide +kernel⟩, List.mem_of_getElem? (i := 567) (by decide +kernel), List.mem_of_getElem? (i := 679) (by decide +kernel), List.mem_of_getElem? (i := 680) (by decide +kernel)⟩
theorem lw_p20 : lw_okq (⟨"SlitWidthsModel", "goesDown", "()Z"⟩, 23) := ⟨⟨by decide +kernel, by decide +kernel⟩, List.mem_of_getElem? (i := 567) (by decide +kernel), List.mem_of_getElem? (i := 683) (by decide +kernel), List.mem_of_getElem? (i := 684) (by decide +kernel)⟩
theorem lw_p21 : lw_okq (⟨"SlitWidthsModel", "isSetup", "(I)Z"⟩, 23) := ⟨⟨by decide +kernel, by decide +kernel⟩, List.mem_of_getElem? (i := 567) (by decide +kernel), List.mem_of_getElem? (i := 699) (by decide +kernel), List.mem_of_getElem? (i := 700) (by decide +kernel)⟩
theorem lw_p22 : lw_okq (⟨"SlitWidthsModel", "many", "(I)I"⟩, 23) := ⟨⟨by decide +kernel, by decide +kernel⟩, List.mem_of_getElem? (i := 567) (by decide +kernel), List.mem_of_getElem? (i := 703) (by decide +kernel), List.mem_of_getElem? (i := 704) (by decide +kernel)⟩
theorem lw_p23 : lw_okq (⟨"SlitWidthsModel", "wantOf", "(II)I"⟩, 23) := ⟨⟨by decide +kernel, by decide +kernel⟩, List.mem_of_getElem? (i := 567) (by decide +kernel), List.mem_of_getElem? (i := 707) (by decide +kernel), List.mem_of_getElem? (i := 708) (by decide +kernel)⟩
theorem lw_p24 : lw_okq (⟨"SlitWidthsModel", "beginOf", "(II)I"⟩, 23) := ⟨⟨by decide +kernel, by decide +kernel⟩, List.mem_of_getElem? (i := 567) (by decide +kernel), List.mem_of_getElem? (i := 711) (by decide +kernel), List.mem_of_getElem? (i := 712) (by decide +kernel)⟩
theorem lw_p25 : lw_okq (⟨"SlitWidthsModel", "endOf", "(II)I"⟩, 23) := ⟨⟨by decide +kernel, by decide +kernel⟩, List.mem_of_getElem? (i := 567) (by decide +kernel), List.mem_of_getElem? (i := 715) (by decide +kernel), List.mem_of_getElem? (i := 716) (by decide +kernel)⟩
theorem lw_p26 : lw_okq (⟨"SlitWidthsModel", "weightOf", "(II)I"⟩, 23) := ⟨⟨by decide +kernel, by decide +kernel⟩, List.mem_of_getElem? (i := 567) (by decide +kernel), List.mem_of_getElem? (i := 719) (by decide +kernel), List.mem_of_getElem? (i := 720) (by decide +kernel)⟩
theorem lw_p27 : lw_okq (⟨"SlitWidthsModel", "movesFrom", "(II)I"⟩, 23) := ⟨⟨by decide +kernel, by decide +kernel⟩, List.mem_of_getElem? (i := 567) (by decide +kernel), List.mem_of_getElem? (i := 731) (by decide +kernel), List.mem_of_getElem? (i := 732) (by decide +kernel)⟩
theorem lw_p28 : lw_okq (⟨"SlitWidthsModel", "hasKnife", "(II)Z"⟩, 23) := ⟨⟨by decide +kernel, by decide +kernel⟩, List.mem_of_getElem? (i := 567) (by decide +kernel), List.mem_of_getElem? (i := 735) (by decide +kernel), List.mem_of_getElem? (i := 736) (by decide +kernel)⟩
theorem lw_p29 : lw_okq (⟨"SlitWidthsModel", "plan", "()I"⟩, 23) := ⟨⟨by decide +kernel, by decide +kernel⟩, List.mem_of_getElem? (i := 567) (by decide +kernel), List.mem_of_getElem? (i := 743) (by decide +kernel), List.mem_of_getElem? (i := 744) (by decide +kernel)⟩
theorem lw_p30 : lw_okq (⟨"SlitWidthsModel", "isSound", "(II)Z"⟩, 23) := ⟨⟨by decide +kernel, by decide +kernel⟩, List.mem_of_getElem? (i := 567) (by decide +kernel), List.mem_of_getElem? (i := 763) (by decide +kernel), List.mem_of_getElem? (i := 764) (by decide +kernel)⟩
def lw_privs_2 : List (MethodName × Nat) := [(⟨"SlitWidthsModel", "throwing", "(ZZ)Z"⟩, 23), (⟨"SlitWidthsModel", "findBest", "()I"⟩, 23), (⟨"SlitWidthsModel", "stripsNow", "()I"⟩, 23), (⟨"SlitWidthsModel", "fillNow", "()I"⟩, 23), (⟨"SlitWidthsModel", "goesDown", "()Z"⟩, 23), (⟨"SlitWidthsModel", "isSetup", "(I)Z"⟩, 23), (⟨"SlitWidthsModel", "many", "(I)I"⟩, 23), (⟨"SlitWidthsModel", "wantOf", "(II)I"⟩, 23), (⟨"SlitWidthsModel", "beginOf", "(II)I"⟩, 23), (⟨"SlitWidthsModel", "endOf", "(II)I"⟩, 23), (⟨"SlitWidthsModel", "weightOf", "(II)I"⟩, 23), (⟨"SlitWidthsModel", "movesFrom", "(II)I"⟩, 23), (⟨"SlitWidthsModel", "hasKnife", "(II)Z"⟩, 23), (⟨"SlitWidthsModel", "plan", "()I"⟩, 23), (⟨"SlitWidthsModel", "isSound", "(II)Z"⟩, 23)]
theorem lw_r2 : ∀ q ∈ lw_privs_2, lw_okq q := List.forall_mem_cons.mpr ⟨lw_p16, List.forall_mem_cons.mpr ⟨lw_p17, List.forall_mem_cons.mpr ⟨lw_p18, List.forall_mem_cons.mpr ⟨lw_p19, List.forall_mem_cons.mpr ⟨lw_p20, List.forall_mem_cons.mpr ⟨lw_p21, List.forall_mem_cons.mpr ⟨lw_p22, List.forall_mem_cons.mpr ⟨lw_p23, List.forall_mem_cons.mpr ⟨lw_p24, List.forall_mem_cons.mpr ⟨lw_p25, List.forall_mem_cons.mpr ⟨lw_p26, List.forall_mem_cons.mpr ⟨lw_p27, List.forall_mem_cons.mpr ⟨lw_p28, List.forall_mem_cons.mpr ⟨lw_p29, List.forall_mem_cons.mpr ⟨lw_p30, fun _ h => absurd h List.not_mem_nil⟩⟩⟩⟩⟩⟩⟩⟩⟩⟩⟩⟩⟩⟩⟩
def lw_privs : List (MethodName × Nat) := lw_privs_1 ++ (lw_privs_2)
def lw_tbl : List Cond := k2_sels lw_privs ++ tables_1
theorem lw_privs_ok : ∀ q ∈ lw_privs, lw_okq q := by
  show ∀ q ∈ lw_privs_1 ++ (lw_privs_2), lw_okq q
  exact List.forall_mem_append.mpr ⟨lw_r1, lw_r2⟩
end
section
abbrev R_CO : String := "SlitWidths$Coil"
def F_CO : u_T := fun k => match k with
  | 0 => ("SlitWidths$Coil", "width", "I", false)
  | 1 => ("SlitWidths$Coil", "kilos", "I", false)
  | 2 => ("SlitWidths$Coil", "trim", "I", false)
  | 3 => ("SlitWidths$Coil", "kerf", "I", false)
  | _ => ("SlitWidths$Coil", "knives", "I", false)
def t_CO : Nat → FieldType := fun k => match k with
  | 0 => .int
  | 1 => .int
  | 2 => .int
  | 3 => .int
  | _ => .int
theorem n_CO : ∀ a, a < 5 → ∀ b, b < 5 → a ≠ b → (F_CO a).2.1 ≠ (F_CO b).2.1 := by decide +kernel
theorem t_CO_ok : ∀ k, k < 5 → parseFieldDescriptor (F_CO k).2.2.1 = some (t_CO k) := by decide +kernel
abbrev R_DE : String := "SlitWidths$Defects"
def F_DE : u_T := fun k => match k with
  | 0 => ("SlitWidths$Defects", "froms", "[I", true)
  | 1 => ("SlitWidths$Defects", "tos", "[I", true)
  | _ => ("SlitWidths$Defects", "count", "I", false)
def t_DE : Nat → FieldType := fun k => match k with
  | 0 => .array .int
  | 1 => .array .int
  | _ => .int
theorem n_DE : ∀ a, a < 3 → ∀ b, b < 3 → a ≠ b → (F_DE a).2.1 ≠ (F_DE b).2.1 := by decide +kernel
theorem t_DE_ok : ∀ k, k < 3 → parseFieldDescriptor (F_DE k).2.2.1 = some (t_DE k) := by decide +kernel
abbrev R_PS : String := "SlitWidths$PatternSearch"
def F_PS : u_T := fun k => match k with
  | 0 => ("SlitWidths$PatternSearch", "bestCounts", "[I", true)
  | 1 => ("SlitWidths$PatternSearch", "bestStrips", "I", false)
  | 2 => ("SlitWidths$PatternSearch", "bestFill", "I", false)
  | 3 => ("SlitWidths$PatternSearch", "known", "Z", false)
  | 4 => ("SlitWidths$PatternSearch", "pitches", "[I", true)
  | 5 => ("SlitWidths$PatternSearch", "pitchesFrom", "[I", true)
  | 6 => ("SlitWidths$PatternSearch", "counts", "[I", true)
  | 7 => ("SlitWidths$PatternSearch", "room", "I", false)
  | 8 => ("SlitWidths$PatternSearch", "mostStrips", "I", false)
  | _ => ("SlitWidths$PatternSearch", "bestSum", "I", false)
def t_PS : Nat → FieldType := fun k => match k with
  | 0 => .array .int
  | 1 => .int
  | 2 => .int
  | 3 => .boolean
  | 4 => .array .int
  | 5 => .array .int
  | 6 => .array .int
  | 7 => .int
  | 8 => .int
  | _ => .int
theorem n_PS : ∀ a, a < 10 → ∀ b, b < 10 → a ≠ b → (F_PS a).2.1 ≠ (F_PS b).2.1 := by decide +kernel
theorem t_PS_ok : ∀ k, k < 10 → parseFieldDescriptor (F_PS k).2.2.1 = some (t_PS k) := by decide +kernel
abbrev R_SQ : String := "SlitWidths$Sequence"
def F_SQ : u_T := fun k => match k with
  | 0 => ("SlitWidths$Sequence", "numbers", "[I", true)
  | 1 => ("SlitWidths$Sequence", "total", "I", false)
  | 2 => ("SlitWidths$Sequence", "known", "Z", false)
  | 3 => ("SlitWidths$Sequence", "steps", "[I", true)
  | _ => ("SlitWidths$Sequence", "fewest", "[I", true)
def t_SQ : Nat → FieldType := fun k => match k with
  | 0 => .array .int
  | 1 => .int
  | 2 => .boolean
  | 3 => .array .int
  | _ => .array .int
theorem n_SQ : ∀ a, a < 5 → ∀ b, b < 5 → a ≠ b → (F_SQ a).2.1 ≠ (F_SQ b).2.1 := by decide +kernel
theorem t_SQ_ok : ∀ k, k < 5 → parseFieldDescriptor (F_SQ k).2.2.1 = some (t_SQ k) := by decide +kernel
abbrev R_SU : String := "SlitWidths$SetUp"
def F_SU : u_T := fun k => match k with
  | 0 => ("SlitWidths$SetUp", "numbers", "[I", true)
  | 1 => ("SlitWidths$SetUp", "begins", "[I", true)
  | 2 => ("SlitWidths$SetUp", "ends", "[I", true)
  | 3 => ("SlitWidths$SetUp", "stripCount", "I", false)
  | 4 => ("SlitWidths$SetUp", "left", "I", false)
  | 5 => ("SlitWidths$SetUp", "knifePlaces", "[I", true)
  | 6 => ("SlitWidths$SetUp", "knifeCount", "I", false)
  | 7 => ("SlitWidths$SetUp", "width", "I", false)
  | 8 => ("SlitWidths$SetUp", "kilos", "I", false)
  | 9 => ("SlitWidths$SetUp", "trim", "I", false)
  | _ => ("SlitWidths$SetUp", "span", "I", false)
def t_SU : Nat → FieldType := fun k => match k with
  | 0 => .array .int
  | 1 => .array .int
  | 2 => .array .int
  | 3 => .int
  | 4 => .int
  | 5 => .array .int
  | 6 => .int
  | 7 => .int
  | 8 => .int
  | 9 => .int
  | _ => .int
theorem n_SU : ∀ a, a < 11 → ∀ b, b < 11 → a ≠ b → (F_SU a).2.1 ≠ (F_SU b).2.1 := by decide +kernel
theorem t_SU_ok : ∀ k, k < 11 → parseFieldDescriptor (F_SU k).2.2.1 = some (t_SU k) := by decide +kernel
abbrev R_WI : String := "SlitWidths$Wishes"
def F_WI : u_T := fun k => match k with
  | 0 => ("SlitWidths$Wishes", "widths", "[I", true)
  | 1 => ("SlitWidths$Wishes", "still", "[I", true)
  | _ => ("SlitWidths$Wishes", "count", "I", false)
def t_WI : Nat → FieldType := fun k => match k with
  | 0 => .array .int
  | 1 => .array .int
  | _ => .int
theorem n_WI : ∀ a, a < 3 → ∀ b, b < 3 → a ≠ b → (F_WI a).2.1 ≠ (F_WI b).2.1 := by decide +kernel
theorem t_WI_ok : ∀ k, k < 3 → parseFieldDescriptor (F_WI k).2.2.1 = some (t_WI k) := by decide +kernel
abbrev R_SW : String := "SlitWidths"
def F_SW : u_T := fun k => match k with
  | 0 => ("SlitWidths", "nextCoil", "LSlitWidths$Coil;", true)
  | 1 => ("SlitWidths", "wishes", "LSlitWidths$Wishes;", true)
  | 2 => ("SlitWidths", "search", "LSlitWidths$PatternSearch;", true)
  | 3 => ("SlitWidths", "defects", "LSlitWidths$Defects;", true)
  | 4 => ("SlitWidths", "sequence", "LSlitWidths$Sequence;", true)
  | 5 => ("SlitWidths", "setUps", "[LSlitWidths$SetUp;", true)
  | _ => ("SlitWidths", "setUpCount", "I", false)
def t_SW : Nat → FieldType := fun k => match k with
  | 0 => .object "SlitWidths$Coil"
  | 1 => .object "SlitWidths$Wishes"
  | 2 => .object "SlitWidths$PatternSearch"
  | 3 => .object "SlitWidths$Defects"
  | 4 => .object "SlitWidths$Sequence"
  | 5 => .array (.object "SlitWidths$SetUp")
  | _ => .int
theorem n_SW : ∀ a, a < 7 → ∀ b, b < 7 → a ≠ b → (F_SW a).2.1 ≠ (F_SW b).2.1 := by decide +kernel
theorem t_SW_ok : ∀ k, k < 7 → parseFieldDescriptor (F_SW k).2.2.1 = some (t_SW k) := by decide +kernel
abbrev R_MO : String := "SlitWidthsModel"
def F_MO : u_T := fun k => match k with
  | 0 => ("SlitWidthsModel", "thrown", "I", false)
  | 1 => ("SlitWidthsModel", "width", "I", false)
  | 2 => ("SlitWidthsModel", "kilos", "I", false)
  | 3 => ("SlitWidthsModel", "trim", "I", false)
  | 4 => ("SlitWidthsModel", "kerf", "I", false)
  | 5 => ("SlitWidthsModel", "knives", "I", false)
  | 6 => ("SlitWidthsModel", "wants", "I", false)
  | 7 => ("SlitWidthsModel", "wantWidth", "[I", true)
  | 8 => ("SlitWidthsModel", "wanted", "[I", true)
  | 9 => ("SlitWidthsModel", "now", "[I", true)
  | 10 => ("SlitWidthsModel", "best", "[I", true)
  | 11 => ("SlitWidthsModel", "setups", "I", false)
  | 12 => ("SlitWidthsModel", "setWidth", "[I", true)
  | 13 => ("SlitWidthsModel", "setKilos", "[I", true)
  | 14 => ("SlitWidthsModel", "setTrim", "[I", true)
  | 15 => ("SlitWidthsModel", "setKerf", "[I", true)
  | 16 => ("SlitWidthsModel", "setLeft", "[I", true)
  | 17 => ("SlitWidthsModel", "setStrips", "[I", true)
  | 18 => ("SlitWidthsModel", "defects", "I", false)
  | 19 => ("SlitWidthsModel", "defectFrom", "[I", true)
  | 20 => ("SlitWidthsModel", "defectTo", "[I", true)
  | 21 => ("SlitWidthsModel", "rest", "[I", true)
  | _ => ("SlitWidthsModel", "moved", "[I", true)
def t_MO : Nat → FieldType := fun k => match k with
  | 0 => .int
  | 1 => .int
  | 2 => .int
  | 3 => .int
  | 4 => .int
  | 5 => .int
  | 6 => .int
  | 7 => .array .int
  | 8 => .array .int
  | 9 => .array .int
  | 10 => .array .int
  | 11 => .int
  | 12 => .array .int
  | 13 => .array .int
  | 14 => .array .int
  | 15 => .array .int
  | 16 => .array .int
  | 17 => .array .int
  | 18 => .int
  | 19 => .array .int
  | 20 => .array .int
  | 21 => .array .int
  | _ => .array .int
theorem n_MO : ∀ a, a < 23 → ∀ b, b < 23 → a ≠ b → (F_MO a).2.1 ≠ (F_MO b).2.1 := by decide +kernel
theorem t_MO_ok : ∀ k, k < 23 → parseFieldDescriptor (F_MO k).2.2.1 = some (t_MO k) := by decide +kernel
abbrev R_LA : String := "SlitWidthsLaw"
abbrev R_AR : String := "java/util/Arrays"
abbrev vwCl : List vw_C := [(R_CO, F_CO, 5), (R_DE, F_DE, 3), (R_PS, F_PS, 10), (R_SQ, F_SQ, 5), (R_SU, F_SU, 11), (R_WI, F_WI, 3), (R_SW, F_SW, 7), (R_MO, F_MO, 23)]
/-- the good words of the tables -/
def gw : List Cond := lw_tbl.filter goodWord
theorem gw_of {w : Cond} (h : w ∈ lw_tbl) (g : goodWord w = true) : w ∈ gw := List.mem_filter.mpr ⟨h, g⟩
theorem gw_t {w : Cond} (h : w ∈ tables_1) (g : goodWord w = true) : w ∈ gw := gw_of (List.mem_append_right _ h) g
theorem gw_in : ∀ w ∈ gw, w ∈ lw_tbl := fun _ h => (List.mem_filter.mp h).1
theorem gw_good {w : Cond} (h : w ∈ gw) : goodWord w = true := (List.mem_filter.mp h).2
theorem gw_self : GoodIn gw gw := fun _ h => ⟨h, good_of_word (gw_good h)⟩
theorem gw_cons {w : Cond} {ws : List Cond} (h : w ∈ gw) (g : GoodIn gw ws) : GoodIn gw (w :: ws) := fun v hv => (List.mem_cons.mp hv).elim (fun e => by rw [e]; exact ⟨h, good_of_word (gw_good h)⟩) (g v)
/-- what a call of a method found by its receiver wants -/
theorem gw_V {own C : String} {idx : Nat} {y : MethodName} {k : Cond} (h1 : Cond.methodLink own idx y ∈ gw) (h2 : Cond.instanceMethod y ∈ gw) (h3 : Cond.selects C y y ∈ gw) (h4 : Cond.initialized C ∈ gw) (h5 : k ∈ gw) : GoodIn gw (wsV own idx C y (k :: gw)) := gw_cons h1 (gw_cons h2 (gw_cons h3 (gw_cons h4 (gw_cons h5 gw_self))))
theorem gw_S {own : String} {idx : Nat} {y : MethodName} {k : Cond} (h1 : Cond.methodLink own idx y ∈ gw) (h2 : Cond.static y ∈ gw) (h3 : Cond.initialized y.cls ∈ gw) (h5 : k ∈ gw) : GoodIn gw (va_wsS own idx y (k :: gw)) := gw_cons h1 (gw_cons h2 (gw_cons h3 (gw_cons h5 gw_self)))
theorem gw_h {args : Array Value} {s : State} {k : Cond} (h : ∀ w ∈ k :: gw, w.before args s = true) : ∀ w ∈ gw, w.before args s = true := fun w hw => h w (List.mem_cons_of_mem _ hw)
abbrev b_SW_init : ByteArray := prog_1_method_1_code
abbrev y_SW_init : MethodName := ⟨"SlitWidths", "<init>", "()V"⟩
abbrev w_SW_init : List Cond := .code y_SW_init b_SW_init 2 none :: gw
abbrev b_CO_init : ByteArray := prog_2_method_1_code
abbrev y_CO_init : MethodName := ⟨"SlitWidths$Coil", "<init>", "()V"⟩
abbrev w_CO_init : List Cond := .code y_CO_init b_CO_init 1 none :: gw
abbrev b_WI_init : ByteArray := prog_7_method_1_code
abbrev y_WI_init : MethodName := ⟨"SlitWidths$Wishes", "<init>", "()V"⟩
abbrev w_WI_init : List Cond := .code y_WI_init b_WI_init 1 none :: gw
abbrev b_PS_init : ByteArray := prog_4_method_1_code
abbrev y_PS_init : MethodName := ⟨"SlitWidths$PatternSearch", "<init>", "()V"⟩
abbrev w_PS_init : List Cond := .code y_PS_init b_PS_init 1 none :: gw
abbrev b_DE_init : ByteArray := prog_3_method_1_code
abbrev y_DE_init : MethodName := ⟨"SlitWidths$Defects", "<init>", "()V"⟩
abbrev w_DE_init : List Cond := .code y_DE_init b_DE_init 1 none :: gw
abbrev b_SQ_init : ByteArray := prog_5_method_1_code
abbrev y_SQ_init : MethodName := ⟨"SlitWidths$Sequence", "<init>", "()V"⟩
abbrev w_SQ_init : List Cond := .code y_SQ_init b_SQ_init 1 none :: gw
abbrev b_SU_init : ByteArray := prog_6_method_1_code
abbrev y_SU_init : MethodName := ⟨"SlitWidths$SetUp", "<init>", "()V"⟩
abbrev w_SU_init : List Cond := .code y_SU_init b_SU_init 1 none :: gw
abbrev b_SW_fill : ByteArray := prog_1_method_5_code
abbrev y_SW_fill : MethodName := ⟨"SlitWidths", "fill", "()I"⟩
abbrev w_SW_fill : List Cond := .code y_SW_fill b_SW_fill 1 (some .int) :: gw
abbrev b_PS_find : ByteArray := prog_4_method_2_code
abbrev y_PS_find : MethodName := ⟨"SlitWidths$PatternSearch", "find", "(LSlitWidths$Coil;LSlitWidths$Wishes;)V"⟩
abbrev w_PS_find : List Cond := .code y_PS_find b_PS_find 3 none :: gw
abbrev b_AR_fill : ByteArray := prog_19_method_103_code
abbrev y_AR_fill : MethodName := ⟨"java/util/Arrays", "fill", "([II)V"⟩
abbrev w_AR_fill : List Cond := .code y_AR_fill b_AR_fill 4 none :: gw
abbrev b_PS_measure : ByteArray := prog_4_method_3_code
abbrev y_PS_measure : MethodName := ⟨"SlitWidths$PatternSearch", "measure", "(LSlitWidths$Coil;LSlitWidths$Wishes;)V"⟩
abbrev w_PS_measure : List Cond := .code y_PS_measure b_PS_measure 4 none :: gw
abbrev b_PS_tryCounts : ByteArray := prog_4_method_4_code
abbrev y_PS_tryCounts : MethodName := ⟨"SlitWidths$PatternSearch", "tryCounts", "(LSlitWidths$Wishes;III)V"⟩
abbrev w_PS_tryCounts : List Cond := .code y_PS_tryCounts b_PS_tryCounts 7 none :: gw
abbrev b_PS_keepIfBetter : ByteArray := prog_4_method_5_code
abbrev y_PS_keepIfBetter : MethodName := ⟨"SlitWidths$PatternSearch", "keepIfBetter", "(II)V"⟩
abbrev w_PS_keepIfBetter : List Cond := .code y_PS_keepIfBetter b_PS_keepIfBetter 3 none :: gw
abbrev b_SW_order : ByteArray := prog_1_method_11_code
abbrev y_SW_order : MethodName := ⟨"SlitWidths", "order", "()I"⟩
abbrev w_SW_order : List Cond := .code y_SW_order b_SW_order 1 (some .int) :: gw
abbrev b_SQ_find : ByteArray := prog_5_method_2_code
abbrev y_SQ_find : MethodName := ⟨"SlitWidths$Sequence", "find", "([LSlitWidths$SetUp;I)V"⟩
abbrev w_SQ_find : List Cond := .code y_SQ_find b_SQ_find 3 none :: gw
abbrev b_SQ_measureSteps : ByteArray := prog_5_method_3_code
abbrev y_SQ_measureSteps : MethodName := ⟨"SlitWidths$Sequence", "measureSteps", "([LSlitWidths$SetUp;I)V"⟩
abbrev w_SQ_measureSteps : List Cond := .code y_SQ_measureSteps b_SQ_measureSteps 5 none :: gw
abbrev b_SU_placesNotIn : ByteArray := prog_6_method_5_code
abbrev y_SU_placesNotIn : MethodName := ⟨"SlitWidths$SetUp", "placesNotIn", "(LSlitWidths$SetUp;)I"⟩
abbrev w_SU_placesNotIn : List Cond := .code y_SU_placesNotIn b_SU_placesNotIn 6 (some .int) :: gw
abbrev b_SQ_measureSets : ByteArray := prog_5_method_4_code
abbrev y_SQ_measureSets : MethodName := ⟨"SlitWidths$Sequence", "measureSets", "(I)V"⟩
abbrev w_SQ_measureSets : List Cond := .code y_SQ_measureSets b_SQ_measureSets 5 none :: gw
abbrev b_SQ_lowestNext : ByteArray := prog_5_method_6_code
abbrev y_SQ_lowestNext : MethodName := ⟨"SlitWidths$Sequence", "lowestNext", "(III)I"⟩
abbrev w_SQ_lowestNext : List Cond := .code y_SQ_lowestNext b_SQ_lowestNext 8 (some .int) :: gw
abbrev b_SQ_through : ByteArray := prog_5_method_7_code
abbrev y_SQ_through : MethodName := ⟨"SlitWidths$Sequence", "through", "(III)I"⟩
abbrev w_SQ_through : List Cond := .code y_SQ_through b_SQ_through 4 (some .int) :: gw
abbrev b_SQ_step : ByteArray := prog_5_method_8_code
abbrev y_SQ_step : MethodName := ⟨"SlitWidths$Sequence", "step", "(II)I"⟩
abbrev w_SQ_step : List Cond := .code y_SQ_step b_SQ_step 3 (some .int) :: gw
abbrev b_SQ_choose : ByteArray := prog_5_method_5_code
abbrev y_SQ_choose : MethodName := ⟨"SlitWidths$Sequence", "choose", "(I)V"⟩
abbrev w_SQ_choose : List Cond := .code y_SQ_choose b_SQ_choose 6 none :: gw
abbrev b_SW_sound : ByteArray := prog_1_method_14_code
abbrev y_SW_sound : MethodName := ⟨"SlitWidths", "sound", "()V"⟩
abbrev w_SW_sound : List Cond := .code y_SW_sound b_SW_sound 1 none :: gw
abbrev b_LA_coil : ByteArray := method_3_code
abbrev y_LA_coil : MethodName := ⟨"SlitWidthsLaw", "coil", "(LSlitWidths;IIIII)I"⟩
abbrev b_SW_coil : ByteArray := prog_1_method_2_code
abbrev y_SW_coil : MethodName := ⟨"SlitWidths", "coil", "(IIIII)V"⟩
abbrev w_SW_coil : List Cond := .code y_SW_coil b_SW_coil 6 none :: gw
abbrev b_SW_within : ByteArray := prog_1_method_16_code
abbrev y_SW_within : MethodName := ⟨"SlitWidths", "within", "(III)Z"⟩
abbrev w_SW_within : List Cond := .code y_SW_within b_SW_within 3 (some .boolean) :: gw
abbrev b_LA_want : ByteArray := method_4_code
abbrev y_LA_want : MethodName := ⟨"SlitWidthsLaw", "want", "(LSlitWidths;II[J)I"⟩
abbrev b_SW_want : ByteArray := prog_1_method_3_code
abbrev y_SW_want : MethodName := ⟨"SlitWidths", "want", "(II)I"⟩
abbrev w_SW_want : List Cond := .code y_SW_want b_SW_want 4 (some .int) :: gw
abbrev b_LA_strips : ByteArray := method_5_code
abbrev y_LA_strips : MethodName := ⟨"SlitWidthsLaw", "strips", "(LSlitWidths;II)I"⟩
abbrev b_SW_strips : ByteArray := prog_1_method_4_code
abbrev y_SW_strips : MethodName := ⟨"SlitWidths", "strips", "(II)V"⟩
abbrev w_SW_strips : List Cond := .code y_SW_strips b_SW_strips 3 none :: gw
abbrev b_SW_checkWanted : ByteArray := prog_1_method_17_code
abbrev y_SW_checkWanted : MethodName := ⟨"SlitWidths", "checkWanted", "(I)V"⟩
abbrev w_SW_checkWanted : List Cond := .code y_SW_checkWanted b_SW_checkWanted 2 none :: gw
abbrev b_LA_best : ByteArray := method_6_code
abbrev y_LA_best : MethodName := ⟨"SlitWidthsLaw", "best", "(LSlitWidths;I[J)I"⟩
abbrev b_SW_best : ByteArray := prog_1_method_6_code
abbrev y_SW_best : MethodName := ⟨"SlitWidths", "best", "(I)I"⟩
abbrev w_SW_best : List Cond := .code y_SW_best b_SW_best 2 (some .int) :: gw
abbrev b_LA_cut : ByteArray := method_7_code
abbrev y_LA_cut : MethodName := ⟨"SlitWidthsLaw", "cut", "(LSlitWidths;[J)I"⟩
abbrev b_SW_cut : ByteArray := prog_1_method_7_code
abbrev y_SW_cut : MethodName := ⟨"SlitWidths", "cut", "()I"⟩
abbrev w_SW_cut : List Cond := .code y_SW_cut b_SW_cut 2 (some .int) :: gw
abbrev b_SU_make : ByteArray := prog_6_method_2_code
abbrev y_SU_make : MethodName := ⟨"SlitWidths$SetUp", "make", "(LSlitWidths$Coil;LSlitWidths$Wishes;LSlitWidths$PatternSearch;)V"⟩
abbrev w_SU_make : List Cond := .code y_SU_make b_SU_make 7 none :: gw
abbrev b_SU_lay : ByteArray := prog_6_method_3_code
abbrev y_SU_lay : MethodName := ⟨"SlitWidths$SetUp", "lay", "(III)V"⟩
abbrev w_SU_lay : List Cond := .code y_SU_lay b_SU_lay 4 none :: gw
abbrev b_SU_setKnife : ByteArray := prog_6_method_4_code
abbrev y_SU_setKnife : MethodName := ⟨"SlitWidths$SetUp", "setKnife", "(I)V"⟩
abbrev w_SU_setKnife : List Cond := .code y_SU_setKnife b_SU_setKnife 3 none :: gw
abbrev b_WI_deliver : ByteArray := prog_7_method_2_code
abbrev y_WI_deliver : MethodName := ⟨"SlitWidths$Wishes", "deliver", "([I)V"⟩
abbrev w_WI_deliver : List Cond := .code y_WI_deliver b_WI_deliver 3 none :: gw
abbrev b_LA_strip : ByteArray := method_8_code
abbrev y_LA_strip : MethodName := ⟨"SlitWidthsLaw", "strip", "(LSlitWidths;III[J)I"⟩
abbrev b_SW_strip : ByteArray := prog_1_method_8_code
abbrev y_SW_strip : MethodName := ⟨"SlitWidths", "strip", "(III)I"⟩
abbrev w_SW_strip : List Cond := .code y_SW_strip b_SW_strip 5 (some .int) :: gw
abbrev b_SW_checkSetUp : ByteArray := prog_1_method_18_code
abbrev y_SW_checkSetUp : MethodName := ⟨"SlitWidths", "checkSetUp", "(I)V"⟩
abbrev w_SW_checkSetUp : List Cond := .code y_SW_checkSetUp b_SW_checkSetUp 2 none :: gw
abbrev b_SU_stripWeight : ByteArray := prog_6_method_6_code
abbrev y_SU_stripWeight : MethodName := ⟨"SlitWidths$SetUp", "stripWeight", "(I)I"⟩
abbrev w_SU_stripWeight : List Cond := .code y_SU_stripWeight b_SU_stripWeight 2 (some .int) :: gw
abbrev b_SU_kilosBefore : ByteArray := prog_6_method_8_code
abbrev y_SU_kilosBefore : MethodName := ⟨"SlitWidths$SetUp", "kilosBefore", "(I)I"⟩
abbrev w_SU_kilosBefore : List Cond := .code y_SU_kilosBefore b_SU_kilosBefore 2 (some .int) :: gw
abbrev b_LA_scrap : ByteArray := method_9_code
abbrev y_LA_scrap : MethodName := ⟨"SlitWidthsLaw", "scrap", "(LSlitWidths;I[J)I"⟩
abbrev b_SW_scrap : ByteArray := prog_1_method_9_code
abbrev y_SW_scrap : MethodName := ⟨"SlitWidths", "scrap", "(I)I"⟩
abbrev w_SW_scrap : List Cond := .code y_SW_scrap b_SW_scrap 2 (some .int) :: gw
abbrev b_SU_scrapWeight : ByteArray := prog_6_method_7_code
abbrev y_SU_scrapWeight : MethodName := ⟨"SlitWidths$SetUp", "scrapWeight", "()I"⟩
abbrev w_SU_scrapWeight : List Cond := .code y_SU_scrapWeight b_SU_scrapWeight 3 (some .int) :: gw
abbrev b_LA_moves : ByteArray := method_10_code
abbrev y_LA_moves : MethodName := ⟨"SlitWidthsLaw", "moves", "(LSlitWidths;II[J)I"⟩
abbrev b_SW_moves : ByteArray := prog_1_method_10_code
abbrev y_SW_moves : MethodName := ⟨"SlitWidths", "moves", "(II)I"⟩
abbrev w_SW_moves : List Cond := .code y_SW_moves b_SW_moves 3 (some .int) :: gw
abbrev b_LA_ordered : ByteArray := method_11_code
abbrev y_LA_ordered : MethodName := ⟨"SlitWidthsLaw", "ordered", "(LSlitWidths;I[J)I"⟩
abbrev b_SW_ordered : ByteArray := prog_1_method_12_code
abbrev y_SW_ordered : MethodName := ⟨"SlitWidths", "ordered", "(I)I"⟩
abbrev w_SW_ordered : List Cond := .code y_SW_ordered b_SW_ordered 2 (some .int) :: gw
abbrev b_LA_defect : ByteArray := method_12_code
abbrev y_LA_defect : MethodName := ⟨"SlitWidthsLaw", "defect", "(LSlitWidths;II[J)I"⟩
abbrev b_SW_defect : ByteArray := prog_1_method_13_code
abbrev y_SW_defect : MethodName := ⟨"SlitWidths", "defect", "(II)I"⟩
abbrev w_SW_defect : List Cond := .code y_SW_defect b_SW_defect 3 (some .int) :: gw
abbrev b_LA_shift : ByteArray := method_13_code
abbrev y_LA_shift : MethodName := ⟨"SlitWidthsLaw", "shift", "(LSlitWidths;I[J)I"⟩
abbrev b_SW_shift : ByteArray := prog_1_method_15_code
abbrev y_SW_shift : MethodName := ⟨"SlitWidths", "shift", "(I)I"⟩
abbrev w_SW_shift : List Cond := .code y_SW_shift b_SW_shift 3 (some .int) :: gw
abbrev b_SU_leastSoundLeft : ByteArray := prog_6_method_9_code
abbrev y_SU_leastSoundLeft : MethodName := ⟨"SlitWidths$SetUp", "leastSoundLeft", "(LSlitWidths$Defects;)I"⟩
abbrev w_SU_leastSoundLeft : List Cond := .code y_SU_leastSoundLeft b_SU_leastSoundLeft 7 (some .int) :: gw
abbrev b_SU_leftPast : ByteArray := prog_6_method_10_code
abbrev y_SU_leftPast : MethodName := ⟨"SlitWidths$SetUp", "leftPast", "(LSlitWidths$Defects;I)I"⟩
abbrev w_SU_leftPast : List Cond := .code y_SU_leftPast b_SU_leftPast 6 (some .int) :: gw
abbrev b_MO_init : ByteArray := prog_9_method_1_code
abbrev y_MO_init : MethodName := ⟨"SlitWidthsModel", "<init>", "()V"⟩
abbrev w_MO_init : List Cond := .code y_MO_init b_MO_init 1 none :: gw
abbrev b_MO_thrown : ByteArray := prog_9_method_2_code
abbrev y_MO_thrown : MethodName := ⟨"SlitWidthsModel", "thrown", "()I"⟩
abbrev w_MO_thrown : List Cond := .code y_MO_thrown b_MO_thrown 1 (some .int) :: gw
abbrev b_MO_coil : ByteArray := prog_9_method_5_code
abbrev y_MO_coil : MethodName := ⟨"SlitWidthsModel", "coil", "(IIIII)V"⟩
abbrev w_MO_coil : List Cond := .code y_MO_coil b_MO_coil 7 none :: gw
abbrev b_MO_in : ByteArray := prog_9_method_4_code
abbrev y_MO_in : MethodName := ⟨"SlitWidthsModel", "in", "(III)Z"⟩
abbrev w_MO_in : List Cond := .code y_MO_in b_MO_in 3 (some .boolean) :: gw
abbrev b_MO_throwing : ByteArray := prog_9_method_3_code
abbrev y_MO_throwing : MethodName := ⟨"SlitWidthsModel", "throwing", "(ZZ)Z"⟩
abbrev w_MO_throwing : List Cond := .code y_MO_throwing b_MO_throwing 3 (some .boolean) :: gw
abbrev b_MO_want : ByteArray := prog_9_method_6_code
abbrev y_MO_want : MethodName := ⟨"SlitWidthsModel", "want", "(II)I"⟩
abbrev w_MO_want : List Cond := .code y_MO_want b_MO_want 3 (some .int) :: gw
abbrev b_MO_strips : ByteArray := prog_9_method_7_code
abbrev y_MO_strips : MethodName := ⟨"SlitWidthsModel", "strips", "(II)V"⟩
abbrev w_MO_strips : List Cond := .code y_MO_strips b_MO_strips 3 none :: gw
abbrev b_MO_fill : ByteArray := prog_9_method_12_code
abbrev y_MO_fill : MethodName := ⟨"SlitWidthsModel", "fill", "()I"⟩
abbrev w_MO_fill : List Cond := .code y_MO_fill b_MO_fill 1 (some .int) :: gw
abbrev b_MO_findBest : ByteArray := prog_9_method_11_code
abbrev y_MO_findBest : MethodName := ⟨"SlitWidthsModel", "findBest", "()I"⟩
abbrev w_MO_findBest : List Cond := .code y_MO_findBest b_MO_findBest 8 (some .int) :: gw
abbrev b_MO_stripsNow : ByteArray := prog_9_method_8_code
abbrev y_MO_stripsNow : MethodName := ⟨"SlitWidthsModel", "stripsNow", "()I"⟩
abbrev w_MO_stripsNow : List Cond := .code y_MO_stripsNow b_MO_stripsNow 3 (some .int) :: gw
abbrev b_MO_fillNow : ByteArray := prog_9_method_9_code
abbrev y_MO_fillNow : MethodName := ⟨"SlitWidthsModel", "fillNow", "()I"⟩
abbrev w_MO_fillNow : List Cond := .code y_MO_fillNow b_MO_fillNow 3 (some .int) :: gw
abbrev b_MO_goesDown : ByteArray := prog_9_method_10_code
abbrev y_MO_goesDown : MethodName := ⟨"SlitWidthsModel", "goesDown", "()Z"⟩
abbrev w_MO_goesDown : List Cond := .code y_MO_goesDown b_MO_goesDown 2 (some .boolean) :: gw
abbrev b_MO_best : ByteArray := prog_9_method_13_code
abbrev y_MO_best : MethodName := ⟨"SlitWidthsModel", "best", "(I)I"⟩
abbrev w_MO_best : List Cond := .code y_MO_best b_MO_best 2 (some .int) :: gw
abbrev b_MO_cut : ByteArray := prog_9_method_14_code
abbrev y_MO_cut : MethodName := ⟨"SlitWidthsModel", "cut", "()I"⟩
abbrev w_MO_cut : List Cond := .code y_MO_cut b_MO_cut 3 (some .int) :: gw
abbrev b_MO_strip : ByteArray := prog_9_method_21_code
abbrev y_MO_strip : MethodName := ⟨"SlitWidthsModel", "strip", "(III)I"⟩
abbrev w_MO_strip : List Cond := .code y_MO_strip b_MO_strip 4 (some .int) :: gw
abbrev b_MO_isSetup : ByteArray := prog_9_method_15_code
abbrev y_MO_isSetup : MethodName := ⟨"SlitWidthsModel", "isSetup", "(I)Z"⟩
abbrev w_MO_isSetup : List Cond := .code y_MO_isSetup b_MO_isSetup 2 (some .boolean) :: gw
abbrev b_MO_many : ByteArray := prog_9_method_16_code
abbrev y_MO_many : MethodName := ⟨"SlitWidthsModel", "many", "(I)I"⟩
abbrev w_MO_many : List Cond := .code y_MO_many b_MO_many 4 (some .int) :: gw
abbrev b_MO_wantOf : ByteArray := prog_9_method_17_code
abbrev y_MO_wantOf : MethodName := ⟨"SlitWidthsModel", "wantOf", "(II)I"⟩
abbrev w_MO_wantOf : List Cond := .code y_MO_wantOf b_MO_wantOf 5 (some .int) :: gw
abbrev b_MO_beginOf : ByteArray := prog_9_method_18_code
abbrev y_MO_beginOf : MethodName := ⟨"SlitWidthsModel", "beginOf", "(II)I"⟩
abbrev w_MO_beginOf : List Cond := .code y_MO_beginOf b_MO_beginOf 5 (some .int) :: gw
abbrev b_MO_endOf : ByteArray := prog_9_method_19_code
abbrev y_MO_endOf : MethodName := ⟨"SlitWidthsModel", "endOf", "(II)I"⟩
abbrev w_MO_endOf : List Cond := .code y_MO_endOf b_MO_endOf 3 (some .int) :: gw
abbrev b_MO_weightOf : ByteArray := prog_9_method_20_code
abbrev y_MO_weightOf : MethodName := ⟨"SlitWidthsModel", "weightOf", "(II)I"⟩
abbrev w_MO_weightOf : List Cond := .code y_MO_weightOf b_MO_weightOf 7 (some .int) :: gw
abbrev b_MO_scrap : ByteArray := prog_9_method_22_code
abbrev y_MO_scrap : MethodName := ⟨"SlitWidthsModel", "scrap", "(I)I"⟩
abbrev w_MO_scrap : List Cond := .code y_MO_scrap b_MO_scrap 4 (some .int) :: gw
abbrev b_MO_moves : ByteArray := prog_9_method_25_code
abbrev y_MO_moves : MethodName := ⟨"SlitWidthsModel", "moves", "(II)I"⟩
abbrev w_MO_moves : List Cond := .code y_MO_moves b_MO_moves 3 (some .int) :: gw
abbrev b_MO_movesFrom : ByteArray := prog_9_method_24_code
abbrev y_MO_movesFrom : MethodName := ⟨"SlitWidthsModel", "movesFrom", "(II)I"⟩
abbrev w_MO_movesFrom : List Cond := .code y_MO_movesFrom b_MO_movesFrom 6 (some .int) :: gw
abbrev b_MO_hasKnife : ByteArray := prog_9_method_23_code
abbrev y_MO_hasKnife : MethodName := ⟨"SlitWidthsModel", "hasKnife", "(II)Z"⟩
abbrev w_MO_hasKnife : List Cond := .code y_MO_hasKnife b_MO_hasKnife 5 (some .boolean) :: gw
abbrev b_MO_order : ByteArray := prog_9_method_27_code
abbrev y_MO_order : MethodName := ⟨"SlitWidthsModel", "order", "()I"⟩
abbrev w_MO_order : List Cond := .code y_MO_order b_MO_order 1 (some .int) :: gw
abbrev b_MO_plan : ByteArray := prog_9_method_26_code
abbrev y_MO_plan : MethodName := ⟨"SlitWidthsModel", "plan", "()I"⟩
abbrev w_MO_plan : List Cond := .code y_MO_plan b_MO_plan 8 (some .int) :: gw
abbrev b_MO_ordered : ByteArray := prog_9_method_28_code
abbrev y_MO_ordered : MethodName := ⟨"SlitWidthsModel", "ordered", "(I)I"⟩
abbrev w_MO_ordered : List Cond := .code y_MO_ordered b_MO_ordered 9 (some .int) :: gw
abbrev b_MO_defect : ByteArray := prog_9_method_29_code
abbrev y_MO_defect : MethodName := ⟨"SlitWidthsModel", "defect", "(II)I"⟩
abbrev w_MO_defect : List Cond := .code y_MO_defect b_MO_defect 3 (some .int) :: gw
abbrev b_MO_sound : ByteArray := prog_9_method_30_code
abbrev y_MO_sound : MethodName := ⟨"SlitWidthsModel", "sound", "()V"⟩
abbrev w_MO_sound : List Cond := .code y_MO_sound b_MO_sound 1 none :: gw
abbrev b_MO_shift : ByteArray := prog_9_method_32_code
abbrev y_MO_shift : MethodName := ⟨"SlitWidthsModel", "shift", "(I)I"⟩
abbrev w_MO_shift : List Cond := .code y_MO_shift b_MO_shift 4 (some .int) :: gw
abbrev b_MO_isSound : ByteArray := prog_9_method_31_code
abbrev y_MO_isSound : MethodName := ⟨"SlitWidthsModel", "isSound", "(II)Z"⟩
abbrev w_MO_isSound : List Cond := .code y_MO_isSound b_MO_isSound 6 (some .boolean) :: gw
theorem s_0 : Cond.selects "SlitWidths$PatternSearch" ⟨"SlitWidths$PatternSearch", "measure", "(LSlitWidths$Coil;LSlitWidths$Wishes;)V"⟩ ⟨"SlitWidths$PatternSearch", "measure", "(LSlitWidths$Coil;LSlitWidths$Wishes;)V"⟩ ∈ gw := gw_of (List.mem_append_left _ (List.mem_of_getElem? (i := 0) (by decide +kernel))) (by decide +kernel)
theorem s_1 : Cond.selects "SlitWidths$PatternSearch" ⟨"SlitWidths$PatternSearch", "tryCounts", "(LSlitWidths$Wishes;III)V"⟩ ⟨"SlitWidths$PatternSearch", "tryCounts", "(LSlitWidths$Wishes;III)V"⟩ ∈ gw := gw_of (List.mem_append_left _ (List.mem_of_getElem? (i := 1) (by decide +kernel))) (by decide +kernel)
theorem s_2 : Cond.selects "SlitWidths$PatternSearch" ⟨"SlitWidths$PatternSearch", "keepIfBetter", "(II)V"⟩ ⟨"SlitWidths$PatternSearch", "keepIfBetter", "(II)V"⟩ ∈ gw := gw_of (List.mem_append_left _ (List.mem_of_getElem? (i := 2) (by decide +kernel))) (by decide +kernel)
theorem s_3 : Cond.selects "SlitWidths$Sequence" ⟨"SlitWidths$Sequence", "measureSteps", "([LSlitWidths$SetUp;I)V"⟩ ⟨"SlitWidths$Sequence", "measureSteps", "([LSlitWidths$SetUp;I)V"⟩ ∈ gw := gw_of (List.mem_append_left _ (List.mem_of_getElem? (i := 3) (by decide +kernel))) (by decide +kernel)
theorem s_4 : Cond.selects "SlitWidths$Sequence" ⟨"SlitWidths$Sequence", "measureSets", "(I)V"⟩ ⟨"SlitWidths$Sequence", "measureSets", "(I)V"⟩ ∈ gw := gw_of (List.mem_append_left _ (List.mem_of_getElem? (i := 4) (by decide +kernel))) (by decide +kernel)
theorem s_5 : Cond.selects "SlitWidths$Sequence" ⟨"SlitWidths$Sequence", "lowestNext", "(III)I"⟩ ⟨"SlitWidths$Sequence", "lowestNext", "(III)I"⟩ ∈ gw := gw_of (List.mem_append_left _ (List.mem_of_getElem? (i := 5) (by decide +kernel))) (by decide +kernel)
theorem s_6 : Cond.selects "SlitWidths$Sequence" ⟨"SlitWidths$Sequence", "through", "(III)I"⟩ ⟨"SlitWidths$Sequence", "through", "(III)I"⟩ ∈ gw := gw_of (List.mem_append_left _ (List.mem_of_getElem? (i := 6) (by decide +kernel))) (by decide +kernel)
theorem s_7 : Cond.selects "SlitWidths$Sequence" ⟨"SlitWidths$Sequence", "step", "(II)I"⟩ ⟨"SlitWidths$Sequence", "step", "(II)I"⟩ ∈ gw := gw_of (List.mem_append_left _ (List.mem_of_getElem? (i := 7) (by decide +kernel))) (by decide +kernel)
theorem s_8 : Cond.selects "SlitWidths$Sequence" ⟨"SlitWidths$Sequence", "choose", "(I)V"⟩ ⟨"SlitWidths$Sequence", "choose", "(I)V"⟩ ∈ gw := gw_of (List.mem_append_left _ (List.mem_of_getElem? (i := 8) (by decide +kernel))) (by decide +kernel)
theorem s_9 : Cond.selects "java/lang/Throwable" ⟨"java/lang/Throwable", "fillInStackTrace", "(I)Ljava/lang/Throwable;"⟩ ⟨"java/lang/Throwable", "fillInStackTrace", "(I)Ljava/lang/Throwable;"⟩ ∈ gw := gw_of (List.mem_append_left _ (List.mem_of_getElem? (i := 9) (by decide +kernel))) (by decide +kernel)
theorem s_10 : Cond.selects "SlitWidths" ⟨"SlitWidths", "checkWanted", "(I)V"⟩ ⟨"SlitWidths", "checkWanted", "(I)V"⟩ ∈ gw := gw_of (List.mem_append_left _ (List.mem_of_getElem? (i := 10) (by decide +kernel))) (by decide +kernel)
theorem s_11 : Cond.selects "SlitWidths$SetUp" ⟨"SlitWidths$SetUp", "lay", "(III)V"⟩ ⟨"SlitWidths$SetUp", "lay", "(III)V"⟩ ∈ gw := gw_of (List.mem_append_left _ (List.mem_of_getElem? (i := 11) (by decide +kernel))) (by decide +kernel)
theorem s_12 : Cond.selects "SlitWidths$SetUp" ⟨"SlitWidths$SetUp", "setKnife", "(I)V"⟩ ⟨"SlitWidths$SetUp", "setKnife", "(I)V"⟩ ∈ gw := gw_of (List.mem_append_left _ (List.mem_of_getElem? (i := 12) (by decide +kernel))) (by decide +kernel)
theorem s_13 : Cond.selects "SlitWidths" ⟨"SlitWidths", "checkSetUp", "(I)V"⟩ ⟨"SlitWidths", "checkSetUp", "(I)V"⟩ ∈ gw := gw_of (List.mem_append_left _ (List.mem_of_getElem? (i := 13) (by decide +kernel))) (by decide +kernel)
theorem s_14 : Cond.selects "SlitWidths$SetUp" ⟨"SlitWidths$SetUp", "kilosBefore", "(I)I"⟩ ⟨"SlitWidths$SetUp", "kilosBefore", "(I)I"⟩ ∈ gw := gw_of (List.mem_append_left _ (List.mem_of_getElem? (i := 14) (by decide +kernel))) (by decide +kernel)
theorem s_15 : Cond.selects "SlitWidths$SetUp" ⟨"SlitWidths$SetUp", "leftPast", "(LSlitWidths$Defects;I)I"⟩ ⟨"SlitWidths$SetUp", "leftPast", "(LSlitWidths$Defects;I)I"⟩ ∈ gw := gw_of (List.mem_append_left _ (List.mem_of_getElem? (i := 15) (by decide +kernel))) (by decide +kernel)
theorem s_16 : Cond.selects "SlitWidthsModel" ⟨"SlitWidthsModel", "throwing", "(ZZ)Z"⟩ ⟨"SlitWidthsModel", "throwing", "(ZZ)Z"⟩ ∈ gw := gw_of (List.mem_append_left _ (List.mem_of_getElem? (i := 16) (by decide +kernel))) (by decide +kernel)
theorem s_17 : Cond.selects "SlitWidthsModel" ⟨"SlitWidthsModel", "findBest", "()I"⟩ ⟨"SlitWidthsModel", "findBest", "()I"⟩ ∈ gw := gw_of (List.mem_append_left _ (List.mem_of_getElem? (i := 17) (by decide +kernel))) (by decide +kernel)
theorem s_18 : Cond.selects "SlitWidthsModel" ⟨"SlitWidthsModel", "stripsNow", "()I"⟩ ⟨"SlitWidthsModel", "stripsNow", "()I"⟩ ∈ gw := gw_of (List.mem_append_left _ (List.mem_of_getElem? (i := 18) (by decide +kernel))) (by decide +kernel)
theorem s_19 : Cond.selects "SlitWidthsModel" ⟨"SlitWidthsModel", "fillNow", "()I"⟩ ⟨"SlitWidthsModel", "fillNow", "()I"⟩ ∈ gw := gw_of (List.mem_append_left _ (List.mem_of_getElem? (i := 19) (by decide +kernel))) (by decide +kernel)
theorem s_20 : Cond.selects "SlitWidthsModel" ⟨"SlitWidthsModel", "goesDown", "()Z"⟩ ⟨"SlitWidthsModel", "goesDown", "()Z"⟩ ∈ gw := gw_of (List.mem_append_left _ (List.mem_of_getElem? (i := 20) (by decide +kernel))) (by decide +kernel)
theorem s_21 : Cond.selects "SlitWidthsModel" ⟨"SlitWidthsModel", "isSetup", "(I)Z"⟩ ⟨"SlitWidthsModel", "isSetup", "(I)Z"⟩ ∈ gw := gw_of (List.mem_append_left _ (List.mem_of_getElem? (i := 21) (by decide +kernel))) (by decide +kernel)
theorem s_22 : Cond.selects "SlitWidthsModel" ⟨"SlitWidthsModel", "many", "(I)I"⟩ ⟨"SlitWidthsModel", "many", "(I)I"⟩ ∈ gw := gw_of (List.mem_append_left _ (List.mem_of_getElem? (i := 22) (by decide +kernel))) (by decide +kernel)
theorem s_23 : Cond.selects "SlitWidthsModel" ⟨"SlitWidthsModel", "wantOf", "(II)I"⟩ ⟨"SlitWidthsModel", "wantOf", "(II)I"⟩ ∈ gw := gw_of (List.mem_append_left _ (List.mem_of_getElem? (i := 23) (by decide +kernel))) (by decide +kernel)
theorem s_24 : Cond.selects "SlitWidthsModel" ⟨"SlitWidthsModel", "beginOf", "(II)I"⟩ ⟨"SlitWidthsModel", "beginOf", "(II)I"⟩ ∈ gw := gw_of (List.mem_append_left _ (List.mem_of_getElem? (i := 24) (by decide +kernel))) (by decide +kernel)
theorem s_25 : Cond.selects "SlitWidthsModel" ⟨"SlitWidthsModel", "endOf", "(II)I"⟩ ⟨"SlitWidthsModel", "endOf", "(II)I"⟩ ∈ gw := gw_of (List.mem_append_left _ (List.mem_of_getElem? (i := 25) (by decide +kernel))) (by decide +kernel)
theorem s_26 : Cond.selects "SlitWidthsModel" ⟨"SlitWidthsModel", "weightOf", "(II)I"⟩ ⟨"SlitWidthsModel", "weightOf", "(II)I"⟩ ∈ gw := gw_of (List.mem_append_left _ (List.mem_of_getElem? (i := 26) (by decide +kernel))) (by decide +kernel)
theorem s_27 : Cond.selects "SlitWidthsModel" ⟨"SlitWidthsModel", "movesFrom", "(II)I"⟩ ⟨"SlitWidthsModel", "movesFrom", "(II)I"⟩ ∈ gw := gw_of (List.mem_append_left _ (List.mem_of_getElem? (i := 27) (by decide +kernel))) (by decide +kernel)
theorem s_28 : Cond.selects "SlitWidthsModel" ⟨"SlitWidthsModel", "hasKnife", "(II)Z"⟩ ⟨"SlitWidthsModel", "hasKnife", "(II)Z"⟩ ∈ gw := gw_of (List.mem_append_left _ (List.mem_of_getElem? (i := 28) (by decide +kernel))) (by decide +kernel)
theorem s_29 : Cond.selects "SlitWidthsModel" ⟨"SlitWidthsModel", "plan", "()I"⟩ ⟨"SlitWidthsModel", "plan", "()I"⟩ ∈ gw := gw_of (List.mem_append_left _ (List.mem_of_getElem? (i := 29) (by decide +kernel))) (by decide +kernel)
theorem s_30 : Cond.selects "SlitWidthsModel" ⟨"SlitWidthsModel", "isSound", "(II)Z"⟩ ⟨"SlitWidthsModel", "isSound", "(II)Z"⟩ ∈ gw := gw_of (List.mem_append_left _ (List.mem_of_getElem? (i := 30) (by decide +kernel))) (by decide +kernel)
end
section
theorem m_0 : (Jvm.Cond.initialized "SlitWidthsLaw") ∈ gw := gw_t (List.mem_of_getElem? (i := 0) (by decide +kernel)) (by decide +kernel)
theorem m_1 : (Jvm.Cond.initialized "SlitWidths") ∈ gw := gw_t (List.mem_of_getElem? (i := 1) (by decide +kernel)) (by decide +kernel)
theorem m_2 : (Jvm.Cond.initialized "SlitWidths$Coil") ∈ gw := gw_t (List.mem_of_getElem? (i := 2) (by decide +kernel)) (by decide +kernel)
theorem m_3 : (Jvm.Cond.initialized "SlitWidths$Wishes") ∈ gw := gw_t (List.mem_of_getElem? (i := 3) (by decide +kernel)) (by decide +kernel)
theorem m_4 : (Jvm.Cond.initialized "SlitWidths$PatternSearch") ∈ gw := gw_t (List.mem_of_getElem? (i := 4) (by decide +kernel)) (by decide +kernel)
theorem m_5 : (Jvm.Cond.initialized "SlitWidths$Defects") ∈ gw := gw_t (List.mem_of_getElem? (i := 5) (by decide +kernel)) (by decide +kernel)
theorem m_6 : (Jvm.Cond.initialized "SlitWidths$Sequence") ∈ gw := gw_t (List.mem_of_getElem? (i := 6) (by decide +kernel)) (by decide +kernel)
theorem m_7 : (Jvm.Cond.initialized "SlitWidths$SetUp") ∈ gw := gw_t (List.mem_of_getElem? (i := 7) (by decide +kernel)) (by decide +kernel)
theorem m_8 : (Jvm.Cond.initialized "SlitWidthsModel") ∈ gw := gw_t (List.mem_of_getElem? (i := 8) (by decide +kernel)) (by decide +kernel)
theorem m_9 : (Jvm.Cond.initialized "java/lang/Throwable") ∈ gw := gw_t (List.mem_of_getElem? (i := 9) (by decide +kernel)) (by decide +kernel)
theorem m_10 : (Jvm.Cond.initialized "java/lang/Exception") ∈ gw := gw_t (List.mem_of_getElem? (i := 10) (by decide +kernel)) (by decide +kernel)
theorem m_11 : (Jvm.Cond.initialized "java/lang/RuntimeException") ∈ gw := gw_t (List.mem_of_getElem? (i := 11) (by decide +kernel)) (by decide +kernel)
theorem m_12 : (Jvm.Cond.initialized "java/lang/IllegalArgumentException") ∈ gw := gw_t (List.mem_of_getElem? (i := 12) (by decide +kernel)) (by decide +kernel)
theorem m_13 : (Jvm.Cond.initialized "java/lang/IllegalStateException") ∈ gw := gw_t (List.mem_of_getElem? (i := 13) (by decide +kernel)) (by decide +kernel)
theorem m_14 : (Jvm.Cond.initialized "java/lang/IndexOutOfBoundsException") ∈ gw := gw_t (List.mem_of_getElem? (i := 14) (by decide +kernel)) (by decide +kernel)
theorem m_15 : (Jvm.Cond.initialized "java/util/Arrays") ∈ gw := gw_t (List.mem_of_getElem? (i := 15) (by decide +kernel)) (by decide +kernel)
theorem m_16 : (Jvm.Cond.initialized "java/lang/System") ∈ gw := gw_t (List.mem_of_getElem? (i := 16) (by decide +kernel)) (by decide +kernel)
theorem m_17 : (Jvm.Cond.initialized "java/lang/UnsupportedOperationException") ∈ gw := gw_t (List.mem_of_getElem? (i := 17) (by decide +kernel)) (by decide +kernel)
theorem m_18 : (Jvm.Cond.classLink "SlitWidthsLaw" (8 : Nat) "SlitWidths") ∈ gw := gw_t (List.mem_of_getElem? (i := 18) (by decide +kernel)) (by decide +kernel)
theorem m_19 : (Jvm.Cond.instantiable "SlitWidths" (7 : Nat)) ∈ gw := gw_t (List.mem_of_getElem? (i := 19) (by decide +kernel)) (by decide +kernel)
theorem m_20 : (Jvm.Cond.methodLink "SlitWidthsLaw" (56 : Nat) ({ cls := "SlitWidths", name := "<init>", desc := "()V" } : Jvm.MethodName)) ∈ gw := gw_t (List.mem_of_getElem? (i := 20) (by decide +kernel)) (by decide +kernel)
theorem m_21 : (Jvm.Cond.instanceMethod ({ cls := "SlitWidths", name := "<init>", desc := "()V" } : Jvm.MethodName)) ∈ gw := gw_t (List.mem_of_getElem? (i := 21) (by decide +kernel)) (by decide +kernel)
theorem m_22 : (Jvm.Cond.code ({ cls := "SlitWidths", name := "<init>", desc := "()V" } : Jvm.MethodName) prog_1_method_1_code (2 : Nat) (Option.none : Option Jvm.ClassFile.FieldType)) ∈ gw := gw_t (List.mem_of_getElem? (i := 22) (by decide +kernel)) (by decide +kernel)
theorem m_23 : (Jvm.Cond.methodLink "SlitWidths" (3 : Nat) ({ cls := "java/lang/Object", name := "<init>", desc := "()V" } : Jvm.MethodName)) ∈ gw := gw_t (List.mem_of_getElem? (i := 23) (by decide +kernel)) (by decide +kernel)
theorem m_24 : (Jvm.Cond.instanceMethod ({ cls := "java/lang/Object", name := "<init>", desc := "()V" } : Jvm.MethodName)) ∈ gw := gw_t (List.mem_of_getElem? (i := 24) (by decide +kernel)) (by decide +kernel)
theorem m_25 : (Jvm.Cond.code ({ cls := "java/lang/Object", name := "<init>", desc := "()V" } : Jvm.MethodName) object_method_1_code (1 : Nat) (Option.none : Option Jvm.ClassFile.FieldType)) ∈ gw := gw_t (List.mem_of_getElem? (i := 25) (by decide +kernel)) (by decide +kernel)
theorem m_26 : (Jvm.Cond.classLink "SlitWidths" (9 : Nat) "SlitWidths$Coil") ∈ gw := gw_t (List.mem_of_getElem? (i := 26) (by decide +kernel)) (by decide +kernel)
theorem m_27 : (Jvm.Cond.instantiable "SlitWidths$Coil" (5 : Nat)) ∈ gw := gw_t (List.mem_of_getElem? (i := 27) (by decide +kernel)) (by decide +kernel)
theorem m_29 : (Jvm.Cond.instanceMethod ({ cls := "SlitWidths$Coil", name := "<init>", desc := "()V" } : Jvm.MethodName)) ∈ gw := gw_t (List.mem_of_getElem? (i := 29) (by decide +kernel)) (by decide +kernel)
theorem m_30 : (Jvm.Cond.code ({ cls := "SlitWidths$Coil", name := "<init>", desc := "()V" } : Jvm.MethodName) prog_2_method_1_code (1 : Nat) (Option.none : Option Jvm.ClassFile.FieldType)) ∈ gw := gw_t (List.mem_of_getElem? (i := 30) (by decide +kernel)) (by decide +kernel)
theorem m_31 : (Jvm.Cond.methodLink "SlitWidths$Coil" (1 : Nat) ({ cls := "java/lang/Object", name := "<init>", desc := "()V" } : Jvm.MethodName)) ∈ gw := gw_t (List.mem_of_getElem? (i := 31) (by decide +kernel)) (by decide +kernel)
theorem m_32 : (Jvm.Cond.fieldLink "SlitWidths$Coil" (7 : Nat) "SlitWidths$Coil" "width" "I") ∈ gw := gw_t (List.mem_of_getElem? (i := 32) (by decide +kernel)) (by decide +kernel)
theorem m_33 : (Jvm.Cond.fieldLink "SlitWidths$SetUp" (46 : Nat) "SlitWidths$Coil" "width" "I") ∈ gw := gw_t (List.mem_of_getElem? (i := 33) (by decide +kernel)) (by decide +kernel)
theorem m_34 : (Jvm.Cond.fieldLink "SlitWidths$PatternSearch" (50 : Nat) "SlitWidths$Coil" "width" "I") ∈ gw := gw_t (List.mem_of_getElem? (i := 34) (by decide +kernel)) (by decide +kernel)
theorem m_35 : (Jvm.Cond.fieldLink "SlitWidths" (67 : Nat) "SlitWidths$Coil" "width" "I") ∈ gw := gw_t (List.mem_of_getElem? (i := 35) (by decide +kernel)) (by decide +kernel)
theorem m_36 : (Jvm.Cond.fieldLink "SlitWidths$Coil" (13 : Nat) "SlitWidths$Coil" "kilos" "I") ∈ gw := gw_t (List.mem_of_getElem? (i := 36) (by decide +kernel)) (by decide +kernel)
theorem m_37 : (Jvm.Cond.fieldLink "SlitWidths$SetUp" (49 : Nat) "SlitWidths$Coil" "kilos" "I") ∈ gw := gw_t (List.mem_of_getElem? (i := 37) (by decide +kernel)) (by decide +kernel)
theorem m_38 : (Jvm.Cond.fieldLink "SlitWidths" (70 : Nat) "SlitWidths$Coil" "kilos" "I") ∈ gw := gw_t (List.mem_of_getElem? (i := 38) (by decide +kernel)) (by decide +kernel)
theorem m_39 : (Jvm.Cond.fieldLink "SlitWidths$Coil" (16 : Nat) "SlitWidths$Coil" "trim" "I") ∈ gw := gw_t (List.mem_of_getElem? (i := 39) (by decide +kernel)) (by decide +kernel)
theorem m_40 : (Jvm.Cond.fieldLink "SlitWidths$SetUp" (50 : Nat) "SlitWidths$Coil" "trim" "I") ∈ gw := gw_t (List.mem_of_getElem? (i := 40) (by decide +kernel)) (by decide +kernel)
theorem m_41 : (Jvm.Cond.fieldLink "SlitWidths$PatternSearch" (55 : Nat) "SlitWidths$Coil" "trim" "I") ∈ gw := gw_t (List.mem_of_getElem? (i := 41) (by decide +kernel)) (by decide +kernel)
theorem m_42 : (Jvm.Cond.fieldLink "SlitWidths" (73 : Nat) "SlitWidths$Coil" "trim" "I") ∈ gw := gw_t (List.mem_of_getElem? (i := 42) (by decide +kernel)) (by decide +kernel)
theorem m_43 : (Jvm.Cond.fieldLink "SlitWidths$Coil" (19 : Nat) "SlitWidths$Coil" "kerf" "I") ∈ gw := gw_t (List.mem_of_getElem? (i := 43) (by decide +kernel)) (by decide +kernel)
theorem m_44 : (Jvm.Cond.fieldLink "SlitWidths$PatternSearch" (58 : Nat) "SlitWidths$Coil" "kerf" "I") ∈ gw := gw_t (List.mem_of_getElem? (i := 44) (by decide +kernel)) (by decide +kernel)
theorem m_45 : (Jvm.Cond.fieldLink "SlitWidths" (76 : Nat) "SlitWidths$Coil" "kerf" "I") ∈ gw := gw_t (List.mem_of_getElem? (i := 45) (by decide +kernel)) (by decide +kernel)
theorem m_46 : (Jvm.Cond.fieldLink "SlitWidths$SetUp" (71 : Nat) "SlitWidths$Coil" "kerf" "I") ∈ gw := gw_t (List.mem_of_getElem? (i := 46) (by decide +kernel)) (by decide +kernel)
theorem m_47 : (Jvm.Cond.fieldLink "SlitWidths$Coil" (22 : Nat) "SlitWidths$Coil" "knives" "I") ∈ gw := gw_t (List.mem_of_getElem? (i := 47) (by decide +kernel)) (by decide +kernel)
theorem m_48 : (Jvm.Cond.fieldLink "SlitWidths$PatternSearch" (61 : Nat) "SlitWidths$Coil" "knives" "I") ∈ gw := gw_t (List.mem_of_getElem? (i := 48) (by decide +kernel)) (by decide +kernel)
theorem m_49 : (Jvm.Cond.fieldLink "SlitWidths" (79 : Nat) "SlitWidths$Coil" "knives" "I") ∈ gw := gw_t (List.mem_of_getElem? (i := 49) (by decide +kernel)) (by decide +kernel)
theorem m_50 : (Jvm.Cond.lays "SlitWidths$Coil" "SlitWidths$Coil" "width" "I") ∈ gw := gw_t (List.mem_of_getElem? (i := 50) (by decide +kernel)) (by decide +kernel)
theorem m_52 : (Jvm.Cond.lays "SlitWidths$Coil" "SlitWidths$Coil" "kilos" "I") ∈ gw := gw_t (List.mem_of_getElem? (i := 52) (by decide +kernel)) (by decide +kernel)
theorem m_54 : (Jvm.Cond.lays "SlitWidths$Coil" "SlitWidths$Coil" "trim" "I") ∈ gw := gw_t (List.mem_of_getElem? (i := 54) (by decide +kernel)) (by decide +kernel)
theorem m_56 : (Jvm.Cond.lays "SlitWidths$Coil" "SlitWidths$Coil" "kerf" "I") ∈ gw := gw_t (List.mem_of_getElem? (i := 56) (by decide +kernel)) (by decide +kernel)
theorem m_58 : (Jvm.Cond.lays "SlitWidths$Coil" "SlitWidths$Coil" "knives" "I") ∈ gw := gw_t (List.mem_of_getElem? (i := 58) (by decide +kernel)) (by decide +kernel)
theorem m_61 : (Jvm.Cond.classLink "SlitWidths" (16 : Nat) "SlitWidths$Wishes") ∈ gw := gw_t (List.mem_of_getElem? (i := 61) (by decide +kernel)) (by decide +kernel)
theorem m_62 : (Jvm.Cond.instantiable "SlitWidths$Wishes" (3 : Nat)) ∈ gw := gw_t (List.mem_of_getElem? (i := 62) (by decide +kernel)) (by decide +kernel)
theorem m_64 : (Jvm.Cond.instanceMethod ({ cls := "SlitWidths$Wishes", name := "<init>", desc := "()V" } : Jvm.MethodName)) ∈ gw := gw_t (List.mem_of_getElem? (i := 64) (by decide +kernel)) (by decide +kernel)
theorem m_65 : (Jvm.Cond.code ({ cls := "SlitWidths$Wishes", name := "<init>", desc := "()V" } : Jvm.MethodName) prog_7_method_1_code (1 : Nat) (Option.none : Option Jvm.ClassFile.FieldType)) ∈ gw := gw_t (List.mem_of_getElem? (i := 65) (by decide +kernel)) (by decide +kernel)
theorem m_66 : (Jvm.Cond.methodLink "SlitWidths$Wishes" (3 : Nat) ({ cls := "java/lang/Object", name := "<init>", desc := "()V" } : Jvm.MethodName)) ∈ gw := gw_t (List.mem_of_getElem? (i := 66) (by decide +kernel)) (by decide +kernel)
theorem m_67 : (Jvm.Cond.fieldLink "SlitWidths$Wishes" (9 : Nat) "SlitWidths$Wishes" "widths" "[I") ∈ gw := gw_t (List.mem_of_getElem? (i := 67) (by decide +kernel)) (by decide +kernel)
theorem m_68 : (Jvm.Cond.fieldLink "SlitWidths$SetUp" (64 : Nat) "SlitWidths$Wishes" "widths" "[I") ∈ gw := gw_t (List.mem_of_getElem? (i := 68) (by decide +kernel)) (by decide +kernel)
theorem m_69 : (Jvm.Cond.fieldLink "SlitWidths$PatternSearch" (77 : Nat) "SlitWidths$Wishes" "widths" "[I") ∈ gw := gw_t (List.mem_of_getElem? (i := 69) (by decide +kernel)) (by decide +kernel)
theorem m_70 : (Jvm.Cond.fieldLink "SlitWidths" (96 : Nat) "SlitWidths$Wishes" "widths" "[I") ∈ gw := gw_t (List.mem_of_getElem? (i := 70) (by decide +kernel)) (by decide +kernel)
theorem m_71 : (Jvm.Cond.fieldLink "SlitWidths$Wishes" (15 : Nat) "SlitWidths$Wishes" "still" "[I") ∈ gw := gw_t (List.mem_of_getElem? (i := 71) (by decide +kernel)) (by decide +kernel)
theorem m_72 : (Jvm.Cond.fieldLink "SlitWidths$PatternSearch" (80 : Nat) "SlitWidths$Wishes" "still" "[I") ∈ gw := gw_t (List.mem_of_getElem? (i := 72) (by decide +kernel)) (by decide +kernel)
theorem m_73 : (Jvm.Cond.fieldLink "SlitWidths" (100 : Nat) "SlitWidths$Wishes" "still" "[I") ∈ gw := gw_t (List.mem_of_getElem? (i := 73) (by decide +kernel)) (by decide +kernel)
theorem m_74 : (Jvm.Cond.fieldLink "SlitWidths$Wishes" (18 : Nat) "SlitWidths$Wishes" "count" "I") ∈ gw := gw_t (List.mem_of_getElem? (i := 74) (by decide +kernel)) (by decide +kernel)
theorem m_75 : (Jvm.Cond.fieldLink "SlitWidths$SetUp" (56 : Nat) "SlitWidths$Wishes" "count" "I") ∈ gw := gw_t (List.mem_of_getElem? (i := 75) (by decide +kernel)) (by decide +kernel)
theorem m_76 : (Jvm.Cond.fieldLink "SlitWidths" (86 : Nat) "SlitWidths$Wishes" "count" "I") ∈ gw := gw_t (List.mem_of_getElem? (i := 76) (by decide +kernel)) (by decide +kernel)
theorem m_77 : (Jvm.Cond.fieldLink "SlitWidths$PatternSearch" (72 : Nat) "SlitWidths$Wishes" "count" "I") ∈ gw := gw_t (List.mem_of_getElem? (i := 77) (by decide +kernel)) (by decide +kernel)
theorem m_78 : (Jvm.Cond.laysFinal "SlitWidths$Wishes" "SlitWidths$Wishes" "widths" "[I") ∈ gw := gw_t (List.mem_of_getElem? (i := 78) (by decide +kernel)) (by decide +kernel)
theorem m_80 : (Jvm.Cond.laysFinal "SlitWidths$Wishes" "SlitWidths$Wishes" "still" "[I") ∈ gw := gw_t (List.mem_of_getElem? (i := 80) (by decide +kernel)) (by decide +kernel)
theorem m_82 : (Jvm.Cond.lays "SlitWidths$Wishes" "SlitWidths$Wishes" "count" "I") ∈ gw := gw_t (List.mem_of_getElem? (i := 82) (by decide +kernel)) (by decide +kernel)
theorem m_85 : (Jvm.Cond.arrayClass Jvm.ClassFile.FieldType.int) ∈ gw := gw_t (List.mem_of_getElem? (i := 85) (by decide +kernel)) (by decide +kernel)
theorem m_86 : (Jvm.Cond.classLink "SlitWidths" (23 : Nat) "SlitWidths$PatternSearch") ∈ gw := gw_t (List.mem_of_getElem? (i := 86) (by decide +kernel)) (by decide +kernel)
theorem m_87 : (Jvm.Cond.instantiable "SlitWidths$PatternSearch" (10 : Nat)) ∈ gw := gw_t (List.mem_of_getElem? (i := 87) (by decide +kernel)) (by decide +kernel)
theorem m_89 : (Jvm.Cond.instanceMethod ({ cls := "SlitWidths$PatternSearch", name := "<init>", desc := "()V" } : Jvm.MethodName)) ∈ gw := gw_t (List.mem_of_getElem? (i := 89) (by decide +kernel)) (by decide +kernel)
theorem m_90 : (Jvm.Cond.code ({ cls := "SlitWidths$PatternSearch", name := "<init>", desc := "()V" } : Jvm.MethodName) prog_4_method_1_code (1 : Nat) (Option.none : Option Jvm.ClassFile.FieldType)) ∈ gw := gw_t (List.mem_of_getElem? (i := 90) (by decide +kernel)) (by decide +kernel)
theorem m_91 : (Jvm.Cond.methodLink "SlitWidths$PatternSearch" (3 : Nat) ({ cls := "java/lang/Object", name := "<init>", desc := "()V" } : Jvm.MethodName)) ∈ gw := gw_t (List.mem_of_getElem? (i := 91) (by decide +kernel)) (by decide +kernel)
theorem m_92 : (Jvm.Cond.fieldLink "SlitWidths$PatternSearch" (9 : Nat) "SlitWidths$PatternSearch" "bestCounts" "[I") ∈ gw := gw_t (List.mem_of_getElem? (i := 92) (by decide +kernel)) (by decide +kernel)
theorem m_93 : (Jvm.Cond.fieldLink "SlitWidths$SetUp" (61 : Nat) "SlitWidths$PatternSearch" "bestCounts" "[I") ∈ gw := gw_t (List.mem_of_getElem? (i := 93) (by decide +kernel)) (by decide +kernel)
theorem m_94 : (Jvm.Cond.fieldLink "SlitWidths" (116 : Nat) "SlitWidths$PatternSearch" "bestCounts" "[I") ∈ gw := gw_t (List.mem_of_getElem? (i := 94) (by decide +kernel)) (by decide +kernel)
theorem m_95 : (Jvm.Cond.fieldLink "SlitWidths$PatternSearch" (15 : Nat) "SlitWidths$PatternSearch" "bestStrips" "I") ∈ gw := gw_t (List.mem_of_getElem? (i := 95) (by decide +kernel)) (by decide +kernel)
theorem m_96 : (Jvm.Cond.fieldLink "SlitWidths" (121 : Nat) "SlitWidths$PatternSearch" "bestStrips" "I") ∈ gw := gw_t (List.mem_of_getElem? (i := 96) (by decide +kernel)) (by decide +kernel)
theorem m_97 : (Jvm.Cond.fieldLink "SlitWidths$PatternSearch" (19 : Nat) "SlitWidths$PatternSearch" "bestFill" "I") ∈ gw := gw_t (List.mem_of_getElem? (i := 97) (by decide +kernel)) (by decide +kernel)
theorem m_98 : (Jvm.Cond.fieldLink "SlitWidths$SetUp" (51 : Nat) "SlitWidths$PatternSearch" "bestFill" "I") ∈ gw := gw_t (List.mem_of_getElem? (i := 98) (by decide +kernel)) (by decide +kernel)
theorem m_99 : (Jvm.Cond.fieldLink "SlitWidths" (113 : Nat) "SlitWidths$PatternSearch" "bestFill" "I") ∈ gw := gw_t (List.mem_of_getElem? (i := 99) (by decide +kernel)) (by decide +kernel)
theorem m_100 : (Jvm.Cond.fieldLink "SlitWidths$PatternSearch" (22 : Nat) "SlitWidths$PatternSearch" "known" "Z") ∈ gw := gw_t (List.mem_of_getElem? (i := 100) (by decide +kernel)) (by decide +kernel)
theorem m_101 : (Jvm.Cond.fieldLink "SlitWidths" (82 : Nat) "SlitWidths$PatternSearch" "known" "Z") ∈ gw := gw_t (List.mem_of_getElem? (i := 101) (by decide +kernel)) (by decide +kernel)
theorem m_102 : (Jvm.Cond.fieldLink "SlitWidths$PatternSearch" (26 : Nat) "SlitWidths$PatternSearch" "pitches" "[I") ∈ gw := gw_t (List.mem_of_getElem? (i := 102) (by decide +kernel)) (by decide +kernel)
theorem m_103 : (Jvm.Cond.fieldLink "SlitWidths$PatternSearch" (29 : Nat) "SlitWidths$PatternSearch" "pitchesFrom" "[I") ∈ gw := gw_t (List.mem_of_getElem? (i := 103) (by decide +kernel)) (by decide +kernel)
theorem m_104 : (Jvm.Cond.fieldLink "SlitWidths$PatternSearch" (32 : Nat) "SlitWidths$PatternSearch" "counts" "[I") ∈ gw := gw_t (List.mem_of_getElem? (i := 104) (by decide +kernel)) (by decide +kernel)
theorem m_105 : (Jvm.Cond.fieldLink "SlitWidths$PatternSearch" (35 : Nat) "SlitWidths$PatternSearch" "room" "I") ∈ gw := gw_t (List.mem_of_getElem? (i := 105) (by decide +kernel)) (by decide +kernel)
theorem m_106 : (Jvm.Cond.fieldLink "SlitWidths$PatternSearch" (38 : Nat) "SlitWidths$PatternSearch" "mostStrips" "I") ∈ gw := gw_t (List.mem_of_getElem? (i := 106) (by decide +kernel)) (by decide +kernel)
theorem m_107 : (Jvm.Cond.fieldLink "SlitWidths$PatternSearch" (41 : Nat) "SlitWidths$PatternSearch" "bestSum" "I") ∈ gw := gw_t (List.mem_of_getElem? (i := 107) (by decide +kernel)) (by decide +kernel)
theorem m_108 : (Jvm.Cond.laysFinal "SlitWidths$PatternSearch" "SlitWidths$PatternSearch" "bestCounts" "[I") ∈ gw := gw_t (List.mem_of_getElem? (i := 108) (by decide +kernel)) (by decide +kernel)
theorem m_110 : (Jvm.Cond.lays "SlitWidths$PatternSearch" "SlitWidths$PatternSearch" "bestStrips" "I") ∈ gw := gw_t (List.mem_of_getElem? (i := 110) (by decide +kernel)) (by decide +kernel)
theorem m_112 : (Jvm.Cond.lays "SlitWidths$PatternSearch" "SlitWidths$PatternSearch" "bestFill" "I") ∈ gw := gw_t (List.mem_of_getElem? (i := 112) (by decide +kernel)) (by decide +kernel)
theorem m_114 : (Jvm.Cond.lays "SlitWidths$PatternSearch" "SlitWidths$PatternSearch" "known" "Z") ∈ gw := gw_t (List.mem_of_getElem? (i := 114) (by decide +kernel)) (by decide +kernel)
theorem m_116 : (Jvm.Cond.laysFinal "SlitWidths$PatternSearch" "SlitWidths$PatternSearch" "pitches" "[I") ∈ gw := gw_t (List.mem_of_getElem? (i := 116) (by decide +kernel)) (by decide +kernel)
theorem m_118 : (Jvm.Cond.laysFinal "SlitWidths$PatternSearch" "SlitWidths$PatternSearch" "pitchesFrom" "[I") ∈ gw := gw_t (List.mem_of_getElem? (i := 118) (by decide +kernel)) (by decide +kernel)
theorem m_120 : (Jvm.Cond.laysFinal "SlitWidths$PatternSearch" "SlitWidths$PatternSearch" "counts" "[I") ∈ gw := gw_t (List.mem_of_getElem? (i := 120) (by decide +kernel)) (by decide +kernel)
theorem m_122 : (Jvm.Cond.lays "SlitWidths$PatternSearch" "SlitWidths$PatternSearch" "room" "I") ∈ gw := gw_t (List.mem_of_getElem? (i := 122) (by decide +kernel)) (by decide +kernel)
theorem m_124 : (Jvm.Cond.lays "SlitWidths$PatternSearch" "SlitWidths$PatternSearch" "mostStrips" "I") ∈ gw := gw_t (List.mem_of_getElem? (i := 124) (by decide +kernel)) (by decide +kernel)
theorem m_126 : (Jvm.Cond.lays "SlitWidths$PatternSearch" "SlitWidths$PatternSearch" "bestSum" "I") ∈ gw := gw_t (List.mem_of_getElem? (i := 126) (by decide +kernel)) (by decide +kernel)
theorem m_129 : (Jvm.Cond.classLink "SlitWidths" (30 : Nat) "SlitWidths$Defects") ∈ gw := gw_t (List.mem_of_getElem? (i := 129) (by decide +kernel)) (by decide +kernel)
theorem m_130 : (Jvm.Cond.instantiable "SlitWidths$Defects" (3 : Nat)) ∈ gw := gw_t (List.mem_of_getElem? (i := 130) (by decide +kernel)) (by decide +kernel)
theorem m_132 : (Jvm.Cond.instanceMethod ({ cls := "SlitWidths$Defects", name := "<init>", desc := "()V" } : Jvm.MethodName)) ∈ gw := gw_t (List.mem_of_getElem? (i := 132) (by decide +kernel)) (by decide +kernel)
theorem m_133 : (Jvm.Cond.code ({ cls := "SlitWidths$Defects", name := "<init>", desc := "()V" } : Jvm.MethodName) prog_3_method_1_code (1 : Nat) (Option.none : Option Jvm.ClassFile.FieldType)) ∈ gw := gw_t (List.mem_of_getElem? (i := 133) (by decide +kernel)) (by decide +kernel)
theorem m_134 : (Jvm.Cond.methodLink "SlitWidths$Defects" (3 : Nat) ({ cls := "java/lang/Object", name := "<init>", desc := "()V" } : Jvm.MethodName)) ∈ gw := gw_t (List.mem_of_getElem? (i := 134) (by decide +kernel)) (by decide +kernel)
theorem m_135 : (Jvm.Cond.fieldLink "SlitWidths$Defects" (9 : Nat) "SlitWidths$Defects" "froms" "[I") ∈ gw := gw_t (List.mem_of_getElem? (i := 135) (by decide +kernel)) (by decide +kernel)
theorem m_136 : (Jvm.Cond.fieldLink "SlitWidths$SetUp" (95 : Nat) "SlitWidths$Defects" "froms" "[I") ∈ gw := gw_t (List.mem_of_getElem? (i := 136) (by decide +kernel)) (by decide +kernel)
theorem m_137 : (Jvm.Cond.fieldLink "SlitWidths" (187 : Nat) "SlitWidths$Defects" "froms" "[I") ∈ gw := gw_t (List.mem_of_getElem? (i := 137) (by decide +kernel)) (by decide +kernel)
theorem m_138 : (Jvm.Cond.fieldLink "SlitWidths$Defects" (15 : Nat) "SlitWidths$Defects" "tos" "[I") ∈ gw := gw_t (List.mem_of_getElem? (i := 138) (by decide +kernel)) (by decide +kernel)
theorem m_139 : (Jvm.Cond.fieldLink "SlitWidths$SetUp" (92 : Nat) "SlitWidths$Defects" "tos" "[I") ∈ gw := gw_t (List.mem_of_getElem? (i := 139) (by decide +kernel)) (by decide +kernel)
theorem m_140 : (Jvm.Cond.fieldLink "SlitWidths" (190 : Nat) "SlitWidths$Defects" "tos" "[I") ∈ gw := gw_t (List.mem_of_getElem? (i := 140) (by decide +kernel)) (by decide +kernel)
theorem m_141 : (Jvm.Cond.fieldLink "SlitWidths$Defects" (18 : Nat) "SlitWidths$Defects" "count" "I") ∈ gw := gw_t (List.mem_of_getElem? (i := 141) (by decide +kernel)) (by decide +kernel)
theorem m_142 : (Jvm.Cond.fieldLink "SlitWidths$SetUp" (85 : Nat) "SlitWidths$Defects" "count" "I") ∈ gw := gw_t (List.mem_of_getElem? (i := 142) (by decide +kernel)) (by decide +kernel)
theorem m_143 : (Jvm.Cond.fieldLink "SlitWidths" (182 : Nat) "SlitWidths$Defects" "count" "I") ∈ gw := gw_t (List.mem_of_getElem? (i := 143) (by decide +kernel)) (by decide +kernel)
theorem m_144 : (Jvm.Cond.laysFinal "SlitWidths$Defects" "SlitWidths$Defects" "froms" "[I") ∈ gw := gw_t (List.mem_of_getElem? (i := 144) (by decide +kernel)) (by decide +kernel)
theorem m_146 : (Jvm.Cond.laysFinal "SlitWidths$Defects" "SlitWidths$Defects" "tos" "[I") ∈ gw := gw_t (List.mem_of_getElem? (i := 146) (by decide +kernel)) (by decide +kernel)
theorem m_148 : (Jvm.Cond.lays "SlitWidths$Defects" "SlitWidths$Defects" "count" "I") ∈ gw := gw_t (List.mem_of_getElem? (i := 148) (by decide +kernel)) (by decide +kernel)
theorem m_151 : (Jvm.Cond.classLink "SlitWidths" (37 : Nat) "SlitWidths$Sequence") ∈ gw := gw_t (List.mem_of_getElem? (i := 151) (by decide +kernel)) (by decide +kernel)
theorem m_152 : (Jvm.Cond.instantiable "SlitWidths$Sequence" (5 : Nat)) ∈ gw := gw_t (List.mem_of_getElem? (i := 152) (by decide +kernel)) (by decide +kernel)
theorem m_154 : (Jvm.Cond.instanceMethod ({ cls := "SlitWidths$Sequence", name := "<init>", desc := "()V" } : Jvm.MethodName)) ∈ gw := gw_t (List.mem_of_getElem? (i := 154) (by decide +kernel)) (by decide +kernel)
theorem m_155 : (Jvm.Cond.code ({ cls := "SlitWidths$Sequence", name := "<init>", desc := "()V" } : Jvm.MethodName) prog_5_method_1_code (1 : Nat) (Option.none : Option Jvm.ClassFile.FieldType)) ∈ gw := gw_t (List.mem_of_getElem? (i := 155) (by decide +kernel)) (by decide +kernel)
theorem m_156 : (Jvm.Cond.methodLink "SlitWidths$Sequence" (3 : Nat) ({ cls := "java/lang/Object", name := "<init>", desc := "()V" } : Jvm.MethodName)) ∈ gw := gw_t (List.mem_of_getElem? (i := 156) (by decide +kernel)) (by decide +kernel)
theorem m_157 : (Jvm.Cond.fieldLink "SlitWidths$Sequence" (9 : Nat) "SlitWidths$Sequence" "numbers" "[I") ∈ gw := gw_t (List.mem_of_getElem? (i := 157) (by decide +kernel)) (by decide +kernel)
theorem m_158 : (Jvm.Cond.fieldLink "SlitWidths" (181 : Nat) "SlitWidths$Sequence" "numbers" "[I") ∈ gw := gw_t (List.mem_of_getElem? (i := 158) (by decide +kernel)) (by decide +kernel)
theorem m_159 : (Jvm.Cond.fieldLink "SlitWidths$Sequence" (15 : Nat) "SlitWidths$Sequence" "total" "I") ∈ gw := gw_t (List.mem_of_getElem? (i := 159) (by decide +kernel)) (by decide +kernel)
theorem m_160 : (Jvm.Cond.fieldLink "SlitWidths" (176 : Nat) "SlitWidths$Sequence" "total" "I") ∈ gw := gw_t (List.mem_of_getElem? (i := 160) (by decide +kernel)) (by decide +kernel)
theorem m_161 : (Jvm.Cond.fieldLink "SlitWidths$Sequence" (19 : Nat) "SlitWidths$Sequence" "known" "Z") ∈ gw := gw_t (List.mem_of_getElem? (i := 161) (by decide +kernel)) (by decide +kernel)
theorem m_162 : (Jvm.Cond.fieldLink "SlitWidths" (137 : Nat) "SlitWidths$Sequence" "known" "Z") ∈ gw := gw_t (List.mem_of_getElem? (i := 162) (by decide +kernel)) (by decide +kernel)
theorem m_163 : (Jvm.Cond.fieldLink "SlitWidths$Sequence" (23 : Nat) "SlitWidths$Sequence" "steps" "[I") ∈ gw := gw_t (List.mem_of_getElem? (i := 163) (by decide +kernel)) (by decide +kernel)
theorem m_164 : (Jvm.Cond.fieldLink "SlitWidths$Sequence" (26 : Nat) "SlitWidths$Sequence" "fewest" "[I") ∈ gw := gw_t (List.mem_of_getElem? (i := 164) (by decide +kernel)) (by decide +kernel)
theorem m_165 : (Jvm.Cond.laysFinal "SlitWidths$Sequence" "SlitWidths$Sequence" "numbers" "[I") ∈ gw := gw_t (List.mem_of_getElem? (i := 165) (by decide +kernel)) (by decide +kernel)
theorem m_167 : (Jvm.Cond.lays "SlitWidths$Sequence" "SlitWidths$Sequence" "total" "I") ∈ gw := gw_t (List.mem_of_getElem? (i := 167) (by decide +kernel)) (by decide +kernel)
theorem m_169 : (Jvm.Cond.lays "SlitWidths$Sequence" "SlitWidths$Sequence" "known" "Z") ∈ gw := gw_t (List.mem_of_getElem? (i := 169) (by decide +kernel)) (by decide +kernel)
theorem m_171 : (Jvm.Cond.laysFinal "SlitWidths$Sequence" "SlitWidths$Sequence" "steps" "[I") ∈ gw := gw_t (List.mem_of_getElem? (i := 171) (by decide +kernel)) (by decide +kernel)
theorem m_173 : (Jvm.Cond.laysFinal "SlitWidths$Sequence" "SlitWidths$Sequence" "fewest" "[I") ∈ gw := gw_t (List.mem_of_getElem? (i := 173) (by decide +kernel)) (by decide +kernel)
theorem m_176 : (Jvm.Cond.classLink "SlitWidths" (44 : Nat) "SlitWidths$SetUp") ∈ gw := gw_t (List.mem_of_getElem? (i := 176) (by decide +kernel)) (by decide +kernel)
theorem m_178 : (Jvm.Cond.instantiable "SlitWidths$SetUp" (11 : Nat)) ∈ gw := gw_t (List.mem_of_getElem? (i := 178) (by decide +kernel)) (by decide +kernel)
theorem m_180 : (Jvm.Cond.instanceMethod ({ cls := "SlitWidths$SetUp", name := "<init>", desc := "()V" } : Jvm.MethodName)) ∈ gw := gw_t (List.mem_of_getElem? (i := 180) (by decide +kernel)) (by decide +kernel)
theorem m_181 : (Jvm.Cond.code ({ cls := "SlitWidths$SetUp", name := "<init>", desc := "()V" } : Jvm.MethodName) prog_6_method_1_code (1 : Nat) (Option.none : Option Jvm.ClassFile.FieldType)) ∈ gw := gw_t (List.mem_of_getElem? (i := 181) (by decide +kernel)) (by decide +kernel)
theorem m_182 : (Jvm.Cond.methodLink "SlitWidths$SetUp" (3 : Nat) ({ cls := "java/lang/Object", name := "<init>", desc := "()V" } : Jvm.MethodName)) ∈ gw := gw_t (List.mem_of_getElem? (i := 182) (by decide +kernel)) (by decide +kernel)
theorem m_183 : (Jvm.Cond.fieldLink "SlitWidths$SetUp" (9 : Nat) "SlitWidths$SetUp" "numbers" "[I") ∈ gw := gw_t (List.mem_of_getElem? (i := 183) (by decide +kernel)) (by decide +kernel)
theorem m_184 : (Jvm.Cond.fieldLink "SlitWidths" (149 : Nat) "SlitWidths$SetUp" "numbers" "[I") ∈ gw := gw_t (List.mem_of_getElem? (i := 184) (by decide +kernel)) (by decide +kernel)
theorem m_185 : (Jvm.Cond.fieldLink "SlitWidths$SetUp" (15 : Nat) "SlitWidths$SetUp" "begins" "[I") ∈ gw := gw_t (List.mem_of_getElem? (i := 185) (by decide +kernel)) (by decide +kernel)
theorem m_186 : (Jvm.Cond.fieldLink "SlitWidths" (155 : Nat) "SlitWidths$SetUp" "begins" "[I") ∈ gw := gw_t (List.mem_of_getElem? (i := 186) (by decide +kernel)) (by decide +kernel)
theorem m_187 : (Jvm.Cond.fieldLink "SlitWidths$SetUp" (18 : Nat) "SlitWidths$SetUp" "ends" "[I") ∈ gw := gw_t (List.mem_of_getElem? (i := 187) (by decide +kernel)) (by decide +kernel)
theorem m_188 : (Jvm.Cond.fieldLink "SlitWidths" (158 : Nat) "SlitWidths$SetUp" "ends" "[I") ∈ gw := gw_t (List.mem_of_getElem? (i := 188) (by decide +kernel)) (by decide +kernel)
theorem m_189 : (Jvm.Cond.fieldLink "SlitWidths$SetUp" (21 : Nat) "SlitWidths$SetUp" "stripCount" "I") ∈ gw := gw_t (List.mem_of_getElem? (i := 189) (by decide +kernel)) (by decide +kernel)
theorem m_190 : (Jvm.Cond.fieldLink "SlitWidths" (146 : Nat) "SlitWidths$SetUp" "stripCount" "I") ∈ gw := gw_t (List.mem_of_getElem? (i := 190) (by decide +kernel)) (by decide +kernel)
theorem m_191 : (Jvm.Cond.fieldLink "SlitWidths$SetUp" (25 : Nat) "SlitWidths$SetUp" "left" "I") ∈ gw := gw_t (List.mem_of_getElem? (i := 191) (by decide +kernel)) (by decide +kernel)
theorem m_192 : (Jvm.Cond.fieldLink "SlitWidths" (152 : Nat) "SlitWidths$SetUp" "left" "I") ∈ gw := gw_t (List.mem_of_getElem? (i := 192) (by decide +kernel)) (by decide +kernel)
theorem m_193 : (Jvm.Cond.fieldLink "SlitWidths$SetUp" (28 : Nat) "SlitWidths$SetUp" "knifePlaces" "[I") ∈ gw := gw_t (List.mem_of_getElem? (i := 193) (by decide +kernel)) (by decide +kernel)
theorem m_194 : (Jvm.Cond.fieldLink "SlitWidths$SetUp" (31 : Nat) "SlitWidths$SetUp" "knifeCount" "I") ∈ gw := gw_t (List.mem_of_getElem? (i := 194) (by decide +kernel)) (by decide +kernel)
theorem m_195 : (Jvm.Cond.fieldLink "SlitWidths$SetUp" (34 : Nat) "SlitWidths$SetUp" "width" "I") ∈ gw := gw_t (List.mem_of_getElem? (i := 195) (by decide +kernel)) (by decide +kernel)
theorem m_196 : (Jvm.Cond.fieldLink "SlitWidths$SetUp" (37 : Nat) "SlitWidths$SetUp" "kilos" "I") ∈ gw := gw_t (List.mem_of_getElem? (i := 196) (by decide +kernel)) (by decide +kernel)
theorem m_197 : (Jvm.Cond.fieldLink "SlitWidths$SetUp" (40 : Nat) "SlitWidths$SetUp" "trim" "I") ∈ gw := gw_t (List.mem_of_getElem? (i := 197) (by decide +kernel)) (by decide +kernel)
theorem m_198 : (Jvm.Cond.fieldLink "SlitWidths$SetUp" (43 : Nat) "SlitWidths$SetUp" "span" "I") ∈ gw := gw_t (List.mem_of_getElem? (i := 198) (by decide +kernel)) (by decide +kernel)
theorem m_199 : (Jvm.Cond.laysFinal "SlitWidths$SetUp" "SlitWidths$SetUp" "numbers" "[I") ∈ gw := gw_t (List.mem_of_getElem? (i := 199) (by decide +kernel)) (by decide +kernel)
theorem m_201 : (Jvm.Cond.laysFinal "SlitWidths$SetUp" "SlitWidths$SetUp" "begins" "[I") ∈ gw := gw_t (List.mem_of_getElem? (i := 201) (by decide +kernel)) (by decide +kernel)
theorem m_203 : (Jvm.Cond.laysFinal "SlitWidths$SetUp" "SlitWidths$SetUp" "ends" "[I") ∈ gw := gw_t (List.mem_of_getElem? (i := 203) (by decide +kernel)) (by decide +kernel)
theorem m_205 : (Jvm.Cond.lays "SlitWidths$SetUp" "SlitWidths$SetUp" "stripCount" "I") ∈ gw := gw_t (List.mem_of_getElem? (i := 205) (by decide +kernel)) (by decide +kernel)
theorem m_207 : (Jvm.Cond.lays "SlitWidths$SetUp" "SlitWidths$SetUp" "left" "I") ∈ gw := gw_t (List.mem_of_getElem? (i := 207) (by decide +kernel)) (by decide +kernel)
theorem m_209 : (Jvm.Cond.laysFinal "SlitWidths$SetUp" "SlitWidths$SetUp" "knifePlaces" "[I") ∈ gw := gw_t (List.mem_of_getElem? (i := 209) (by decide +kernel)) (by decide +kernel)
theorem m_211 : (Jvm.Cond.lays "SlitWidths$SetUp" "SlitWidths$SetUp" "knifeCount" "I") ∈ gw := gw_t (List.mem_of_getElem? (i := 211) (by decide +kernel)) (by decide +kernel)
theorem m_213 : (Jvm.Cond.lays "SlitWidths$SetUp" "SlitWidths$SetUp" "width" "I") ∈ gw := gw_t (List.mem_of_getElem? (i := 213) (by decide +kernel)) (by decide +kernel)
theorem m_215 : (Jvm.Cond.lays "SlitWidths$SetUp" "SlitWidths$SetUp" "kilos" "I") ∈ gw := gw_t (List.mem_of_getElem? (i := 215) (by decide +kernel)) (by decide +kernel)
theorem m_217 : (Jvm.Cond.lays "SlitWidths$SetUp" "SlitWidths$SetUp" "trim" "I") ∈ gw := gw_t (List.mem_of_getElem? (i := 217) (by decide +kernel)) (by decide +kernel)
theorem m_219 : (Jvm.Cond.lays "SlitWidths$SetUp" "SlitWidths$SetUp" "span" "I") ∈ gw := gw_t (List.mem_of_getElem? (i := 219) (by decide +kernel)) (by decide +kernel)
theorem m_222 : (Jvm.Cond.fieldLink "SlitWidths" (12 : Nat) "SlitWidths" "nextCoil" "LSlitWidths$Coil;") ∈ gw := gw_t (List.mem_of_getElem? (i := 222) (by decide +kernel)) (by decide +kernel)
theorem m_223 : (Jvm.Cond.fieldLink "SlitWidths" (19 : Nat) "SlitWidths" "wishes" "LSlitWidths$Wishes;") ∈ gw := gw_t (List.mem_of_getElem? (i := 223) (by decide +kernel)) (by decide +kernel)
theorem m_224 : (Jvm.Cond.fieldLink "SlitWidths" (26 : Nat) "SlitWidths" "search" "LSlitWidths$PatternSearch;") ∈ gw := gw_t (List.mem_of_getElem? (i := 224) (by decide +kernel)) (by decide +kernel)
theorem m_225 : (Jvm.Cond.fieldLink "SlitWidths" (33 : Nat) "SlitWidths" "defects" "LSlitWidths$Defects;") ∈ gw := gw_t (List.mem_of_getElem? (i := 225) (by decide +kernel)) (by decide +kernel)
theorem m_226 : (Jvm.Cond.fieldLink "SlitWidths" (40 : Nat) "SlitWidths" "sequence" "LSlitWidths$Sequence;") ∈ gw := gw_t (List.mem_of_getElem? (i := 226) (by decide +kernel)) (by decide +kernel)
theorem m_227 : (Jvm.Cond.fieldLink "SlitWidths" (46 : Nat) "SlitWidths" "setUps" "[LSlitWidths$SetUp;") ∈ gw := gw_t (List.mem_of_getElem? (i := 227) (by decide +kernel)) (by decide +kernel)
theorem m_228 : (Jvm.Cond.fieldLink "SlitWidths" (51 : Nat) "SlitWidths" "setUpCount" "I") ∈ gw := gw_t (List.mem_of_getElem? (i := 228) (by decide +kernel)) (by decide +kernel)
theorem m_229 : (Jvm.Cond.laysFinal "SlitWidths" "SlitWidths" "nextCoil" "LSlitWidths$Coil;") ∈ gw := gw_t (List.mem_of_getElem? (i := 229) (by decide +kernel)) (by decide +kernel)
theorem m_231 : (Jvm.Cond.laysFinal "SlitWidths" "SlitWidths" "wishes" "LSlitWidths$Wishes;") ∈ gw := gw_t (List.mem_of_getElem? (i := 231) (by decide +kernel)) (by decide +kernel)
theorem m_233 : (Jvm.Cond.laysFinal "SlitWidths" "SlitWidths" "search" "LSlitWidths$PatternSearch;") ∈ gw := gw_t (List.mem_of_getElem? (i := 233) (by decide +kernel)) (by decide +kernel)
theorem m_235 : (Jvm.Cond.laysFinal "SlitWidths" "SlitWidths" "defects" "LSlitWidths$Defects;") ∈ gw := gw_t (List.mem_of_getElem? (i := 235) (by decide +kernel)) (by decide +kernel)
theorem m_237 : (Jvm.Cond.laysFinal "SlitWidths" "SlitWidths" "sequence" "LSlitWidths$Sequence;") ∈ gw := gw_t (List.mem_of_getElem? (i := 237) (by decide +kernel)) (by decide +kernel)
theorem m_239 : (Jvm.Cond.laysFinal "SlitWidths" "SlitWidths" "setUps" "[LSlitWidths$SetUp;") ∈ gw := gw_t (List.mem_of_getElem? (i := 239) (by decide +kernel)) (by decide +kernel)
theorem m_241 : (Jvm.Cond.lays "SlitWidths" "SlitWidths" "setUpCount" "I") ∈ gw := gw_t (List.mem_of_getElem? (i := 241) (by decide +kernel)) (by decide +kernel)
theorem m_244 : (Jvm.Cond.methodLink "SlitWidthsLaw" (77 : Nat) ({ cls := "SlitWidths", name := "fill", desc := "()I" } : Jvm.MethodName)) ∈ gw := gw_t (List.mem_of_getElem? (i := 244) (by decide +kernel)) (by decide +kernel)
theorem m_245 : (Jvm.Cond.instanceMethod ({ cls := "SlitWidths", name := "fill", desc := "()I" } : Jvm.MethodName)) ∈ gw := gw_t (List.mem_of_getElem? (i := 245) (by decide +kernel)) (by decide +kernel)
theorem m_246 : (Jvm.Cond.selects "SlitWidths" ({ cls := "SlitWidths", name := "fill", desc := "()I" } : Jvm.MethodName) ({ cls := "SlitWidths", name := "fill", desc := "()I" } : Jvm.MethodName)) ∈ gw := gw_t (List.mem_of_getElem? (i := 246) (by decide +kernel)) (by decide +kernel)
theorem m_247 : (Jvm.Cond.code ({ cls := "SlitWidths", name := "fill", desc := "()I" } : Jvm.MethodName) prog_1_method_5_code (1 : Nat) (Option.some Jvm.ClassFile.FieldType.int)) ∈ gw := gw_t (List.mem_of_getElem? (i := 247) (by decide +kernel)) (by decide +kernel)
theorem m_248 : (Jvm.Cond.methodLink "SlitWidths" (109 : Nat) ({ cls := "SlitWidths$PatternSearch", name := "find", desc := "(LSlitWidths$Coil;LSlitWidths$Wishes;)V" } : Jvm.MethodName)) ∈ gw := gw_t (List.mem_of_getElem? (i := 248) (by decide +kernel)) (by decide +kernel)
theorem m_249 : (Jvm.Cond.instanceMethod ({ cls := "SlitWidths$PatternSearch", name := "find", desc := "(LSlitWidths$Coil;LSlitWidths$Wishes;)V" } : Jvm.MethodName)) ∈ gw := gw_t (List.mem_of_getElem? (i := 249) (by decide +kernel)) (by decide +kernel)
theorem m_250 : (Jvm.Cond.selects "SlitWidths$PatternSearch" ({ cls := "SlitWidths$PatternSearch", name := "find", desc := "(LSlitWidths$Coil;LSlitWidths$Wishes;)V" } : Jvm.MethodName) ({ cls := "SlitWidths$PatternSearch", name := "find", desc := "(LSlitWidths$Coil;LSlitWidths$Wishes;)V" } : Jvm.MethodName)) ∈ gw := gw_t (List.mem_of_getElem? (i := 250) (by decide +kernel)) (by decide +kernel)
theorem m_251 : (Jvm.Cond.code ({ cls := "SlitWidths$PatternSearch", name := "find", desc := "(LSlitWidths$Coil;LSlitWidths$Wishes;)V" } : Jvm.MethodName) prog_4_method_2_code (3 : Nat) (Option.none : Option Jvm.ClassFile.FieldType)) ∈ gw := gw_t (List.mem_of_getElem? (i := 251) (by decide +kernel)) (by decide +kernel)
theorem m_252 : (Jvm.Cond.methodLink "SlitWidths$PatternSearch" (44 : Nat) ({ cls := "java/util/Arrays", name := "fill", desc := "([II)V" } : Jvm.MethodName)) ∈ gw := gw_t (List.mem_of_getElem? (i := 252) (by decide +kernel)) (by decide +kernel)
theorem m_253 : (Jvm.Cond.static ({ cls := "java/util/Arrays", name := "fill", desc := "([II)V" } : Jvm.MethodName)) ∈ gw := gw_t (List.mem_of_getElem? (i := 253) (by decide +kernel)) (by decide +kernel)
theorem m_254 : (Jvm.Cond.code ({ cls := "java/util/Arrays", name := "fill", desc := "([II)V" } : Jvm.MethodName) prog_19_method_103_code (4 : Nat) (Option.none : Option Jvm.ClassFile.FieldType)) ∈ gw := gw_t (List.mem_of_getElem? (i := 254) (by decide +kernel)) (by decide +kernel)
theorem m_255 : (Jvm.Cond.methodLink "SlitWidths$PatternSearch" (64 : Nat) ({ cls := "SlitWidths$PatternSearch", name := "measure", desc := "(LSlitWidths$Coil;LSlitWidths$Wishes;)V" } : Jvm.MethodName)) ∈ gw := gw_t (List.mem_of_getElem? (i := 255) (by decide +kernel)) (by decide +kernel)
theorem m_257 : (Jvm.Cond.instanceMethod ({ cls := "SlitWidths$PatternSearch", name := "measure", desc := "(LSlitWidths$Coil;LSlitWidths$Wishes;)V" } : Jvm.MethodName)) ∈ gw := gw_t (List.mem_of_getElem? (i := 257) (by decide +kernel)) (by decide +kernel)
theorem m_258 : (Jvm.Cond.code ({ cls := "SlitWidths$PatternSearch", name := "measure", desc := "(LSlitWidths$Coil;LSlitWidths$Wishes;)V" } : Jvm.MethodName) prog_4_method_3_code (4 : Nat) (Option.none : Option Jvm.ClassFile.FieldType)) ∈ gw := gw_t (List.mem_of_getElem? (i := 258) (by decide +kernel)) (by decide +kernel)
theorem m_259 : (Jvm.Cond.methodLink "SlitWidths$PatternSearch" (68 : Nat) ({ cls := "SlitWidths$PatternSearch", name := "tryCounts", desc := "(LSlitWidths$Wishes;III)V" } : Jvm.MethodName)) ∈ gw := gw_t (List.mem_of_getElem? (i := 259) (by decide +kernel)) (by decide +kernel)
theorem m_261 : (Jvm.Cond.instanceMethod ({ cls := "SlitWidths$PatternSearch", name := "tryCounts", desc := "(LSlitWidths$Wishes;III)V" } : Jvm.MethodName)) ∈ gw := gw_t (List.mem_of_getElem? (i := 261) (by decide +kernel)) (by decide +kernel)
theorem m_262 : (Jvm.Cond.code ({ cls := "SlitWidths$PatternSearch", name := "tryCounts", desc := "(LSlitWidths$Wishes;III)V" } : Jvm.MethodName) prog_4_method_4_code (7 : Nat) (Option.none : Option Jvm.ClassFile.FieldType)) ∈ gw := gw_t (List.mem_of_getElem? (i := 262) (by decide +kernel)) (by decide +kernel)
theorem m_263 : (Jvm.Cond.methodLink "SlitWidths$PatternSearch" (83 : Nat) ({ cls := "SlitWidths$PatternSearch", name := "keepIfBetter", desc := "(II)V" } : Jvm.MethodName)) ∈ gw := gw_t (List.mem_of_getElem? (i := 263) (by decide +kernel)) (by decide +kernel)
theorem m_265 : (Jvm.Cond.instanceMethod ({ cls := "SlitWidths$PatternSearch", name := "keepIfBetter", desc := "(II)V" } : Jvm.MethodName)) ∈ gw := gw_t (List.mem_of_getElem? (i := 265) (by decide +kernel)) (by decide +kernel)
theorem m_266 : (Jvm.Cond.code ({ cls := "SlitWidths$PatternSearch", name := "keepIfBetter", desc := "(II)V" } : Jvm.MethodName) prog_4_method_5_code (3 : Nat) (Option.none : Option Jvm.ClassFile.FieldType)) ∈ gw := gw_t (List.mem_of_getElem? (i := 266) (by decide +kernel)) (by decide +kernel)
theorem m_267 : (Jvm.Cond.methodLink "SlitWidths$PatternSearch" (87 : Nat) ({ cls := "java/lang/System", name := "arraycopy", desc := "(Ljava/lang/Object;ILjava/lang/Object;II)V" } : Jvm.MethodName)) ∈ gw := gw_t (List.mem_of_getElem? (i := 267) (by decide +kernel)) (by decide +kernel)
theorem m_268 : (Jvm.Cond.static ({ cls := "java/lang/System", name := "arraycopy", desc := "(Ljava/lang/Object;ILjava/lang/Object;II)V" } : Jvm.MethodName)) ∈ gw := gw_t (List.mem_of_getElem? (i := 268) (by decide +kernel)) (by decide +kernel)
theorem m_269 : (Jvm.Cond.native ({ cls := "java/lang/System", name := "arraycopy", desc := "(Ljava/lang/Object;ILjava/lang/Object;II)V" } : Jvm.MethodName)) ∈ gw := gw_t (List.mem_of_getElem? (i := 269) (by decide +kernel)) (by decide +kernel)
theorem m_270 : (Jvm.Cond.methodLink "SlitWidthsLaw" (99 : Nat) ({ cls := "SlitWidths", name := "order", desc := "()I" } : Jvm.MethodName)) ∈ gw := gw_t (List.mem_of_getElem? (i := 270) (by decide +kernel)) (by decide +kernel)
theorem m_271 : (Jvm.Cond.instanceMethod ({ cls := "SlitWidths", name := "order", desc := "()I" } : Jvm.MethodName)) ∈ gw := gw_t (List.mem_of_getElem? (i := 271) (by decide +kernel)) (by decide +kernel)
theorem m_272 : (Jvm.Cond.selects "SlitWidths" ({ cls := "SlitWidths", name := "order", desc := "()I" } : Jvm.MethodName) ({ cls := "SlitWidths", name := "order", desc := "()I" } : Jvm.MethodName)) ∈ gw := gw_t (List.mem_of_getElem? (i := 272) (by decide +kernel)) (by decide +kernel)
theorem m_273 : (Jvm.Cond.code ({ cls := "SlitWidths", name := "order", desc := "()I" } : Jvm.MethodName) prog_1_method_11_code (1 : Nat) (Option.some Jvm.ClassFile.FieldType.int)) ∈ gw := gw_t (List.mem_of_getElem? (i := 273) (by decide +kernel)) (by decide +kernel)
theorem m_274 : (Jvm.Cond.methodLink "SlitWidths" (173 : Nat) ({ cls := "SlitWidths$Sequence", name := "find", desc := "([LSlitWidths$SetUp;I)V" } : Jvm.MethodName)) ∈ gw := gw_t (List.mem_of_getElem? (i := 274) (by decide +kernel)) (by decide +kernel)
theorem m_275 : (Jvm.Cond.instanceMethod ({ cls := "SlitWidths$Sequence", name := "find", desc := "([LSlitWidths$SetUp;I)V" } : Jvm.MethodName)) ∈ gw := gw_t (List.mem_of_getElem? (i := 275) (by decide +kernel)) (by decide +kernel)
theorem m_276 : (Jvm.Cond.selects "SlitWidths$Sequence" ({ cls := "SlitWidths$Sequence", name := "find", desc := "([LSlitWidths$SetUp;I)V" } : Jvm.MethodName) ({ cls := "SlitWidths$Sequence", name := "find", desc := "([LSlitWidths$SetUp;I)V" } : Jvm.MethodName)) ∈ gw := gw_t (List.mem_of_getElem? (i := 276) (by decide +kernel)) (by decide +kernel)
theorem m_277 : (Jvm.Cond.code ({ cls := "SlitWidths$Sequence", name := "find", desc := "([LSlitWidths$SetUp;I)V" } : Jvm.MethodName) prog_5_method_2_code (3 : Nat) (Option.none : Option Jvm.ClassFile.FieldType)) ∈ gw := gw_t (List.mem_of_getElem? (i := 277) (by decide +kernel)) (by decide +kernel)
theorem m_278 : (Jvm.Cond.methodLink "SlitWidths$Sequence" (29 : Nat) ({ cls := "SlitWidths$Sequence", name := "measureSteps", desc := "([LSlitWidths$SetUp;I)V" } : Jvm.MethodName)) ∈ gw := gw_t (List.mem_of_getElem? (i := 278) (by decide +kernel)) (by decide +kernel)
theorem m_280 : (Jvm.Cond.instanceMethod ({ cls := "SlitWidths$Sequence", name := "measureSteps", desc := "([LSlitWidths$SetUp;I)V" } : Jvm.MethodName)) ∈ gw := gw_t (List.mem_of_getElem? (i := 280) (by decide +kernel)) (by decide +kernel)
theorem m_281 : (Jvm.Cond.code ({ cls := "SlitWidths$Sequence", name := "measureSteps", desc := "([LSlitWidths$SetUp;I)V" } : Jvm.MethodName) prog_5_method_3_code (5 : Nat) (Option.none : Option Jvm.ClassFile.FieldType)) ∈ gw := gw_t (List.mem_of_getElem? (i := 281) (by decide +kernel)) (by decide +kernel)
theorem m_282 : (Jvm.Cond.methodLink "SlitWidths$Sequence" (40 : Nat) ({ cls := "SlitWidths$SetUp", name := "placesNotIn", desc := "(LSlitWidths$SetUp;)I" } : Jvm.MethodName)) ∈ gw := gw_t (List.mem_of_getElem? (i := 282) (by decide +kernel)) (by decide +kernel)
theorem m_283 : (Jvm.Cond.instanceMethod ({ cls := "SlitWidths$SetUp", name := "placesNotIn", desc := "(LSlitWidths$SetUp;)I" } : Jvm.MethodName)) ∈ gw := gw_t (List.mem_of_getElem? (i := 283) (by decide +kernel)) (by decide +kernel)
theorem m_284 : (Jvm.Cond.selects "SlitWidths$SetUp" ({ cls := "SlitWidths$SetUp", name := "placesNotIn", desc := "(LSlitWidths$SetUp;)I" } : Jvm.MethodName) ({ cls := "SlitWidths$SetUp", name := "placesNotIn", desc := "(LSlitWidths$SetUp;)I" } : Jvm.MethodName)) ∈ gw := gw_t (List.mem_of_getElem? (i := 284) (by decide +kernel)) (by decide +kernel)
theorem m_285 : (Jvm.Cond.code ({ cls := "SlitWidths$SetUp", name := "placesNotIn", desc := "(LSlitWidths$SetUp;)I" } : Jvm.MethodName) prog_6_method_5_code (6 : Nat) (Option.some Jvm.ClassFile.FieldType.int)) ∈ gw := gw_t (List.mem_of_getElem? (i := 285) (by decide +kernel)) (by decide +kernel)
theorem m_286 : (Jvm.Cond.methodLink "SlitWidths$Sequence" (33 : Nat) ({ cls := "SlitWidths$Sequence", name := "measureSets", desc := "(I)V" } : Jvm.MethodName)) ∈ gw := gw_t (List.mem_of_getElem? (i := 286) (by decide +kernel)) (by decide +kernel)
theorem m_288 : (Jvm.Cond.instanceMethod ({ cls := "SlitWidths$Sequence", name := "measureSets", desc := "(I)V" } : Jvm.MethodName)) ∈ gw := gw_t (List.mem_of_getElem? (i := 288) (by decide +kernel)) (by decide +kernel)
theorem m_289 : (Jvm.Cond.code ({ cls := "SlitWidths$Sequence", name := "measureSets", desc := "(I)V" } : Jvm.MethodName) prog_5_method_4_code (5 : Nat) (Option.none : Option Jvm.ClassFile.FieldType)) ∈ gw := gw_t (List.mem_of_getElem? (i := 289) (by decide +kernel)) (by decide +kernel)
theorem m_290 : (Jvm.Cond.methodLink "SlitWidths$Sequence" (46 : Nat) ({ cls := "SlitWidths$Sequence", name := "lowestNext", desc := "(III)I" } : Jvm.MethodName)) ∈ gw := gw_t (List.mem_of_getElem? (i := 290) (by decide +kernel)) (by decide +kernel)
theorem m_292 : (Jvm.Cond.instanceMethod ({ cls := "SlitWidths$Sequence", name := "lowestNext", desc := "(III)I" } : Jvm.MethodName)) ∈ gw := gw_t (List.mem_of_getElem? (i := 292) (by decide +kernel)) (by decide +kernel)
theorem m_293 : (Jvm.Cond.code ({ cls := "SlitWidths$Sequence", name := "lowestNext", desc := "(III)I" } : Jvm.MethodName) prog_5_method_6_code (8 : Nat) (Option.some Jvm.ClassFile.FieldType.int)) ∈ gw := gw_t (List.mem_of_getElem? (i := 293) (by decide +kernel)) (by decide +kernel)
theorem m_294 : (Jvm.Cond.methodLink "SlitWidths$Sequence" (50 : Nat) ({ cls := "SlitWidths$Sequence", name := "through", desc := "(III)I" } : Jvm.MethodName)) ∈ gw := gw_t (List.mem_of_getElem? (i := 294) (by decide +kernel)) (by decide +kernel)
theorem m_296 : (Jvm.Cond.instanceMethod ({ cls := "SlitWidths$Sequence", name := "through", desc := "(III)I" } : Jvm.MethodName)) ∈ gw := gw_t (List.mem_of_getElem? (i := 296) (by decide +kernel)) (by decide +kernel)
theorem m_297 : (Jvm.Cond.code ({ cls := "SlitWidths$Sequence", name := "through", desc := "(III)I" } : Jvm.MethodName) prog_5_method_7_code (4 : Nat) (Option.some Jvm.ClassFile.FieldType.int)) ∈ gw := gw_t (List.mem_of_getElem? (i := 297) (by decide +kernel)) (by decide +kernel)
theorem m_298 : (Jvm.Cond.methodLink "SlitWidths$Sequence" (53 : Nat) ({ cls := "SlitWidths$Sequence", name := "step", desc := "(II)I" } : Jvm.MethodName)) ∈ gw := gw_t (List.mem_of_getElem? (i := 298) (by decide +kernel)) (by decide +kernel)
theorem m_300 : (Jvm.Cond.instanceMethod ({ cls := "SlitWidths$Sequence", name := "step", desc := "(II)I" } : Jvm.MethodName)) ∈ gw := gw_t (List.mem_of_getElem? (i := 300) (by decide +kernel)) (by decide +kernel)
theorem m_301 : (Jvm.Cond.code ({ cls := "SlitWidths$Sequence", name := "step", desc := "(II)I" } : Jvm.MethodName) prog_5_method_8_code (3 : Nat) (Option.some Jvm.ClassFile.FieldType.int)) ∈ gw := gw_t (List.mem_of_getElem? (i := 301) (by decide +kernel)) (by decide +kernel)
theorem m_302 : (Jvm.Cond.methodLink "SlitWidths$Sequence" (37 : Nat) ({ cls := "SlitWidths$Sequence", name := "choose", desc := "(I)V" } : Jvm.MethodName)) ∈ gw := gw_t (List.mem_of_getElem? (i := 302) (by decide +kernel)) (by decide +kernel)
theorem m_304 : (Jvm.Cond.instanceMethod ({ cls := "SlitWidths$Sequence", name := "choose", desc := "(I)V" } : Jvm.MethodName)) ∈ gw := gw_t (List.mem_of_getElem? (i := 304) (by decide +kernel)) (by decide +kernel)
theorem m_305 : (Jvm.Cond.code ({ cls := "SlitWidths$Sequence", name := "choose", desc := "(I)V" } : Jvm.MethodName) prog_5_method_5_code (6 : Nat) (Option.none : Option Jvm.ClassFile.FieldType)) ∈ gw := gw_t (List.mem_of_getElem? (i := 305) (by decide +kernel)) (by decide +kernel)
theorem m_306 : (Jvm.Cond.methodLink "SlitWidthsLaw" (109 : Nat) ({ cls := "SlitWidths", name := "sound", desc := "()V" } : Jvm.MethodName)) ∈ gw := gw_t (List.mem_of_getElem? (i := 306) (by decide +kernel)) (by decide +kernel)
theorem m_307 : (Jvm.Cond.instanceMethod ({ cls := "SlitWidths", name := "sound", desc := "()V" } : Jvm.MethodName)) ∈ gw := gw_t (List.mem_of_getElem? (i := 307) (by decide +kernel)) (by decide +kernel)
theorem m_308 : (Jvm.Cond.selects "SlitWidths" ({ cls := "SlitWidths", name := "sound", desc := "()V" } : Jvm.MethodName) ({ cls := "SlitWidths", name := "sound", desc := "()V" } : Jvm.MethodName)) ∈ gw := gw_t (List.mem_of_getElem? (i := 308) (by decide +kernel)) (by decide +kernel)
theorem m_309 : (Jvm.Cond.code ({ cls := "SlitWidths", name := "sound", desc := "()V" } : Jvm.MethodName) prog_1_method_14_code (1 : Nat) (Option.none : Option Jvm.ClassFile.FieldType)) ∈ gw := gw_t (List.mem_of_getElem? (i := 309) (by decide +kernel)) (by decide +kernel)
theorem m_310 : (Jvm.Cond.methodLink "SlitWidthsLaw" (60 : Nat) ({ cls := "SlitWidthsLaw", name := "coil", desc := "(LSlitWidths;IIIII)I" } : Jvm.MethodName)) ∈ gw := gw_t (List.mem_of_getElem? (i := 310) (by decide +kernel)) (by decide +kernel)
theorem m_311 : (Jvm.Cond.static ({ cls := "SlitWidthsLaw", name := "coil", desc := "(LSlitWidths;IIIII)I" } : Jvm.MethodName)) ∈ gw := gw_t (List.mem_of_getElem? (i := 311) (by decide +kernel)) (by decide +kernel)
theorem m_312 : (Jvm.Cond.codeWith ({ cls := "SlitWidthsLaw", name := "coil", desc := "(LSlitWidths;IIIII)I" } : Jvm.MethodName) method_3_code (7 : Nat) (Option.some Jvm.ClassFile.FieldType.int) [((0 : Nat), (11 : Nat), (14 : Nat), (13 : Nat))]) ∈ gw := gw_t (List.mem_of_getElem? (i := 312) (by decide +kernel)) (by decide +kernel)
theorem m_313 : (Jvm.Cond.classLink "SlitWidthsLaw" (13 : Nat) "java/lang/IllegalArgumentException") ∈ gw := gw_t (List.mem_of_getElem? (i := 313) (by decide +kernel)) (by decide +kernel)
theorem m_314 : (Jvm.Cond.methodLink "SlitWidthsLaw" (7 : Nat) ({ cls := "SlitWidths", name := "coil", desc := "(IIIII)V" } : Jvm.MethodName)) ∈ gw := gw_t (List.mem_of_getElem? (i := 314) (by decide +kernel)) (by decide +kernel)
theorem m_315 : (Jvm.Cond.instanceMethod ({ cls := "SlitWidths", name := "coil", desc := "(IIIII)V" } : Jvm.MethodName)) ∈ gw := gw_t (List.mem_of_getElem? (i := 315) (by decide +kernel)) (by decide +kernel)
theorem m_316 : (Jvm.Cond.selects "SlitWidths" ({ cls := "SlitWidths", name := "coil", desc := "(IIIII)V" } : Jvm.MethodName) ({ cls := "SlitWidths", name := "coil", desc := "(IIIII)V" } : Jvm.MethodName)) ∈ gw := gw_t (List.mem_of_getElem? (i := 316) (by decide +kernel)) (by decide +kernel)
theorem m_317 : (Jvm.Cond.code ({ cls := "SlitWidths", name := "coil", desc := "(IIIII)V" } : Jvm.MethodName) prog_1_method_2_code (6 : Nat) (Option.none : Option Jvm.ClassFile.FieldType)) ∈ gw := gw_t (List.mem_of_getElem? (i := 317) (by decide +kernel)) (by decide +kernel)
theorem m_318 : (Jvm.Cond.methodLink "SlitWidths" (55 : Nat) ({ cls := "SlitWidths", name := "within", desc := "(III)Z" } : Jvm.MethodName)) ∈ gw := gw_t (List.mem_of_getElem? (i := 318) (by decide +kernel)) (by decide +kernel)
theorem m_319 : (Jvm.Cond.static ({ cls := "SlitWidths", name := "within", desc := "(III)Z" } : Jvm.MethodName)) ∈ gw := gw_t (List.mem_of_getElem? (i := 319) (by decide +kernel)) (by decide +kernel)
theorem m_320 : (Jvm.Cond.code ({ cls := "SlitWidths", name := "within", desc := "(III)Z" } : Jvm.MethodName) prog_1_method_16_code (3 : Nat) (Option.some Jvm.ClassFile.FieldType.boolean)) ∈ gw := gw_t (List.mem_of_getElem? (i := 320) (by decide +kernel)) (by decide +kernel)
theorem m_321 : (Jvm.Cond.constant "SlitWidths" (59 : Nat) (50000 : Int32)) ∈ gw := gw_t (List.mem_of_getElem? (i := 321) (by decide +kernel)) (by decide +kernel)
theorem m_322 : (Jvm.Cond.classLink "SlitWidths" (60 : Nat) "java/lang/IllegalArgumentException") ∈ gw := gw_t (List.mem_of_getElem? (i := 322) (by decide +kernel)) (by decide +kernel)
theorem m_323 : (Jvm.Cond.instantiable "java/lang/IllegalArgumentException" (6 : Nat)) ∈ gw := gw_t (List.mem_of_getElem? (i := 323) (by decide +kernel)) (by decide +kernel)
theorem m_331 : (Jvm.Cond.selects "java/lang/IllegalArgumentException" ({ cls := "java/lang/Throwable", name := "fillInStackTrace", desc := "(I)Ljava/lang/Throwable;" } : Jvm.MethodName) ({ cls := "java/lang/Throwable", name := "fillInStackTrace", desc := "(I)Ljava/lang/Throwable;" } : Jvm.MethodName)) ∈ gw := gw_t (List.mem_of_getElem? (i := 331) (by decide +kernel)) (by decide +kernel)
theorem m_332 : (Jvm.Cond.selects "java/lang/IllegalArgumentException" ({ cls := "java/lang/Throwable", name := "fillInStackTrace", desc := "()Ljava/lang/Throwable;" } : Jvm.MethodName) ({ cls := "java/lang/Throwable", name := "fillInStackTrace", desc := "()Ljava/lang/Throwable;" } : Jvm.MethodName)) ∈ gw := gw_t (List.mem_of_getElem? (i := 332) (by decide +kernel)) (by decide +kernel)
theorem m_333 : (Jvm.Cond.lays "java/lang/IllegalArgumentException" "java/lang/Throwable" "cause" "Ljava/lang/Throwable;") ∈ gw := gw_t (List.mem_of_getElem? (i := 333) (by decide +kernel)) (by decide +kernel)
theorem m_334 : (Jvm.Cond.lays "java/lang/Throwable" "java/lang/Throwable" "cause" "Ljava/lang/Throwable;") ∈ gw := gw_t (List.mem_of_getElem? (i := 334) (by decide +kernel)) (by decide +kernel)
theorem m_335 : (Jvm.Cond.lays "java/lang/IllegalArgumentException" "java/lang/Throwable" "stackTrace" "[Ljava/lang/StackTraceElement;") ∈ gw := gw_t (List.mem_of_getElem? (i := 335) (by decide +kernel)) (by decide +kernel)
theorem m_336 : (Jvm.Cond.lays "java/lang/Throwable" "java/lang/Throwable" "stackTrace" "[Ljava/lang/StackTraceElement;") ∈ gw := gw_t (List.mem_of_getElem? (i := 336) (by decide +kernel)) (by decide +kernel)
theorem m_337 : (Jvm.Cond.lays "java/lang/IllegalArgumentException" "java/lang/Throwable" "suppressedExceptions" "Ljava/util/List;") ∈ gw := gw_t (List.mem_of_getElem? (i := 337) (by decide +kernel)) (by decide +kernel)
theorem m_338 : (Jvm.Cond.lays "java/lang/Throwable" "java/lang/Throwable" "suppressedExceptions" "Ljava/util/List;") ∈ gw := gw_t (List.mem_of_getElem? (i := 338) (by decide +kernel)) (by decide +kernel)
theorem m_339 : (Jvm.Cond.lays "java/lang/IllegalArgumentException" "java/lang/Throwable" "detailMessage" "Ljava/lang/String;") ∈ gw := gw_t (List.mem_of_getElem? (i := 339) (by decide +kernel)) (by decide +kernel)
theorem m_340 : (Jvm.Cond.lays "java/lang/Throwable" "java/lang/Throwable" "detailMessage" "Ljava/lang/String;") ∈ gw := gw_t (List.mem_of_getElem? (i := 340) (by decide +kernel)) (by decide +kernel)
theorem m_341 : (Jvm.Cond.lays "java/lang/IllegalArgumentException" "java/lang/Throwable" "backtrace" "Ljava/lang/Object;") ∈ gw := gw_t (List.mem_of_getElem? (i := 341) (by decide +kernel)) (by decide +kernel)
theorem m_342 : (Jvm.Cond.lays "java/lang/Throwable" "java/lang/Throwable" "backtrace" "Ljava/lang/Object;") ∈ gw := gw_t (List.mem_of_getElem? (i := 342) (by decide +kernel)) (by decide +kernel)
theorem m_343 : (Jvm.Cond.fieldLink "java/lang/Throwable" (198 : Nat) "java/lang/Throwable" "backtrace" "Ljava/lang/Object;") ∈ gw := gw_t (List.mem_of_getElem? (i := 343) (by decide +kernel)) (by decide +kernel)
theorem m_345 : (Jvm.Cond.instanceMethod ({ cls := "java/lang/Throwable", name := "<init>", desc := "()V" } : Jvm.MethodName)) ∈ gw := gw_t (List.mem_of_getElem? (i := 345) (by decide +kernel)) (by decide +kernel)
theorem m_346 : (Jvm.Cond.code ({ cls := "java/lang/Throwable", name := "<init>", desc := "()V" } : Jvm.MethodName) prog_17_method_1_code (1 : Nat) (Option.none : Option Jvm.ClassFile.FieldType)) ∈ gw := gw_t (List.mem_of_getElem? (i := 346) (by decide +kernel)) (by decide +kernel)
theorem m_347 : (Jvm.Cond.methodLink "java/lang/Throwable" (1 : Nat) ({ cls := "java/lang/Object", name := "<init>", desc := "()V" } : Jvm.MethodName)) ∈ gw := gw_t (List.mem_of_getElem? (i := 347) (by decide +kernel)) (by decide +kernel)
theorem m_348 : (Jvm.Cond.fieldLink "java/lang/Throwable" (13 : Nat) "java/lang/Throwable" "UNASSIGNED_STACK" "[Ljava/lang/StackTraceElement;") ∈ gw := gw_t (List.mem_of_getElem? (i := 348) (by decide +kernel)) (by decide +kernel)
theorem m_350 : (Jvm.Cond.fieldLink "java/lang/Throwable" (20 : Nat) "java/lang/Throwable" "SUPPRESSED_SENTINEL" "Ljava/util/List;") ∈ gw := gw_t (List.mem_of_getElem? (i := 350) (by decide +kernel)) (by decide +kernel)
theorem m_352 : (Jvm.Cond.methodLink "java/lang/Throwable" (27 : Nat) ({ cls := "java/lang/Throwable", name := "fillInStackTrace", desc := "()Ljava/lang/Throwable;" } : Jvm.MethodName)) ∈ gw := gw_t (List.mem_of_getElem? (i := 352) (by decide +kernel)) (by decide +kernel)
theorem m_353 : (Jvm.Cond.instanceMethod ({ cls := "java/lang/Throwable", name := "fillInStackTrace", desc := "()Ljava/lang/Throwable;" } : Jvm.MethodName)) ∈ gw := gw_t (List.mem_of_getElem? (i := 353) (by decide +kernel)) (by decide +kernel)
theorem m_354 : (Jvm.Cond.sameMethod "java/lang/Throwable" "java/lang/Throwable" "fillInStackTrace" "()Ljava/lang/Throwable;") ∈ gw := gw_t (List.mem_of_getElem? (i := 354) (by decide +kernel)) (by decide +kernel)
theorem m_355 : (Jvm.Cond.selects "java/lang/IllegalStateException" ({ cls := "java/lang/Throwable", name := "fillInStackTrace", desc := "()Ljava/lang/Throwable;" } : Jvm.MethodName) ({ cls := "java/lang/Throwable", name := "fillInStackTrace", desc := "()Ljava/lang/Throwable;" } : Jvm.MethodName)) ∈ gw := gw_t (List.mem_of_getElem? (i := 355) (by decide +kernel)) (by decide +kernel)
theorem m_356 : (Jvm.Cond.selects "java/lang/IndexOutOfBoundsException" ({ cls := "java/lang/Throwable", name := "fillInStackTrace", desc := "()Ljava/lang/Throwable;" } : Jvm.MethodName) ({ cls := "java/lang/Throwable", name := "fillInStackTrace", desc := "()Ljava/lang/Throwable;" } : Jvm.MethodName)) ∈ gw := gw_t (List.mem_of_getElem? (i := 356) (by decide +kernel)) (by decide +kernel)
theorem m_357 : (Jvm.Cond.selects "java/lang/UnsupportedOperationException" ({ cls := "java/lang/Throwable", name := "fillInStackTrace", desc := "()Ljava/lang/Throwable;" } : Jvm.MethodName) ({ cls := "java/lang/Throwable", name := "fillInStackTrace", desc := "()Ljava/lang/Throwable;" } : Jvm.MethodName)) ∈ gw := gw_t (List.mem_of_getElem? (i := 357) (by decide +kernel)) (by decide +kernel)
theorem m_358 : (Jvm.Cond.codeSync ({ cls := "java/lang/Throwable", name := "fillInStackTrace", desc := "()Ljava/lang/Throwable;" } : Jvm.MethodName) prog_17_method_18_code (1 : Nat) (Option.some (Jvm.ClassFile.FieldType.object "java/lang/Throwable"))) ∈ gw := gw_t (List.mem_of_getElem? (i := 358) (by decide +kernel)) (by decide +kernel)
theorem m_359 : (Jvm.Cond.methodLink "java/lang/Throwable" (202 : Nat) ({ cls := "java/lang/Throwable", name := "fillInStackTrace", desc := "(I)Ljava/lang/Throwable;" } : Jvm.MethodName)) ∈ gw := gw_t (List.mem_of_getElem? (i := 359) (by decide +kernel)) (by decide +kernel)
theorem m_361 : (Jvm.Cond.instanceMethod ({ cls := "java/lang/Throwable", name := "fillInStackTrace", desc := "(I)Ljava/lang/Throwable;" } : Jvm.MethodName)) ∈ gw := gw_t (List.mem_of_getElem? (i := 361) (by decide +kernel)) (by decide +kernel)
theorem m_362 : (Jvm.Cond.instantiable "java/lang/Throwable" (6 : Nat)) ∈ gw := gw_t (List.mem_of_getElem? (i := 362) (by decide +kernel)) (by decide +kernel)
theorem m_363 : (Jvm.Cond.native ({ cls := "java/lang/Throwable", name := "fillInStackTrace", desc := "(I)Ljava/lang/Throwable;" } : Jvm.MethodName)) ∈ gw := gw_t (List.mem_of_getElem? (i := 363) (by decide +kernel)) (by decide +kernel)
theorem m_365 : (Jvm.Cond.methodLink "SlitWidths" (64 : Nat) ({ cls := "java/lang/IllegalArgumentException", name := "<init>", desc := "(Ljava/lang/String;)V" } : Jvm.MethodName)) ∈ gw := gw_t (List.mem_of_getElem? (i := 365) (by decide +kernel)) (by decide +kernel)
theorem m_366 : (Jvm.Cond.instanceMethod ({ cls := "java/lang/IllegalArgumentException", name := "<init>", desc := "(Ljava/lang/String;)V" } : Jvm.MethodName)) ∈ gw := gw_t (List.mem_of_getElem? (i := 366) (by decide +kernel)) (by decide +kernel)
theorem m_367 : (Jvm.Cond.code ({ cls := "java/lang/IllegalArgumentException", name := "<init>", desc := "(Ljava/lang/String;)V" } : Jvm.MethodName) prog_11_method_2_code (2 : Nat) (Option.none : Option Jvm.ClassFile.FieldType)) ∈ gw := gw_t (List.mem_of_getElem? (i := 367) (by decide +kernel)) (by decide +kernel)
theorem m_368 : (Jvm.Cond.methodLink "java/lang/IllegalArgumentException" (7 : Nat) ({ cls := "java/lang/RuntimeException", name := "<init>", desc := "(Ljava/lang/String;)V" } : Jvm.MethodName)) ∈ gw := gw_t (List.mem_of_getElem? (i := 368) (by decide +kernel)) (by decide +kernel)
theorem m_369 : (Jvm.Cond.instanceMethod ({ cls := "java/lang/RuntimeException", name := "<init>", desc := "(Ljava/lang/String;)V" } : Jvm.MethodName)) ∈ gw := gw_t (List.mem_of_getElem? (i := 369) (by decide +kernel)) (by decide +kernel)
theorem m_370 : (Jvm.Cond.code ({ cls := "java/lang/RuntimeException", name := "<init>", desc := "(Ljava/lang/String;)V" } : Jvm.MethodName) prog_14_method_2_code (2 : Nat) (Option.none : Option Jvm.ClassFile.FieldType)) ∈ gw := gw_t (List.mem_of_getElem? (i := 370) (by decide +kernel)) (by decide +kernel)
theorem m_371 : (Jvm.Cond.methodLink "java/lang/RuntimeException" (7 : Nat) ({ cls := "java/lang/Exception", name := "<init>", desc := "(Ljava/lang/String;)V" } : Jvm.MethodName)) ∈ gw := gw_t (List.mem_of_getElem? (i := 371) (by decide +kernel)) (by decide +kernel)
theorem m_372 : (Jvm.Cond.instanceMethod ({ cls := "java/lang/Exception", name := "<init>", desc := "(Ljava/lang/String;)V" } : Jvm.MethodName)) ∈ gw := gw_t (List.mem_of_getElem? (i := 372) (by decide +kernel)) (by decide +kernel)
theorem m_373 : (Jvm.Cond.code ({ cls := "java/lang/Exception", name := "<init>", desc := "(Ljava/lang/String;)V" } : Jvm.MethodName) prog_10_method_2_code (2 : Nat) (Option.none : Option Jvm.ClassFile.FieldType)) ∈ gw := gw_t (List.mem_of_getElem? (i := 373) (by decide +kernel)) (by decide +kernel)
theorem m_374 : (Jvm.Cond.methodLink "java/lang/Exception" (7 : Nat) ({ cls := "java/lang/Throwable", name := "<init>", desc := "(Ljava/lang/String;)V" } : Jvm.MethodName)) ∈ gw := gw_t (List.mem_of_getElem? (i := 374) (by decide +kernel)) (by decide +kernel)
theorem m_375 : (Jvm.Cond.instanceMethod ({ cls := "java/lang/Throwable", name := "<init>", desc := "(Ljava/lang/String;)V" } : Jvm.MethodName)) ∈ gw := gw_t (List.mem_of_getElem? (i := 375) (by decide +kernel)) (by decide +kernel)
theorem m_376 : (Jvm.Cond.code ({ cls := "java/lang/Throwable", name := "<init>", desc := "(Ljava/lang/String;)V" } : Jvm.MethodName) prog_17_method_2_code (2 : Nat) (Option.none : Option Jvm.ClassFile.FieldType)) ∈ gw := gw_t (List.mem_of_getElem? (i := 376) (by decide +kernel)) (by decide +kernel)
theorem m_377 : (Jvm.Cond.fieldLink "java/lang/Throwable" (198 : Nat) "java/lang/Throwable" "backtrace" "Ljava/lang/Object;") ∈ gw := gw_t (List.mem_of_getElem? (i := 377) (by decide +kernel)) (by decide +kernel)
theorem m_378 : (Jvm.Cond.fieldLink "java/lang/Throwable" (31 : Nat) "java/lang/Throwable" "detailMessage" "Ljava/lang/String;") ∈ gw := gw_t (List.mem_of_getElem? (i := 378) (by decide +kernel)) (by decide +kernel)
theorem m_379 : (Jvm.Cond.fieldLink "java/lang/Throwable" (7 : Nat) "java/lang/Throwable" "cause" "Ljava/lang/Throwable;") ∈ gw := gw_t (List.mem_of_getElem? (i := 379) (by decide +kernel)) (by decide +kernel)
theorem m_380 : (Jvm.Cond.fieldLink "java/lang/Throwable" (17 : Nat) "java/lang/Throwable" "stackTrace" "[Ljava/lang/StackTraceElement;") ∈ gw := gw_t (List.mem_of_getElem? (i := 380) (by decide +kernel)) (by decide +kernel)
theorem m_381 : (Jvm.Cond.fieldLink "java/lang/Throwable" (24 : Nat) "java/lang/Throwable" "suppressedExceptions" "Ljava/util/List;") ∈ gw := gw_t (List.mem_of_getElem? (i := 381) (by decide +kernel)) (by decide +kernel)
theorem m_386 : (Jvm.Cond.lays "java/lang/IllegalArgumentException" "java/lang/Throwable" "depth" "I") ∈ gw := gw_t (List.mem_of_getElem? (i := 386) (by decide +kernel)) (by decide +kernel)
theorem m_390 : (Jvm.Cond.arrayClass Jvm.ClassFile.FieldType.byte) ∈ gw := gw_t (List.mem_of_getElem? (i := 390) (by decide +kernel)) (by decide +kernel)
theorem m_391 : (Jvm.Cond.methodLink "SlitWidthsLaw" (69 : Nat) ({ cls := "SlitWidthsLaw", name := "want", desc := "(LSlitWidths;II[J)I" } : Jvm.MethodName)) ∈ gw := gw_t (List.mem_of_getElem? (i := 391) (by decide +kernel)) (by decide +kernel)
theorem m_392 : (Jvm.Cond.static ({ cls := "SlitWidthsLaw", name := "want", desc := "(LSlitWidths;II[J)I" } : Jvm.MethodName)) ∈ gw := gw_t (List.mem_of_getElem? (i := 392) (by decide +kernel)) (by decide +kernel)
theorem m_393 : (Jvm.Cond.codeWith ({ cls := "SlitWidthsLaw", name := "want", desc := "(LSlitWidths;II[J)I" } : Jvm.MethodName) method_4_code (5 : Nat) (Option.some Jvm.ClassFile.FieldType.int) [((0 : Nat), (10 : Nat), (13 : Nat), (19 : Nat)), ((0 : Nat), (10 : Nat), (17 : Nat), (13 : Nat))]) ∈ gw := gw_t (List.mem_of_getElem? (i := 393) (by decide +kernel)) (by decide +kernel)
theorem m_394 : (Jvm.Cond.classLink "SlitWidthsLaw" (19 : Nat) "java/lang/IllegalStateException") ∈ gw := gw_t (List.mem_of_getElem? (i := 394) (by decide +kernel)) (by decide +kernel)
theorem m_395 : (Jvm.Cond.methodLink "SlitWidthsLaw" (15 : Nat) ({ cls := "SlitWidths", name := "want", desc := "(II)I" } : Jvm.MethodName)) ∈ gw := gw_t (List.mem_of_getElem? (i := 395) (by decide +kernel)) (by decide +kernel)
theorem m_396 : (Jvm.Cond.instanceMethod ({ cls := "SlitWidths", name := "want", desc := "(II)I" } : Jvm.MethodName)) ∈ gw := gw_t (List.mem_of_getElem? (i := 396) (by decide +kernel)) (by decide +kernel)
theorem m_397 : (Jvm.Cond.selects "SlitWidths" ({ cls := "SlitWidths", name := "want", desc := "(II)I" } : Jvm.MethodName) ({ cls := "SlitWidths", name := "want", desc := "(II)I" } : Jvm.MethodName)) ∈ gw := gw_t (List.mem_of_getElem? (i := 397) (by decide +kernel)) (by decide +kernel)
theorem m_398 : (Jvm.Cond.code ({ cls := "SlitWidths", name := "want", desc := "(II)I" } : Jvm.MethodName) prog_1_method_3_code (4 : Nat) (Option.some Jvm.ClassFile.FieldType.int)) ∈ gw := gw_t (List.mem_of_getElem? (i := 398) (by decide +kernel)) (by decide +kernel)
theorem m_399 : (Jvm.Cond.classLink "SlitWidths" (89 : Nat) "java/lang/IllegalStateException") ∈ gw := gw_t (List.mem_of_getElem? (i := 399) (by decide +kernel)) (by decide +kernel)
theorem m_400 : (Jvm.Cond.instantiable "java/lang/IllegalStateException" (6 : Nat)) ∈ gw := gw_t (List.mem_of_getElem? (i := 400) (by decide +kernel)) (by decide +kernel)
theorem m_402 : (Jvm.Cond.selects "java/lang/IllegalStateException" ({ cls := "java/lang/Throwable", name := "fillInStackTrace", desc := "(I)Ljava/lang/Throwable;" } : Jvm.MethodName) ({ cls := "java/lang/Throwable", name := "fillInStackTrace", desc := "(I)Ljava/lang/Throwable;" } : Jvm.MethodName)) ∈ gw := gw_t (List.mem_of_getElem? (i := 402) (by decide +kernel)) (by decide +kernel)
theorem m_403 : (Jvm.Cond.lays "java/lang/IllegalStateException" "java/lang/Throwable" "cause" "Ljava/lang/Throwable;") ∈ gw := gw_t (List.mem_of_getElem? (i := 403) (by decide +kernel)) (by decide +kernel)
theorem m_404 : (Jvm.Cond.lays "java/lang/IllegalStateException" "java/lang/Throwable" "stackTrace" "[Ljava/lang/StackTraceElement;") ∈ gw := gw_t (List.mem_of_getElem? (i := 404) (by decide +kernel)) (by decide +kernel)
theorem m_405 : (Jvm.Cond.lays "java/lang/IllegalStateException" "java/lang/Throwable" "suppressedExceptions" "Ljava/util/List;") ∈ gw := gw_t (List.mem_of_getElem? (i := 405) (by decide +kernel)) (by decide +kernel)
theorem m_406 : (Jvm.Cond.lays "java/lang/IllegalStateException" "java/lang/Throwable" "detailMessage" "Ljava/lang/String;") ∈ gw := gw_t (List.mem_of_getElem? (i := 406) (by decide +kernel)) (by decide +kernel)
theorem m_407 : (Jvm.Cond.lays "java/lang/IllegalStateException" "java/lang/Throwable" "backtrace" "Ljava/lang/Object;") ∈ gw := gw_t (List.mem_of_getElem? (i := 407) (by decide +kernel)) (by decide +kernel)
theorem m_409 : (Jvm.Cond.methodLink "SlitWidths" (93 : Nat) ({ cls := "java/lang/IllegalStateException", name := "<init>", desc := "(Ljava/lang/String;)V" } : Jvm.MethodName)) ∈ gw := gw_t (List.mem_of_getElem? (i := 409) (by decide +kernel)) (by decide +kernel)
theorem m_410 : (Jvm.Cond.instanceMethod ({ cls := "java/lang/IllegalStateException", name := "<init>", desc := "(Ljava/lang/String;)V" } : Jvm.MethodName)) ∈ gw := gw_t (List.mem_of_getElem? (i := 410) (by decide +kernel)) (by decide +kernel)
theorem m_411 : (Jvm.Cond.code ({ cls := "java/lang/IllegalStateException", name := "<init>", desc := "(Ljava/lang/String;)V" } : Jvm.MethodName) prog_12_method_2_code (2 : Nat) (Option.none : Option Jvm.ClassFile.FieldType)) ∈ gw := gw_t (List.mem_of_getElem? (i := 411) (by decide +kernel)) (by decide +kernel)
theorem m_412 : (Jvm.Cond.methodLink "java/lang/IllegalStateException" (7 : Nat) ({ cls := "java/lang/RuntimeException", name := "<init>", desc := "(Ljava/lang/String;)V" } : Jvm.MethodName)) ∈ gw := gw_t (List.mem_of_getElem? (i := 412) (by decide +kernel)) (by decide +kernel)
theorem m_413 : (Jvm.Cond.lays "java/lang/IllegalStateException" "java/lang/Throwable" "depth" "I") ∈ gw := gw_t (List.mem_of_getElem? (i := 413) (by decide +kernel)) (by decide +kernel)
theorem m_416 : (Jvm.Cond.methodLink "SlitWidthsLaw" (73 : Nat) ({ cls := "SlitWidthsLaw", name := "strips", desc := "(LSlitWidths;II)I" } : Jvm.MethodName)) ∈ gw := gw_t (List.mem_of_getElem? (i := 416) (by decide +kernel)) (by decide +kernel)
theorem m_417 : (Jvm.Cond.static ({ cls := "SlitWidthsLaw", name := "strips", desc := "(LSlitWidths;II)I" } : Jvm.MethodName)) ∈ gw := gw_t (List.mem_of_getElem? (i := 417) (by decide +kernel)) (by decide +kernel)
theorem m_418 : (Jvm.Cond.codeWith ({ cls := "SlitWidthsLaw", name := "strips", desc := "(LSlitWidths;II)I" } : Jvm.MethodName) method_5_code (4 : Nat) (Option.some Jvm.ClassFile.FieldType.int) [((0 : Nat), (6 : Nat), (9 : Nat), (25 : Nat)), ((0 : Nat), (6 : Nat), (12 : Nat), (13 : Nat))]) ∈ gw := gw_t (List.mem_of_getElem? (i := 418) (by decide +kernel)) (by decide +kernel)
theorem m_419 : (Jvm.Cond.classLink "SlitWidthsLaw" (25 : Nat) "java/lang/IndexOutOfBoundsException") ∈ gw := gw_t (List.mem_of_getElem? (i := 419) (by decide +kernel)) (by decide +kernel)
theorem m_420 : (Jvm.Cond.methodLink "SlitWidthsLaw" (21 : Nat) ({ cls := "SlitWidths", name := "strips", desc := "(II)V" } : Jvm.MethodName)) ∈ gw := gw_t (List.mem_of_getElem? (i := 420) (by decide +kernel)) (by decide +kernel)
theorem m_421 : (Jvm.Cond.instanceMethod ({ cls := "SlitWidths", name := "strips", desc := "(II)V" } : Jvm.MethodName)) ∈ gw := gw_t (List.mem_of_getElem? (i := 421) (by decide +kernel)) (by decide +kernel)
theorem m_422 : (Jvm.Cond.selects "SlitWidths" ({ cls := "SlitWidths", name := "strips", desc := "(II)V" } : Jvm.MethodName) ({ cls := "SlitWidths", name := "strips", desc := "(II)V" } : Jvm.MethodName)) ∈ gw := gw_t (List.mem_of_getElem? (i := 422) (by decide +kernel)) (by decide +kernel)
theorem m_423 : (Jvm.Cond.code ({ cls := "SlitWidths", name := "strips", desc := "(II)V" } : Jvm.MethodName) prog_1_method_4_code (3 : Nat) (Option.none : Option Jvm.ClassFile.FieldType)) ∈ gw := gw_t (List.mem_of_getElem? (i := 423) (by decide +kernel)) (by decide +kernel)
theorem m_424 : (Jvm.Cond.methodLink "SlitWidths" (103 : Nat) ({ cls := "SlitWidths", name := "checkWanted", desc := "(I)V" } : Jvm.MethodName)) ∈ gw := gw_t (List.mem_of_getElem? (i := 424) (by decide +kernel)) (by decide +kernel)
theorem m_426 : (Jvm.Cond.instanceMethod ({ cls := "SlitWidths", name := "checkWanted", desc := "(I)V" } : Jvm.MethodName)) ∈ gw := gw_t (List.mem_of_getElem? (i := 426) (by decide +kernel)) (by decide +kernel)
theorem m_427 : (Jvm.Cond.code ({ cls := "SlitWidths", name := "checkWanted", desc := "(I)V" } : Jvm.MethodName) prog_1_method_17_code (2 : Nat) (Option.none : Option Jvm.ClassFile.FieldType)) ∈ gw := gw_t (List.mem_of_getElem? (i := 427) (by decide +kernel)) (by decide +kernel)
theorem m_428 : (Jvm.Cond.classLink "SlitWidths" (141 : Nat) "java/lang/IndexOutOfBoundsException") ∈ gw := gw_t (List.mem_of_getElem? (i := 428) (by decide +kernel)) (by decide +kernel)
theorem m_429 : (Jvm.Cond.instantiable "java/lang/IndexOutOfBoundsException" (6 : Nat)) ∈ gw := gw_t (List.mem_of_getElem? (i := 429) (by decide +kernel)) (by decide +kernel)
theorem m_431 : (Jvm.Cond.selects "java/lang/IndexOutOfBoundsException" ({ cls := "java/lang/Throwable", name := "fillInStackTrace", desc := "(I)Ljava/lang/Throwable;" } : Jvm.MethodName) ({ cls := "java/lang/Throwable", name := "fillInStackTrace", desc := "(I)Ljava/lang/Throwable;" } : Jvm.MethodName)) ∈ gw := gw_t (List.mem_of_getElem? (i := 431) (by decide +kernel)) (by decide +kernel)
theorem m_432 : (Jvm.Cond.lays "java/lang/IndexOutOfBoundsException" "java/lang/Throwable" "cause" "Ljava/lang/Throwable;") ∈ gw := gw_t (List.mem_of_getElem? (i := 432) (by decide +kernel)) (by decide +kernel)
theorem m_433 : (Jvm.Cond.lays "java/lang/IndexOutOfBoundsException" "java/lang/Throwable" "stackTrace" "[Ljava/lang/StackTraceElement;") ∈ gw := gw_t (List.mem_of_getElem? (i := 433) (by decide +kernel)) (by decide +kernel)
theorem m_434 : (Jvm.Cond.lays "java/lang/IndexOutOfBoundsException" "java/lang/Throwable" "suppressedExceptions" "Ljava/util/List;") ∈ gw := gw_t (List.mem_of_getElem? (i := 434) (by decide +kernel)) (by decide +kernel)
theorem m_435 : (Jvm.Cond.lays "java/lang/IndexOutOfBoundsException" "java/lang/Throwable" "detailMessage" "Ljava/lang/String;") ∈ gw := gw_t (List.mem_of_getElem? (i := 435) (by decide +kernel)) (by decide +kernel)
theorem m_436 : (Jvm.Cond.lays "java/lang/IndexOutOfBoundsException" "java/lang/Throwable" "backtrace" "Ljava/lang/Object;") ∈ gw := gw_t (List.mem_of_getElem? (i := 436) (by decide +kernel)) (by decide +kernel)
theorem m_437 : (Jvm.Cond.methodLink "SlitWidths" (145 : Nat) ({ cls := "java/lang/IndexOutOfBoundsException", name := "<init>", desc := "(Ljava/lang/String;)V" } : Jvm.MethodName)) ∈ gw := gw_t (List.mem_of_getElem? (i := 437) (by decide +kernel)) (by decide +kernel)
theorem m_438 : (Jvm.Cond.instanceMethod ({ cls := "java/lang/IndexOutOfBoundsException", name := "<init>", desc := "(Ljava/lang/String;)V" } : Jvm.MethodName)) ∈ gw := gw_t (List.mem_of_getElem? (i := 438) (by decide +kernel)) (by decide +kernel)
theorem m_439 : (Jvm.Cond.code ({ cls := "java/lang/IndexOutOfBoundsException", name := "<init>", desc := "(Ljava/lang/String;)V" } : Jvm.MethodName) prog_13_method_2_code (2 : Nat) (Option.none : Option Jvm.ClassFile.FieldType)) ∈ gw := gw_t (List.mem_of_getElem? (i := 439) (by decide +kernel)) (by decide +kernel)
theorem m_440 : (Jvm.Cond.methodLink "java/lang/IndexOutOfBoundsException" (7 : Nat) ({ cls := "java/lang/RuntimeException", name := "<init>", desc := "(Ljava/lang/String;)V" } : Jvm.MethodName)) ∈ gw := gw_t (List.mem_of_getElem? (i := 440) (by decide +kernel)) (by decide +kernel)
theorem m_441 : (Jvm.Cond.lays "java/lang/IndexOutOfBoundsException" "java/lang/Throwable" "depth" "I") ∈ gw := gw_t (List.mem_of_getElem? (i := 441) (by decide +kernel)) (by decide +kernel)
theorem m_444 : (Jvm.Cond.methodLink "SlitWidthsLaw" (81 : Nat) ({ cls := "SlitWidthsLaw", name := "best", desc := "(LSlitWidths;I[J)I" } : Jvm.MethodName)) ∈ gw := gw_t (List.mem_of_getElem? (i := 444) (by decide +kernel)) (by decide +kernel)
theorem m_445 : (Jvm.Cond.static ({ cls := "SlitWidthsLaw", name := "best", desc := "(LSlitWidths;I[J)I" } : Jvm.MethodName)) ∈ gw := gw_t (List.mem_of_getElem? (i := 445) (by decide +kernel)) (by decide +kernel)
theorem m_446 : (Jvm.Cond.codeWith ({ cls := "SlitWidthsLaw", name := "best", desc := "(LSlitWidths;I[J)I" } : Jvm.MethodName) method_6_code (4 : Nat) (Option.some Jvm.ClassFile.FieldType.int) [((0 : Nat), (9 : Nat), (12 : Nat), (25 : Nat))]) ∈ gw := gw_t (List.mem_of_getElem? (i := 446) (by decide +kernel)) (by decide +kernel)
theorem m_447 : (Jvm.Cond.methodLink "SlitWidthsLaw" (27 : Nat) ({ cls := "SlitWidths", name := "best", desc := "(I)I" } : Jvm.MethodName)) ∈ gw := gw_t (List.mem_of_getElem? (i := 447) (by decide +kernel)) (by decide +kernel)
theorem m_448 : (Jvm.Cond.instanceMethod ({ cls := "SlitWidths", name := "best", desc := "(I)I" } : Jvm.MethodName)) ∈ gw := gw_t (List.mem_of_getElem? (i := 448) (by decide +kernel)) (by decide +kernel)
theorem m_449 : (Jvm.Cond.selects "SlitWidths" ({ cls := "SlitWidths", name := "best", desc := "(I)I" } : Jvm.MethodName) ({ cls := "SlitWidths", name := "best", desc := "(I)I" } : Jvm.MethodName)) ∈ gw := gw_t (List.mem_of_getElem? (i := 449) (by decide +kernel)) (by decide +kernel)
theorem m_450 : (Jvm.Cond.code ({ cls := "SlitWidths", name := "best", desc := "(I)I" } : Jvm.MethodName) prog_1_method_6_code (2 : Nat) (Option.some Jvm.ClassFile.FieldType.int)) ∈ gw := gw_t (List.mem_of_getElem? (i := 450) (by decide +kernel)) (by decide +kernel)
theorem m_451 : (Jvm.Cond.methodLink "SlitWidthsLaw" (85 : Nat) ({ cls := "SlitWidthsLaw", name := "cut", desc := "(LSlitWidths;[J)I" } : Jvm.MethodName)) ∈ gw := gw_t (List.mem_of_getElem? (i := 451) (by decide +kernel)) (by decide +kernel)
theorem m_452 : (Jvm.Cond.static ({ cls := "SlitWidthsLaw", name := "cut", desc := "(LSlitWidths;[J)I" } : Jvm.MethodName)) ∈ gw := gw_t (List.mem_of_getElem? (i := 452) (by decide +kernel)) (by decide +kernel)
theorem m_453 : (Jvm.Cond.codeWith ({ cls := "SlitWidthsLaw", name := "cut", desc := "(LSlitWidths;[J)I" } : Jvm.MethodName) method_7_code (3 : Nat) (Option.some Jvm.ClassFile.FieldType.int) [((0 : Nat), (8 : Nat), (11 : Nat), (19 : Nat)), ((0 : Nat), (8 : Nat), (14 : Nat), (35 : Nat))]) ∈ gw := gw_t (List.mem_of_getElem? (i := 453) (by decide +kernel)) (by decide +kernel)
theorem m_454 : (Jvm.Cond.classLink "SlitWidthsLaw" (35 : Nat) "java/lang/UnsupportedOperationException") ∈ gw := gw_t (List.mem_of_getElem? (i := 454) (by decide +kernel)) (by decide +kernel)
theorem m_455 : (Jvm.Cond.methodLink "SlitWidthsLaw" (31 : Nat) ({ cls := "SlitWidths", name := "cut", desc := "()I" } : Jvm.MethodName)) ∈ gw := gw_t (List.mem_of_getElem? (i := 455) (by decide +kernel)) (by decide +kernel)
theorem m_456 : (Jvm.Cond.instanceMethod ({ cls := "SlitWidths", name := "cut", desc := "()I" } : Jvm.MethodName)) ∈ gw := gw_t (List.mem_of_getElem? (i := 456) (by decide +kernel)) (by decide +kernel)
theorem m_457 : (Jvm.Cond.selects "SlitWidths" ({ cls := "SlitWidths", name := "cut", desc := "()I" } : Jvm.MethodName) ({ cls := "SlitWidths", name := "cut", desc := "()I" } : Jvm.MethodName)) ∈ gw := gw_t (List.mem_of_getElem? (i := 457) (by decide +kernel)) (by decide +kernel)
theorem m_458 : (Jvm.Cond.code ({ cls := "SlitWidths", name := "cut", desc := "()I" } : Jvm.MethodName) prog_1_method_7_code (2 : Nat) (Option.some Jvm.ClassFile.FieldType.int)) ∈ gw := gw_t (List.mem_of_getElem? (i := 458) (by decide +kernel)) (by decide +kernel)
theorem m_460 : (Jvm.Cond.classLink "SlitWidths" (124 : Nat) "java/lang/UnsupportedOperationException") ∈ gw := gw_t (List.mem_of_getElem? (i := 460) (by decide +kernel)) (by decide +kernel)
theorem m_461 : (Jvm.Cond.instantiable "java/lang/UnsupportedOperationException" (6 : Nat)) ∈ gw := gw_t (List.mem_of_getElem? (i := 461) (by decide +kernel)) (by decide +kernel)
theorem m_463 : (Jvm.Cond.selects "java/lang/UnsupportedOperationException" ({ cls := "java/lang/Throwable", name := "fillInStackTrace", desc := "(I)Ljava/lang/Throwable;" } : Jvm.MethodName) ({ cls := "java/lang/Throwable", name := "fillInStackTrace", desc := "(I)Ljava/lang/Throwable;" } : Jvm.MethodName)) ∈ gw := gw_t (List.mem_of_getElem? (i := 463) (by decide +kernel)) (by decide +kernel)
theorem m_464 : (Jvm.Cond.lays "java/lang/UnsupportedOperationException" "java/lang/Throwable" "cause" "Ljava/lang/Throwable;") ∈ gw := gw_t (List.mem_of_getElem? (i := 464) (by decide +kernel)) (by decide +kernel)
theorem m_465 : (Jvm.Cond.lays "java/lang/UnsupportedOperationException" "java/lang/Throwable" "stackTrace" "[Ljava/lang/StackTraceElement;") ∈ gw := gw_t (List.mem_of_getElem? (i := 465) (by decide +kernel)) (by decide +kernel)
theorem m_466 : (Jvm.Cond.lays "java/lang/UnsupportedOperationException" "java/lang/Throwable" "suppressedExceptions" "Ljava/util/List;") ∈ gw := gw_t (List.mem_of_getElem? (i := 466) (by decide +kernel)) (by decide +kernel)
theorem m_467 : (Jvm.Cond.lays "java/lang/UnsupportedOperationException" "java/lang/Throwable" "detailMessage" "Ljava/lang/String;") ∈ gw := gw_t (List.mem_of_getElem? (i := 467) (by decide +kernel)) (by decide +kernel)
theorem m_468 : (Jvm.Cond.lays "java/lang/UnsupportedOperationException" "java/lang/Throwable" "backtrace" "Ljava/lang/Object;") ∈ gw := gw_t (List.mem_of_getElem? (i := 468) (by decide +kernel)) (by decide +kernel)
theorem m_470 : (Jvm.Cond.methodLink "SlitWidths" (128 : Nat) ({ cls := "java/lang/UnsupportedOperationException", name := "<init>", desc := "(Ljava/lang/String;)V" } : Jvm.MethodName)) ∈ gw := gw_t (List.mem_of_getElem? (i := 470) (by decide +kernel)) (by decide +kernel)
theorem m_471 : (Jvm.Cond.instanceMethod ({ cls := "java/lang/UnsupportedOperationException", name := "<init>", desc := "(Ljava/lang/String;)V" } : Jvm.MethodName)) ∈ gw := gw_t (List.mem_of_getElem? (i := 471) (by decide +kernel)) (by decide +kernel)
theorem m_472 : (Jvm.Cond.code ({ cls := "java/lang/UnsupportedOperationException", name := "<init>", desc := "(Ljava/lang/String;)V" } : Jvm.MethodName) prog_18_method_2_code (2 : Nat) (Option.none : Option Jvm.ClassFile.FieldType)) ∈ gw := gw_t (List.mem_of_getElem? (i := 472) (by decide +kernel)) (by decide +kernel)
theorem m_473 : (Jvm.Cond.methodLink "java/lang/UnsupportedOperationException" (7 : Nat) ({ cls := "java/lang/RuntimeException", name := "<init>", desc := "(Ljava/lang/String;)V" } : Jvm.MethodName)) ∈ gw := gw_t (List.mem_of_getElem? (i := 473) (by decide +kernel)) (by decide +kernel)
theorem m_474 : (Jvm.Cond.lays "java/lang/UnsupportedOperationException" "java/lang/Throwable" "depth" "I") ∈ gw := gw_t (List.mem_of_getElem? (i := 474) (by decide +kernel)) (by decide +kernel)
theorem m_476 : (Jvm.Cond.methodLink "SlitWidths" (129 : Nat) ({ cls := "SlitWidths$SetUp", name := "make", desc := "(LSlitWidths$Coil;LSlitWidths$Wishes;LSlitWidths$PatternSearch;)V" } : Jvm.MethodName)) ∈ gw := gw_t (List.mem_of_getElem? (i := 476) (by decide +kernel)) (by decide +kernel)
theorem m_477 : (Jvm.Cond.instanceMethod ({ cls := "SlitWidths$SetUp", name := "make", desc := "(LSlitWidths$Coil;LSlitWidths$Wishes;LSlitWidths$PatternSearch;)V" } : Jvm.MethodName)) ∈ gw := gw_t (List.mem_of_getElem? (i := 477) (by decide +kernel)) (by decide +kernel)
theorem m_478 : (Jvm.Cond.selects "SlitWidths$SetUp" ({ cls := "SlitWidths$SetUp", name := "make", desc := "(LSlitWidths$Coil;LSlitWidths$Wishes;LSlitWidths$PatternSearch;)V" } : Jvm.MethodName) ({ cls := "SlitWidths$SetUp", name := "make", desc := "(LSlitWidths$Coil;LSlitWidths$Wishes;LSlitWidths$PatternSearch;)V" } : Jvm.MethodName)) ∈ gw := gw_t (List.mem_of_getElem? (i := 478) (by decide +kernel)) (by decide +kernel)
theorem m_479 : (Jvm.Cond.code ({ cls := "SlitWidths$SetUp", name := "make", desc := "(LSlitWidths$Coil;LSlitWidths$Wishes;LSlitWidths$PatternSearch;)V" } : Jvm.MethodName) prog_6_method_2_code (7 : Nat) (Option.none : Option Jvm.ClassFile.FieldType)) ∈ gw := gw_t (List.mem_of_getElem? (i := 479) (by decide +kernel)) (by decide +kernel)
theorem m_480 : (Jvm.Cond.methodLink "SlitWidths$SetUp" (67 : Nat) ({ cls := "SlitWidths$SetUp", name := "lay", desc := "(III)V" } : Jvm.MethodName)) ∈ gw := gw_t (List.mem_of_getElem? (i := 480) (by decide +kernel)) (by decide +kernel)
theorem m_482 : (Jvm.Cond.instanceMethod ({ cls := "SlitWidths$SetUp", name := "lay", desc := "(III)V" } : Jvm.MethodName)) ∈ gw := gw_t (List.mem_of_getElem? (i := 482) (by decide +kernel)) (by decide +kernel)
theorem m_483 : (Jvm.Cond.code ({ cls := "SlitWidths$SetUp", name := "lay", desc := "(III)V" } : Jvm.MethodName) prog_6_method_3_code (4 : Nat) (Option.none : Option Jvm.ClassFile.FieldType)) ∈ gw := gw_t (List.mem_of_getElem? (i := 483) (by decide +kernel)) (by decide +kernel)
theorem m_484 : (Jvm.Cond.methodLink "SlitWidths$SetUp" (74 : Nat) ({ cls := "SlitWidths$SetUp", name := "setKnife", desc := "(I)V" } : Jvm.MethodName)) ∈ gw := gw_t (List.mem_of_getElem? (i := 484) (by decide +kernel)) (by decide +kernel)
theorem m_486 : (Jvm.Cond.instanceMethod ({ cls := "SlitWidths$SetUp", name := "setKnife", desc := "(I)V" } : Jvm.MethodName)) ∈ gw := gw_t (List.mem_of_getElem? (i := 486) (by decide +kernel)) (by decide +kernel)
theorem m_487 : (Jvm.Cond.code ({ cls := "SlitWidths$SetUp", name := "setKnife", desc := "(I)V" } : Jvm.MethodName) prog_6_method_4_code (3 : Nat) (Option.none : Option Jvm.ClassFile.FieldType)) ∈ gw := gw_t (List.mem_of_getElem? (i := 487) (by decide +kernel)) (by decide +kernel)
theorem m_488 : (Jvm.Cond.methodLink "SlitWidths" (133 : Nat) ({ cls := "SlitWidths$Wishes", name := "deliver", desc := "([I)V" } : Jvm.MethodName)) ∈ gw := gw_t (List.mem_of_getElem? (i := 488) (by decide +kernel)) (by decide +kernel)
theorem m_489 : (Jvm.Cond.instanceMethod ({ cls := "SlitWidths$Wishes", name := "deliver", desc := "([I)V" } : Jvm.MethodName)) ∈ gw := gw_t (List.mem_of_getElem? (i := 489) (by decide +kernel)) (by decide +kernel)
theorem m_490 : (Jvm.Cond.selects "SlitWidths$Wishes" ({ cls := "SlitWidths$Wishes", name := "deliver", desc := "([I)V" } : Jvm.MethodName) ({ cls := "SlitWidths$Wishes", name := "deliver", desc := "([I)V" } : Jvm.MethodName)) ∈ gw := gw_t (List.mem_of_getElem? (i := 490) (by decide +kernel)) (by decide +kernel)
theorem m_491 : (Jvm.Cond.code ({ cls := "SlitWidths$Wishes", name := "deliver", desc := "([I)V" } : Jvm.MethodName) prog_7_method_2_code (3 : Nat) (Option.none : Option Jvm.ClassFile.FieldType)) ∈ gw := gw_t (List.mem_of_getElem? (i := 491) (by decide +kernel)) (by decide +kernel)
theorem m_492 : (Jvm.Cond.methodLink "SlitWidthsLaw" (89 : Nat) ({ cls := "SlitWidthsLaw", name := "strip", desc := "(LSlitWidths;III[J)I" } : Jvm.MethodName)) ∈ gw := gw_t (List.mem_of_getElem? (i := 492) (by decide +kernel)) (by decide +kernel)
theorem m_493 : (Jvm.Cond.static ({ cls := "SlitWidthsLaw", name := "strip", desc := "(LSlitWidths;III[J)I" } : Jvm.MethodName)) ∈ gw := gw_t (List.mem_of_getElem? (i := 493) (by decide +kernel)) (by decide +kernel)
theorem m_494 : (Jvm.Cond.codeWith ({ cls := "SlitWidthsLaw", name := "strip", desc := "(LSlitWidths;III[J)I" } : Jvm.MethodName) method_8_code (6 : Nat) (Option.some Jvm.ClassFile.FieldType.int) [((0 : Nat), (12 : Nat), (15 : Nat), (25 : Nat))]) ∈ gw := gw_t (List.mem_of_getElem? (i := 494) (by decide +kernel)) (by decide +kernel)
theorem m_495 : (Jvm.Cond.methodLink "SlitWidthsLaw" (37 : Nat) ({ cls := "SlitWidths", name := "strip", desc := "(III)I" } : Jvm.MethodName)) ∈ gw := gw_t (List.mem_of_getElem? (i := 495) (by decide +kernel)) (by decide +kernel)
theorem m_496 : (Jvm.Cond.instanceMethod ({ cls := "SlitWidths", name := "strip", desc := "(III)I" } : Jvm.MethodName)) ∈ gw := gw_t (List.mem_of_getElem? (i := 496) (by decide +kernel)) (by decide +kernel)
theorem m_497 : (Jvm.Cond.selects "SlitWidths" ({ cls := "SlitWidths", name := "strip", desc := "(III)I" } : Jvm.MethodName) ({ cls := "SlitWidths", name := "strip", desc := "(III)I" } : Jvm.MethodName)) ∈ gw := gw_t (List.mem_of_getElem? (i := 497) (by decide +kernel)) (by decide +kernel)
theorem m_498 : (Jvm.Cond.code ({ cls := "SlitWidths", name := "strip", desc := "(III)I" } : Jvm.MethodName) prog_1_method_8_code (5 : Nat) (Option.some Jvm.ClassFile.FieldType.int)) ∈ gw := gw_t (List.mem_of_getElem? (i := 498) (by decide +kernel)) (by decide +kernel)
theorem m_499 : (Jvm.Cond.methodLink "SlitWidths" (138 : Nat) ({ cls := "SlitWidths", name := "checkSetUp", desc := "(I)V" } : Jvm.MethodName)) ∈ gw := gw_t (List.mem_of_getElem? (i := 499) (by decide +kernel)) (by decide +kernel)
theorem m_501 : (Jvm.Cond.instanceMethod ({ cls := "SlitWidths", name := "checkSetUp", desc := "(I)V" } : Jvm.MethodName)) ∈ gw := gw_t (List.mem_of_getElem? (i := 501) (by decide +kernel)) (by decide +kernel)
theorem m_502 : (Jvm.Cond.code ({ cls := "SlitWidths", name := "checkSetUp", desc := "(I)V" } : Jvm.MethodName) prog_1_method_18_code (2 : Nat) (Option.none : Option Jvm.ClassFile.FieldType)) ∈ gw := gw_t (List.mem_of_getElem? (i := 502) (by decide +kernel)) (by decide +kernel)
theorem m_505 : (Jvm.Cond.methodLink "SlitWidths" (161 : Nat) ({ cls := "SlitWidths$SetUp", name := "stripWeight", desc := "(I)I" } : Jvm.MethodName)) ∈ gw := gw_t (List.mem_of_getElem? (i := 505) (by decide +kernel)) (by decide +kernel)
theorem m_506 : (Jvm.Cond.instanceMethod ({ cls := "SlitWidths$SetUp", name := "stripWeight", desc := "(I)I" } : Jvm.MethodName)) ∈ gw := gw_t (List.mem_of_getElem? (i := 506) (by decide +kernel)) (by decide +kernel)
theorem m_507 : (Jvm.Cond.selects "SlitWidths$SetUp" ({ cls := "SlitWidths$SetUp", name := "stripWeight", desc := "(I)I" } : Jvm.MethodName) ({ cls := "SlitWidths$SetUp", name := "stripWeight", desc := "(I)I" } : Jvm.MethodName)) ∈ gw := gw_t (List.mem_of_getElem? (i := 507) (by decide +kernel)) (by decide +kernel)
theorem m_508 : (Jvm.Cond.code ({ cls := "SlitWidths$SetUp", name := "stripWeight", desc := "(I)I" } : Jvm.MethodName) prog_6_method_6_code (2 : Nat) (Option.some Jvm.ClassFile.FieldType.int)) ∈ gw := gw_t (List.mem_of_getElem? (i := 508) (by decide +kernel)) (by decide +kernel)
theorem m_509 : (Jvm.Cond.methodLink "SlitWidths$SetUp" (78 : Nat) ({ cls := "SlitWidths$SetUp", name := "kilosBefore", desc := "(I)I" } : Jvm.MethodName)) ∈ gw := gw_t (List.mem_of_getElem? (i := 509) (by decide +kernel)) (by decide +kernel)
theorem m_511 : (Jvm.Cond.instanceMethod ({ cls := "SlitWidths$SetUp", name := "kilosBefore", desc := "(I)I" } : Jvm.MethodName)) ∈ gw := gw_t (List.mem_of_getElem? (i := 511) (by decide +kernel)) (by decide +kernel)
theorem m_512 : (Jvm.Cond.code ({ cls := "SlitWidths$SetUp", name := "kilosBefore", desc := "(I)I" } : Jvm.MethodName) prog_6_method_8_code (2 : Nat) (Option.some Jvm.ClassFile.FieldType.int)) ∈ gw := gw_t (List.mem_of_getElem? (i := 512) (by decide +kernel)) (by decide +kernel)
theorem m_513 : (Jvm.Cond.methodLink "SlitWidthsLaw" (93 : Nat) ({ cls := "SlitWidthsLaw", name := "scrap", desc := "(LSlitWidths;I[J)I" } : Jvm.MethodName)) ∈ gw := gw_t (List.mem_of_getElem? (i := 513) (by decide +kernel)) (by decide +kernel)
theorem m_514 : (Jvm.Cond.static ({ cls := "SlitWidthsLaw", name := "scrap", desc := "(LSlitWidths;I[J)I" } : Jvm.MethodName)) ∈ gw := gw_t (List.mem_of_getElem? (i := 514) (by decide +kernel)) (by decide +kernel)
theorem m_515 : (Jvm.Cond.codeWith ({ cls := "SlitWidthsLaw", name := "scrap", desc := "(LSlitWidths;I[J)I" } : Jvm.MethodName) method_9_code (4 : Nat) (Option.some Jvm.ClassFile.FieldType.int) [((0 : Nat), (9 : Nat), (12 : Nat), (25 : Nat))]) ∈ gw := gw_t (List.mem_of_getElem? (i := 515) (by decide +kernel)) (by decide +kernel)
theorem m_516 : (Jvm.Cond.methodLink "SlitWidthsLaw" (41 : Nat) ({ cls := "SlitWidths", name := "scrap", desc := "(I)I" } : Jvm.MethodName)) ∈ gw := gw_t (List.mem_of_getElem? (i := 516) (by decide +kernel)) (by decide +kernel)
theorem m_517 : (Jvm.Cond.instanceMethod ({ cls := "SlitWidths", name := "scrap", desc := "(I)I" } : Jvm.MethodName)) ∈ gw := gw_t (List.mem_of_getElem? (i := 517) (by decide +kernel)) (by decide +kernel)
theorem m_518 : (Jvm.Cond.selects "SlitWidths" ({ cls := "SlitWidths", name := "scrap", desc := "(I)I" } : Jvm.MethodName) ({ cls := "SlitWidths", name := "scrap", desc := "(I)I" } : Jvm.MethodName)) ∈ gw := gw_t (List.mem_of_getElem? (i := 518) (by decide +kernel)) (by decide +kernel)
theorem m_519 : (Jvm.Cond.code ({ cls := "SlitWidths", name := "scrap", desc := "(I)I" } : Jvm.MethodName) prog_1_method_9_code (2 : Nat) (Option.some Jvm.ClassFile.FieldType.int)) ∈ gw := gw_t (List.mem_of_getElem? (i := 519) (by decide +kernel)) (by decide +kernel)
theorem m_520 : (Jvm.Cond.methodLink "SlitWidths" (165 : Nat) ({ cls := "SlitWidths$SetUp", name := "scrapWeight", desc := "()I" } : Jvm.MethodName)) ∈ gw := gw_t (List.mem_of_getElem? (i := 520) (by decide +kernel)) (by decide +kernel)
theorem m_521 : (Jvm.Cond.instanceMethod ({ cls := "SlitWidths$SetUp", name := "scrapWeight", desc := "()I" } : Jvm.MethodName)) ∈ gw := gw_t (List.mem_of_getElem? (i := 521) (by decide +kernel)) (by decide +kernel)
theorem m_522 : (Jvm.Cond.selects "SlitWidths$SetUp" ({ cls := "SlitWidths$SetUp", name := "scrapWeight", desc := "()I" } : Jvm.MethodName) ({ cls := "SlitWidths$SetUp", name := "scrapWeight", desc := "()I" } : Jvm.MethodName)) ∈ gw := gw_t (List.mem_of_getElem? (i := 522) (by decide +kernel)) (by decide +kernel)
theorem m_523 : (Jvm.Cond.code ({ cls := "SlitWidths$SetUp", name := "scrapWeight", desc := "()I" } : Jvm.MethodName) prog_6_method_7_code (3 : Nat) (Option.some Jvm.ClassFile.FieldType.int)) ∈ gw := gw_t (List.mem_of_getElem? (i := 523) (by decide +kernel)) (by decide +kernel)
theorem m_524 : (Jvm.Cond.methodLink "SlitWidths$SetUp" (82 : Nat) ({ cls := "SlitWidths$SetUp", name := "stripWeight", desc := "(I)I" } : Jvm.MethodName)) ∈ gw := gw_t (List.mem_of_getElem? (i := 524) (by decide +kernel)) (by decide +kernel)
theorem m_525 : (Jvm.Cond.methodLink "SlitWidthsLaw" (96 : Nat) ({ cls := "SlitWidthsLaw", name := "moves", desc := "(LSlitWidths;II[J)I" } : Jvm.MethodName)) ∈ gw := gw_t (List.mem_of_getElem? (i := 525) (by decide +kernel)) (by decide +kernel)
theorem m_526 : (Jvm.Cond.static ({ cls := "SlitWidthsLaw", name := "moves", desc := "(LSlitWidths;II[J)I" } : Jvm.MethodName)) ∈ gw := gw_t (List.mem_of_getElem? (i := 526) (by decide +kernel)) (by decide +kernel)
theorem m_527 : (Jvm.Cond.codeWith ({ cls := "SlitWidthsLaw", name := "moves", desc := "(LSlitWidths;II[J)I" } : Jvm.MethodName) method_10_code (5 : Nat) (Option.some Jvm.ClassFile.FieldType.int) [((0 : Nat), (10 : Nat), (13 : Nat), (25 : Nat))]) ∈ gw := gw_t (List.mem_of_getElem? (i := 527) (by decide +kernel)) (by decide +kernel)
theorem m_528 : (Jvm.Cond.methodLink "SlitWidthsLaw" (44 : Nat) ({ cls := "SlitWidths", name := "moves", desc := "(II)I" } : Jvm.MethodName)) ∈ gw := gw_t (List.mem_of_getElem? (i := 528) (by decide +kernel)) (by decide +kernel)
theorem m_529 : (Jvm.Cond.instanceMethod ({ cls := "SlitWidths", name := "moves", desc := "(II)I" } : Jvm.MethodName)) ∈ gw := gw_t (List.mem_of_getElem? (i := 529) (by decide +kernel)) (by decide +kernel)
theorem m_530 : (Jvm.Cond.selects "SlitWidths" ({ cls := "SlitWidths", name := "moves", desc := "(II)I" } : Jvm.MethodName) ({ cls := "SlitWidths", name := "moves", desc := "(II)I" } : Jvm.MethodName)) ∈ gw := gw_t (List.mem_of_getElem? (i := 530) (by decide +kernel)) (by decide +kernel)
theorem m_531 : (Jvm.Cond.code ({ cls := "SlitWidths", name := "moves", desc := "(II)I" } : Jvm.MethodName) prog_1_method_10_code (3 : Nat) (Option.some Jvm.ClassFile.FieldType.int)) ∈ gw := gw_t (List.mem_of_getElem? (i := 531) (by decide +kernel)) (by decide +kernel)
theorem m_532 : (Jvm.Cond.methodLink "SlitWidths" (169 : Nat) ({ cls := "SlitWidths$SetUp", name := "placesNotIn", desc := "(LSlitWidths$SetUp;)I" } : Jvm.MethodName)) ∈ gw := gw_t (List.mem_of_getElem? (i := 532) (by decide +kernel)) (by decide +kernel)
theorem m_533 : (Jvm.Cond.methodLink "SlitWidthsLaw" (103 : Nat) ({ cls := "SlitWidthsLaw", name := "ordered", desc := "(LSlitWidths;I[J)I" } : Jvm.MethodName)) ∈ gw := gw_t (List.mem_of_getElem? (i := 533) (by decide +kernel)) (by decide +kernel)
theorem m_534 : (Jvm.Cond.static ({ cls := "SlitWidthsLaw", name := "ordered", desc := "(LSlitWidths;I[J)I" } : Jvm.MethodName)) ∈ gw := gw_t (List.mem_of_getElem? (i := 534) (by decide +kernel)) (by decide +kernel)
theorem m_535 : (Jvm.Cond.codeWith ({ cls := "SlitWidthsLaw", name := "ordered", desc := "(LSlitWidths;I[J)I" } : Jvm.MethodName) method_11_code (4 : Nat) (Option.some Jvm.ClassFile.FieldType.int) [((0 : Nat), (9 : Nat), (12 : Nat), (25 : Nat))]) ∈ gw := gw_t (List.mem_of_getElem? (i := 535) (by decide +kernel)) (by decide +kernel)
theorem m_536 : (Jvm.Cond.methodLink "SlitWidthsLaw" (47 : Nat) ({ cls := "SlitWidths", name := "ordered", desc := "(I)I" } : Jvm.MethodName)) ∈ gw := gw_t (List.mem_of_getElem? (i := 536) (by decide +kernel)) (by decide +kernel)
theorem m_537 : (Jvm.Cond.instanceMethod ({ cls := "SlitWidths", name := "ordered", desc := "(I)I" } : Jvm.MethodName)) ∈ gw := gw_t (List.mem_of_getElem? (i := 537) (by decide +kernel)) (by decide +kernel)
theorem m_538 : (Jvm.Cond.selects "SlitWidths" ({ cls := "SlitWidths", name := "ordered", desc := "(I)I" } : Jvm.MethodName) ({ cls := "SlitWidths", name := "ordered", desc := "(I)I" } : Jvm.MethodName)) ∈ gw := gw_t (List.mem_of_getElem? (i := 538) (by decide +kernel)) (by decide +kernel)
theorem m_539 : (Jvm.Cond.code ({ cls := "SlitWidths", name := "ordered", desc := "(I)I" } : Jvm.MethodName) prog_1_method_12_code (2 : Nat) (Option.some Jvm.ClassFile.FieldType.int)) ∈ gw := gw_t (List.mem_of_getElem? (i := 539) (by decide +kernel)) (by decide +kernel)
theorem m_541 : (Jvm.Cond.methodLink "SlitWidthsLaw" (106 : Nat) ({ cls := "SlitWidthsLaw", name := "defect", desc := "(LSlitWidths;II[J)I" } : Jvm.MethodName)) ∈ gw := gw_t (List.mem_of_getElem? (i := 541) (by decide +kernel)) (by decide +kernel)
theorem m_542 : (Jvm.Cond.static ({ cls := "SlitWidthsLaw", name := "defect", desc := "(LSlitWidths;II[J)I" } : Jvm.MethodName)) ∈ gw := gw_t (List.mem_of_getElem? (i := 542) (by decide +kernel)) (by decide +kernel)
theorem m_543 : (Jvm.Cond.codeWith ({ cls := "SlitWidthsLaw", name := "defect", desc := "(LSlitWidths;II[J)I" } : Jvm.MethodName) method_12_code (5 : Nat) (Option.some Jvm.ClassFile.FieldType.int) [((0 : Nat), (10 : Nat), (13 : Nat), (19 : Nat)), ((0 : Nat), (10 : Nat), (17 : Nat), (13 : Nat))]) ∈ gw := gw_t (List.mem_of_getElem? (i := 543) (by decide +kernel)) (by decide +kernel)
theorem m_544 : (Jvm.Cond.methodLink "SlitWidthsLaw" (50 : Nat) ({ cls := "SlitWidths", name := "defect", desc := "(II)I" } : Jvm.MethodName)) ∈ gw := gw_t (List.mem_of_getElem? (i := 544) (by decide +kernel)) (by decide +kernel)
theorem m_545 : (Jvm.Cond.instanceMethod ({ cls := "SlitWidths", name := "defect", desc := "(II)I" } : Jvm.MethodName)) ∈ gw := gw_t (List.mem_of_getElem? (i := 545) (by decide +kernel)) (by decide +kernel)
theorem m_546 : (Jvm.Cond.selects "SlitWidths" ({ cls := "SlitWidths", name := "defect", desc := "(II)I" } : Jvm.MethodName) ({ cls := "SlitWidths", name := "defect", desc := "(II)I" } : Jvm.MethodName)) ∈ gw := gw_t (List.mem_of_getElem? (i := 546) (by decide +kernel)) (by decide +kernel)
theorem m_547 : (Jvm.Cond.code ({ cls := "SlitWidths", name := "defect", desc := "(II)I" } : Jvm.MethodName) prog_1_method_13_code (3 : Nat) (Option.some Jvm.ClassFile.FieldType.int)) ∈ gw := gw_t (List.mem_of_getElem? (i := 547) (by decide +kernel)) (by decide +kernel)
theorem m_550 : (Jvm.Cond.methodLink "SlitWidthsLaw" (113 : Nat) ({ cls := "SlitWidthsLaw", name := "shift", desc := "(LSlitWidths;I[J)I" } : Jvm.MethodName)) ∈ gw := gw_t (List.mem_of_getElem? (i := 550) (by decide +kernel)) (by decide +kernel)
theorem m_551 : (Jvm.Cond.static ({ cls := "SlitWidthsLaw", name := "shift", desc := "(LSlitWidths;I[J)I" } : Jvm.MethodName)) ∈ gw := gw_t (List.mem_of_getElem? (i := 551) (by decide +kernel)) (by decide +kernel)
theorem m_552 : (Jvm.Cond.codeWith ({ cls := "SlitWidthsLaw", name := "shift", desc := "(LSlitWidths;I[J)I" } : Jvm.MethodName) method_13_code (4 : Nat) (Option.some Jvm.ClassFile.FieldType.int) [((0 : Nat), (9 : Nat), (12 : Nat), (25 : Nat)), ((0 : Nat), (9 : Nat), (15 : Nat), (35 : Nat))]) ∈ gw := gw_t (List.mem_of_getElem? (i := 552) (by decide +kernel)) (by decide +kernel)
theorem m_553 : (Jvm.Cond.methodLink "SlitWidthsLaw" (53 : Nat) ({ cls := "SlitWidths", name := "shift", desc := "(I)I" } : Jvm.MethodName)) ∈ gw := gw_t (List.mem_of_getElem? (i := 553) (by decide +kernel)) (by decide +kernel)
theorem m_554 : (Jvm.Cond.instanceMethod ({ cls := "SlitWidths", name := "shift", desc := "(I)I" } : Jvm.MethodName)) ∈ gw := gw_t (List.mem_of_getElem? (i := 554) (by decide +kernel)) (by decide +kernel)
theorem m_555 : (Jvm.Cond.selects "SlitWidths" ({ cls := "SlitWidths", name := "shift", desc := "(I)I" } : Jvm.MethodName) ({ cls := "SlitWidths", name := "shift", desc := "(I)I" } : Jvm.MethodName)) ∈ gw := gw_t (List.mem_of_getElem? (i := 555) (by decide +kernel)) (by decide +kernel)
theorem m_556 : (Jvm.Cond.code ({ cls := "SlitWidths", name := "shift", desc := "(I)I" } : Jvm.MethodName) prog_1_method_15_code (3 : Nat) (Option.some Jvm.ClassFile.FieldType.int)) ∈ gw := gw_t (List.mem_of_getElem? (i := 556) (by decide +kernel)) (by decide +kernel)
theorem m_557 : (Jvm.Cond.methodLink "SlitWidths" (193 : Nat) ({ cls := "SlitWidths$SetUp", name := "leastSoundLeft", desc := "(LSlitWidths$Defects;)I" } : Jvm.MethodName)) ∈ gw := gw_t (List.mem_of_getElem? (i := 557) (by decide +kernel)) (by decide +kernel)
theorem m_558 : (Jvm.Cond.instanceMethod ({ cls := "SlitWidths$SetUp", name := "leastSoundLeft", desc := "(LSlitWidths$Defects;)I" } : Jvm.MethodName)) ∈ gw := gw_t (List.mem_of_getElem? (i := 558) (by decide +kernel)) (by decide +kernel)
theorem m_559 : (Jvm.Cond.selects "SlitWidths$SetUp" ({ cls := "SlitWidths$SetUp", name := "leastSoundLeft", desc := "(LSlitWidths$Defects;)I" } : Jvm.MethodName) ({ cls := "SlitWidths$SetUp", name := "leastSoundLeft", desc := "(LSlitWidths$Defects;)I" } : Jvm.MethodName)) ∈ gw := gw_t (List.mem_of_getElem? (i := 559) (by decide +kernel)) (by decide +kernel)
theorem m_560 : (Jvm.Cond.code ({ cls := "SlitWidths$SetUp", name := "leastSoundLeft", desc := "(LSlitWidths$Defects;)I" } : Jvm.MethodName) prog_6_method_9_code (7 : Nat) (Option.some Jvm.ClassFile.FieldType.int)) ∈ gw := gw_t (List.mem_of_getElem? (i := 560) (by decide +kernel)) (by decide +kernel)
theorem m_561 : (Jvm.Cond.methodLink "SlitWidths$SetUp" (88 : Nat) ({ cls := "SlitWidths$SetUp", name := "leftPast", desc := "(LSlitWidths$Defects;I)I" } : Jvm.MethodName)) ∈ gw := gw_t (List.mem_of_getElem? (i := 561) (by decide +kernel)) (by decide +kernel)
theorem m_563 : (Jvm.Cond.instanceMethod ({ cls := "SlitWidths$SetUp", name := "leftPast", desc := "(LSlitWidths$Defects;I)I" } : Jvm.MethodName)) ∈ gw := gw_t (List.mem_of_getElem? (i := 563) (by decide +kernel)) (by decide +kernel)
theorem m_564 : (Jvm.Cond.code ({ cls := "SlitWidths$SetUp", name := "leftPast", desc := "(LSlitWidths$Defects;I)I" } : Jvm.MethodName) prog_6_method_10_code (6 : Nat) (Option.some Jvm.ClassFile.FieldType.int)) ∈ gw := gw_t (List.mem_of_getElem? (i := 564) (by decide +kernel)) (by decide +kernel)
theorem m_566 : (Jvm.Cond.classLink "SlitWidthsLaw" (57 : Nat) "SlitWidthsModel") ∈ gw := gw_t (List.mem_of_getElem? (i := 566) (by decide +kernel)) (by decide +kernel)
theorem m_567 : (Jvm.Cond.instantiable "SlitWidthsModel" (23 : Nat)) ∈ gw := gw_t (List.mem_of_getElem? (i := 567) (by decide +kernel)) (by decide +kernel)
theorem m_568 : (Jvm.Cond.methodLink "SlitWidthsLaw" (59 : Nat) ({ cls := "SlitWidthsModel", name := "<init>", desc := "()V" } : Jvm.MethodName)) ∈ gw := gw_t (List.mem_of_getElem? (i := 568) (by decide +kernel)) (by decide +kernel)
theorem m_569 : (Jvm.Cond.instanceMethod ({ cls := "SlitWidthsModel", name := "<init>", desc := "()V" } : Jvm.MethodName)) ∈ gw := gw_t (List.mem_of_getElem? (i := 569) (by decide +kernel)) (by decide +kernel)
theorem m_570 : (Jvm.Cond.code ({ cls := "SlitWidthsModel", name := "<init>", desc := "()V" } : Jvm.MethodName) prog_9_method_1_code (1 : Nat) (Option.none : Option Jvm.ClassFile.FieldType)) ∈ gw := gw_t (List.mem_of_getElem? (i := 570) (by decide +kernel)) (by decide +kernel)
theorem m_571 : (Jvm.Cond.methodLink "SlitWidthsModel" (1 : Nat) ({ cls := "java/lang/Object", name := "<init>", desc := "()V" } : Jvm.MethodName)) ∈ gw := gw_t (List.mem_of_getElem? (i := 571) (by decide +kernel)) (by decide +kernel)
theorem m_572 : (Jvm.Cond.fieldLink "SlitWidthsModel" (65 : Nat) "SlitWidthsModel" "thrown" "I") ∈ gw := gw_t (List.mem_of_getElem? (i := 572) (by decide +kernel)) (by decide +kernel)
theorem m_573 : (Jvm.Cond.fieldLink "SlitWidthsModel" (7 : Nat) "SlitWidthsModel" "width" "I") ∈ gw := gw_t (List.mem_of_getElem? (i := 573) (by decide +kernel)) (by decide +kernel)
theorem m_574 : (Jvm.Cond.fieldLink "SlitWidthsModel" (13 : Nat) "SlitWidthsModel" "kilos" "I") ∈ gw := gw_t (List.mem_of_getElem? (i := 574) (by decide +kernel)) (by decide +kernel)
theorem m_575 : (Jvm.Cond.fieldLink "SlitWidthsModel" (16 : Nat) "SlitWidthsModel" "trim" "I") ∈ gw := gw_t (List.mem_of_getElem? (i := 575) (by decide +kernel)) (by decide +kernel)
theorem m_576 : (Jvm.Cond.fieldLink "SlitWidthsModel" (77 : Nat) "SlitWidthsModel" "kerf" "I") ∈ gw := gw_t (List.mem_of_getElem? (i := 576) (by decide +kernel)) (by decide +kernel)
theorem m_577 : (Jvm.Cond.fieldLink "SlitWidthsModel" (19 : Nat) "SlitWidthsModel" "knives" "I") ∈ gw := gw_t (List.mem_of_getElem? (i := 577) (by decide +kernel)) (by decide +kernel)
theorem m_578 : (Jvm.Cond.fieldLink "SlitWidthsModel" (80 : Nat) "SlitWidthsModel" "wants" "I") ∈ gw := gw_t (List.mem_of_getElem? (i := 578) (by decide +kernel)) (by decide +kernel)
theorem m_579 : (Jvm.Cond.fieldLink "SlitWidthsModel" (22 : Nat) "SlitWidthsModel" "wantWidth" "[I") ∈ gw := gw_t (List.mem_of_getElem? (i := 579) (by decide +kernel)) (by decide +kernel)
theorem m_580 : (Jvm.Cond.fieldLink "SlitWidthsModel" (26 : Nat) "SlitWidthsModel" "wanted" "[I") ∈ gw := gw_t (List.mem_of_getElem? (i := 580) (by decide +kernel)) (by decide +kernel)
theorem m_581 : (Jvm.Cond.fieldLink "SlitWidthsModel" (29 : Nat) "SlitWidthsModel" "now" "[I") ∈ gw := gw_t (List.mem_of_getElem? (i := 581) (by decide +kernel)) (by decide +kernel)
theorem m_582 : (Jvm.Cond.fieldLink "SlitWidthsModel" (32 : Nat) "SlitWidthsModel" "best" "[I") ∈ gw := gw_t (List.mem_of_getElem? (i := 582) (by decide +kernel)) (by decide +kernel)
theorem m_583 : (Jvm.Cond.fieldLink "SlitWidthsModel" (97 : Nat) "SlitWidthsModel" "setups" "I") ∈ gw := gw_t (List.mem_of_getElem? (i := 583) (by decide +kernel)) (by decide +kernel)
theorem m_584 : (Jvm.Cond.fieldLink "SlitWidthsModel" (35 : Nat) "SlitWidthsModel" "setWidth" "[I") ∈ gw := gw_t (List.mem_of_getElem? (i := 584) (by decide +kernel)) (by decide +kernel)
theorem m_585 : (Jvm.Cond.fieldLink "SlitWidthsModel" (38 : Nat) "SlitWidthsModel" "setKilos" "[I") ∈ gw := gw_t (List.mem_of_getElem? (i := 585) (by decide +kernel)) (by decide +kernel)
theorem m_586 : (Jvm.Cond.fieldLink "SlitWidthsModel" (41 : Nat) "SlitWidthsModel" "setTrim" "[I") ∈ gw := gw_t (List.mem_of_getElem? (i := 586) (by decide +kernel)) (by decide +kernel)
theorem m_587 : (Jvm.Cond.fieldLink "SlitWidthsModel" (44 : Nat) "SlitWidthsModel" "setKerf" "[I") ∈ gw := gw_t (List.mem_of_getElem? (i := 587) (by decide +kernel)) (by decide +kernel)
theorem m_588 : (Jvm.Cond.fieldLink "SlitWidthsModel" (47 : Nat) "SlitWidthsModel" "setLeft" "[I") ∈ gw := gw_t (List.mem_of_getElem? (i := 588) (by decide +kernel)) (by decide +kernel)
theorem m_589 : (Jvm.Cond.fieldLink "SlitWidthsModel" (50 : Nat) "SlitWidthsModel" "setStrips" "[I") ∈ gw := gw_t (List.mem_of_getElem? (i := 589) (by decide +kernel)) (by decide +kernel)
theorem m_590 : (Jvm.Cond.fieldLink "SlitWidthsModel" (131 : Nat) "SlitWidthsModel" "defects" "I") ∈ gw := gw_t (List.mem_of_getElem? (i := 590) (by decide +kernel)) (by decide +kernel)
theorem m_591 : (Jvm.Cond.fieldLink "SlitWidthsModel" (53 : Nat) "SlitWidthsModel" "defectFrom" "[I") ∈ gw := gw_t (List.mem_of_getElem? (i := 591) (by decide +kernel)) (by decide +kernel)
theorem m_592 : (Jvm.Cond.fieldLink "SlitWidthsModel" (56 : Nat) "SlitWidthsModel" "defectTo" "[I") ∈ gw := gw_t (List.mem_of_getElem? (i := 592) (by decide +kernel)) (by decide +kernel)
theorem m_593 : (Jvm.Cond.fieldLink "SlitWidthsModel" (59 : Nat) "SlitWidthsModel" "rest" "[I") ∈ gw := gw_t (List.mem_of_getElem? (i := 593) (by decide +kernel)) (by decide +kernel)
theorem m_594 : (Jvm.Cond.fieldLink "SlitWidthsModel" (62 : Nat) "SlitWidthsModel" "moved" "[I") ∈ gw := gw_t (List.mem_of_getElem? (i := 594) (by decide +kernel)) (by decide +kernel)
theorem m_595 : (Jvm.Cond.lays "SlitWidthsModel" "SlitWidthsModel" "thrown" "I") ∈ gw := gw_t (List.mem_of_getElem? (i := 595) (by decide +kernel)) (by decide +kernel)
theorem m_597 : (Jvm.Cond.lays "SlitWidthsModel" "SlitWidthsModel" "width" "I") ∈ gw := gw_t (List.mem_of_getElem? (i := 597) (by decide +kernel)) (by decide +kernel)
theorem m_599 : (Jvm.Cond.lays "SlitWidthsModel" "SlitWidthsModel" "kilos" "I") ∈ gw := gw_t (List.mem_of_getElem? (i := 599) (by decide +kernel)) (by decide +kernel)
theorem m_601 : (Jvm.Cond.lays "SlitWidthsModel" "SlitWidthsModel" "trim" "I") ∈ gw := gw_t (List.mem_of_getElem? (i := 601) (by decide +kernel)) (by decide +kernel)
theorem m_603 : (Jvm.Cond.lays "SlitWidthsModel" "SlitWidthsModel" "kerf" "I") ∈ gw := gw_t (List.mem_of_getElem? (i := 603) (by decide +kernel)) (by decide +kernel)
theorem m_605 : (Jvm.Cond.lays "SlitWidthsModel" "SlitWidthsModel" "knives" "I") ∈ gw := gw_t (List.mem_of_getElem? (i := 605) (by decide +kernel)) (by decide +kernel)
theorem m_607 : (Jvm.Cond.lays "SlitWidthsModel" "SlitWidthsModel" "wants" "I") ∈ gw := gw_t (List.mem_of_getElem? (i := 607) (by decide +kernel)) (by decide +kernel)
theorem m_609 : (Jvm.Cond.laysFinal "SlitWidthsModel" "SlitWidthsModel" "wantWidth" "[I") ∈ gw := gw_t (List.mem_of_getElem? (i := 609) (by decide +kernel)) (by decide +kernel)
theorem m_611 : (Jvm.Cond.laysFinal "SlitWidthsModel" "SlitWidthsModel" "wanted" "[I") ∈ gw := gw_t (List.mem_of_getElem? (i := 611) (by decide +kernel)) (by decide +kernel)
theorem m_613 : (Jvm.Cond.laysFinal "SlitWidthsModel" "SlitWidthsModel" "now" "[I") ∈ gw := gw_t (List.mem_of_getElem? (i := 613) (by decide +kernel)) (by decide +kernel)
theorem m_615 : (Jvm.Cond.laysFinal "SlitWidthsModel" "SlitWidthsModel" "best" "[I") ∈ gw := gw_t (List.mem_of_getElem? (i := 615) (by decide +kernel)) (by decide +kernel)
theorem m_617 : (Jvm.Cond.lays "SlitWidthsModel" "SlitWidthsModel" "setups" "I") ∈ gw := gw_t (List.mem_of_getElem? (i := 617) (by decide +kernel)) (by decide +kernel)
theorem m_619 : (Jvm.Cond.laysFinal "SlitWidthsModel" "SlitWidthsModel" "setWidth" "[I") ∈ gw := gw_t (List.mem_of_getElem? (i := 619) (by decide +kernel)) (by decide +kernel)
theorem m_621 : (Jvm.Cond.laysFinal "SlitWidthsModel" "SlitWidthsModel" "setKilos" "[I") ∈ gw := gw_t (List.mem_of_getElem? (i := 621) (by decide +kernel)) (by decide +kernel)
theorem m_623 : (Jvm.Cond.laysFinal "SlitWidthsModel" "SlitWidthsModel" "setTrim" "[I") ∈ gw := gw_t (List.mem_of_getElem? (i := 623) (by decide +kernel)) (by decide +kernel)
theorem m_625 : (Jvm.Cond.laysFinal "SlitWidthsModel" "SlitWidthsModel" "setKerf" "[I") ∈ gw := gw_t (List.mem_of_getElem? (i := 625) (by decide +kernel)) (by decide +kernel)
theorem m_627 : (Jvm.Cond.laysFinal "SlitWidthsModel" "SlitWidthsModel" "setLeft" "[I") ∈ gw := gw_t (List.mem_of_getElem? (i := 627) (by decide +kernel)) (by decide +kernel)
theorem m_629 : (Jvm.Cond.laysFinal "SlitWidthsModel" "SlitWidthsModel" "setStrips" "[I") ∈ gw := gw_t (List.mem_of_getElem? (i := 629) (by decide +kernel)) (by decide +kernel)
theorem m_631 : (Jvm.Cond.lays "SlitWidthsModel" "SlitWidthsModel" "defects" "I") ∈ gw := gw_t (List.mem_of_getElem? (i := 631) (by decide +kernel)) (by decide +kernel)
theorem m_633 : (Jvm.Cond.laysFinal "SlitWidthsModel" "SlitWidthsModel" "defectFrom" "[I") ∈ gw := gw_t (List.mem_of_getElem? (i := 633) (by decide +kernel)) (by decide +kernel)
theorem m_635 : (Jvm.Cond.laysFinal "SlitWidthsModel" "SlitWidthsModel" "defectTo" "[I") ∈ gw := gw_t (List.mem_of_getElem? (i := 635) (by decide +kernel)) (by decide +kernel)
theorem m_637 : (Jvm.Cond.laysFinal "SlitWidthsModel" "SlitWidthsModel" "rest" "[I") ∈ gw := gw_t (List.mem_of_getElem? (i := 637) (by decide +kernel)) (by decide +kernel)
theorem m_639 : (Jvm.Cond.laysFinal "SlitWidthsModel" "SlitWidthsModel" "moved" "[I") ∈ gw := gw_t (List.mem_of_getElem? (i := 639) (by decide +kernel)) (by decide +kernel)
theorem m_642 : (Jvm.Cond.methodLink "SlitWidthsLaw" (66 : Nat) ({ cls := "SlitWidthsModel", name := "thrown", desc := "()I" } : Jvm.MethodName)) ∈ gw := gw_t (List.mem_of_getElem? (i := 642) (by decide +kernel)) (by decide +kernel)
theorem m_643 : (Jvm.Cond.instanceMethod ({ cls := "SlitWidthsModel", name := "thrown", desc := "()I" } : Jvm.MethodName)) ∈ gw := gw_t (List.mem_of_getElem? (i := 643) (by decide +kernel)) (by decide +kernel)
theorem m_644 : (Jvm.Cond.selects "SlitWidthsModel" ({ cls := "SlitWidthsModel", name := "thrown", desc := "()I" } : Jvm.MethodName) ({ cls := "SlitWidthsModel", name := "thrown", desc := "()I" } : Jvm.MethodName)) ∈ gw := gw_t (List.mem_of_getElem? (i := 644) (by decide +kernel)) (by decide +kernel)
theorem m_645 : (Jvm.Cond.code ({ cls := "SlitWidthsModel", name := "thrown", desc := "()I" } : Jvm.MethodName) prog_9_method_2_code (1 : Nat) (Option.some Jvm.ClassFile.FieldType.int)) ∈ gw := gw_t (List.mem_of_getElem? (i := 645) (by decide +kernel)) (by decide +kernel)
theorem m_646 : (Jvm.Cond.methodLink "SlitWidthsLaw" (65 : Nat) ({ cls := "SlitWidthsModel", name := "coil", desc := "(IIIII)V" } : Jvm.MethodName)) ∈ gw := gw_t (List.mem_of_getElem? (i := 646) (by decide +kernel)) (by decide +kernel)
theorem m_647 : (Jvm.Cond.instanceMethod ({ cls := "SlitWidthsModel", name := "coil", desc := "(IIIII)V" } : Jvm.MethodName)) ∈ gw := gw_t (List.mem_of_getElem? (i := 647) (by decide +kernel)) (by decide +kernel)
theorem m_648 : (Jvm.Cond.selects "SlitWidthsModel" ({ cls := "SlitWidthsModel", name := "coil", desc := "(IIIII)V" } : Jvm.MethodName) ({ cls := "SlitWidthsModel", name := "coil", desc := "(IIIII)V" } : Jvm.MethodName)) ∈ gw := gw_t (List.mem_of_getElem? (i := 648) (by decide +kernel)) (by decide +kernel)
theorem m_649 : (Jvm.Cond.code ({ cls := "SlitWidthsModel", name := "coil", desc := "(IIIII)V" } : Jvm.MethodName) prog_9_method_5_code (7 : Nat) (Option.none : Option Jvm.ClassFile.FieldType)) ∈ gw := gw_t (List.mem_of_getElem? (i := 649) (by decide +kernel)) (by decide +kernel)
theorem m_650 : (Jvm.Cond.methodLink "SlitWidthsModel" (68 : Nat) ({ cls := "SlitWidthsModel", name := "in", desc := "(III)Z" } : Jvm.MethodName)) ∈ gw := gw_t (List.mem_of_getElem? (i := 650) (by decide +kernel)) (by decide +kernel)
theorem m_651 : (Jvm.Cond.static ({ cls := "SlitWidthsModel", name := "in", desc := "(III)Z" } : Jvm.MethodName)) ∈ gw := gw_t (List.mem_of_getElem? (i := 651) (by decide +kernel)) (by decide +kernel)
theorem m_652 : (Jvm.Cond.code ({ cls := "SlitWidthsModel", name := "in", desc := "(III)Z" } : Jvm.MethodName) prog_9_method_4_code (3 : Nat) (Option.some Jvm.ClassFile.FieldType.boolean)) ∈ gw := gw_t (List.mem_of_getElem? (i := 652) (by decide +kernel)) (by decide +kernel)
theorem m_653 : (Jvm.Cond.constant "SlitWidthsModel" (72 : Nat) (50000 : Int32)) ∈ gw := gw_t (List.mem_of_getElem? (i := 653) (by decide +kernel)) (by decide +kernel)
theorem m_654 : (Jvm.Cond.methodLink "SlitWidthsModel" (73 : Nat) ({ cls := "SlitWidthsModel", name := "throwing", desc := "(ZZ)Z" } : Jvm.MethodName)) ∈ gw := gw_t (List.mem_of_getElem? (i := 654) (by decide +kernel)) (by decide +kernel)
theorem m_656 : (Jvm.Cond.instanceMethod ({ cls := "SlitWidthsModel", name := "throwing", desc := "(ZZ)Z" } : Jvm.MethodName)) ∈ gw := gw_t (List.mem_of_getElem? (i := 656) (by decide +kernel)) (by decide +kernel)
theorem m_657 : (Jvm.Cond.code ({ cls := "SlitWidthsModel", name := "throwing", desc := "(ZZ)Z" } : Jvm.MethodName) prog_9_method_3_code (3 : Nat) (Option.some Jvm.ClassFile.FieldType.boolean)) ∈ gw := gw_t (List.mem_of_getElem? (i := 657) (by decide +kernel)) (by decide +kernel)
theorem m_658 : (Jvm.Cond.methodLink "SlitWidthsLaw" (72 : Nat) ({ cls := "SlitWidthsModel", name := "want", desc := "(II)I" } : Jvm.MethodName)) ∈ gw := gw_t (List.mem_of_getElem? (i := 658) (by decide +kernel)) (by decide +kernel)
theorem m_659 : (Jvm.Cond.instanceMethod ({ cls := "SlitWidthsModel", name := "want", desc := "(II)I" } : Jvm.MethodName)) ∈ gw := gw_t (List.mem_of_getElem? (i := 659) (by decide +kernel)) (by decide +kernel)
theorem m_660 : (Jvm.Cond.selects "SlitWidthsModel" ({ cls := "SlitWidthsModel", name := "want", desc := "(II)I" } : Jvm.MethodName) ({ cls := "SlitWidthsModel", name := "want", desc := "(II)I" } : Jvm.MethodName)) ∈ gw := gw_t (List.mem_of_getElem? (i := 660) (by decide +kernel)) (by decide +kernel)
theorem m_661 : (Jvm.Cond.code ({ cls := "SlitWidthsModel", name := "want", desc := "(II)I" } : Jvm.MethodName) prog_9_method_6_code (3 : Nat) (Option.some Jvm.ClassFile.FieldType.int)) ∈ gw := gw_t (List.mem_of_getElem? (i := 661) (by decide +kernel)) (by decide +kernel)
theorem m_662 : (Jvm.Cond.methodLink "SlitWidthsLaw" (76 : Nat) ({ cls := "SlitWidthsModel", name := "strips", desc := "(II)V" } : Jvm.MethodName)) ∈ gw := gw_t (List.mem_of_getElem? (i := 662) (by decide +kernel)) (by decide +kernel)
theorem m_663 : (Jvm.Cond.instanceMethod ({ cls := "SlitWidthsModel", name := "strips", desc := "(II)V" } : Jvm.MethodName)) ∈ gw := gw_t (List.mem_of_getElem? (i := 663) (by decide +kernel)) (by decide +kernel)
theorem m_664 : (Jvm.Cond.selects "SlitWidthsModel" ({ cls := "SlitWidthsModel", name := "strips", desc := "(II)V" } : Jvm.MethodName) ({ cls := "SlitWidthsModel", name := "strips", desc := "(II)V" } : Jvm.MethodName)) ∈ gw := gw_t (List.mem_of_getElem? (i := 664) (by decide +kernel)) (by decide +kernel)
theorem m_665 : (Jvm.Cond.code ({ cls := "SlitWidthsModel", name := "strips", desc := "(II)V" } : Jvm.MethodName) prog_9_method_7_code (3 : Nat) (Option.none : Option Jvm.ClassFile.FieldType)) ∈ gw := gw_t (List.mem_of_getElem? (i := 665) (by decide +kernel)) (by decide +kernel)
theorem m_666 : (Jvm.Cond.methodLink "SlitWidthsLaw" (80 : Nat) ({ cls := "SlitWidthsModel", name := "fill", desc := "()I" } : Jvm.MethodName)) ∈ gw := gw_t (List.mem_of_getElem? (i := 666) (by decide +kernel)) (by decide +kernel)
theorem m_667 : (Jvm.Cond.instanceMethod ({ cls := "SlitWidthsModel", name := "fill", desc := "()I" } : Jvm.MethodName)) ∈ gw := gw_t (List.mem_of_getElem? (i := 667) (by decide +kernel)) (by decide +kernel)
theorem m_668 : (Jvm.Cond.selects "SlitWidthsModel" ({ cls := "SlitWidthsModel", name := "fill", desc := "()I" } : Jvm.MethodName) ({ cls := "SlitWidthsModel", name := "fill", desc := "()I" } : Jvm.MethodName)) ∈ gw := gw_t (List.mem_of_getElem? (i := 668) (by decide +kernel)) (by decide +kernel)
theorem m_669 : (Jvm.Cond.code ({ cls := "SlitWidthsModel", name := "fill", desc := "()I" } : Jvm.MethodName) prog_9_method_12_code (1 : Nat) (Option.some Jvm.ClassFile.FieldType.int)) ∈ gw := gw_t (List.mem_of_getElem? (i := 669) (by decide +kernel)) (by decide +kernel)
theorem m_670 : (Jvm.Cond.methodLink "SlitWidthsModel" (94 : Nat) ({ cls := "SlitWidthsModel", name := "findBest", desc := "()I" } : Jvm.MethodName)) ∈ gw := gw_t (List.mem_of_getElem? (i := 670) (by decide +kernel)) (by decide +kernel)
theorem m_672 : (Jvm.Cond.instanceMethod ({ cls := "SlitWidthsModel", name := "findBest", desc := "()I" } : Jvm.MethodName)) ∈ gw := gw_t (List.mem_of_getElem? (i := 672) (by decide +kernel)) (by decide +kernel)
theorem m_673 : (Jvm.Cond.code ({ cls := "SlitWidthsModel", name := "findBest", desc := "()I" } : Jvm.MethodName) prog_9_method_11_code (8 : Nat) (Option.some Jvm.ClassFile.FieldType.int)) ∈ gw := gw_t (List.mem_of_getElem? (i := 673) (by decide +kernel)) (by decide +kernel)
theorem m_674 : (Jvm.Cond.methodLink "SlitWidthsModel" (83 : Nat) ({ cls := "SlitWidthsModel", name := "stripsNow", desc := "()I" } : Jvm.MethodName)) ∈ gw := gw_t (List.mem_of_getElem? (i := 674) (by decide +kernel)) (by decide +kernel)
theorem m_676 : (Jvm.Cond.instanceMethod ({ cls := "SlitWidthsModel", name := "stripsNow", desc := "()I" } : Jvm.MethodName)) ∈ gw := gw_t (List.mem_of_getElem? (i := 676) (by decide +kernel)) (by decide +kernel)
theorem m_677 : (Jvm.Cond.code ({ cls := "SlitWidthsModel", name := "stripsNow", desc := "()I" } : Jvm.MethodName) prog_9_method_8_code (3 : Nat) (Option.some Jvm.ClassFile.FieldType.int)) ∈ gw := gw_t (List.mem_of_getElem? (i := 677) (by decide +kernel)) (by decide +kernel)
theorem m_678 : (Jvm.Cond.methodLink "SlitWidthsModel" (87 : Nat) ({ cls := "SlitWidthsModel", name := "fillNow", desc := "()I" } : Jvm.MethodName)) ∈ gw := gw_t (List.mem_of_getElem? (i := 678) (by decide +kernel)) (by decide +kernel)
theorem m_680 : (Jvm.Cond.instanceMethod ({ cls := "SlitWidthsModel", name := "fillNow", desc := "()I" } : Jvm.MethodName)) ∈ gw := gw_t (List.mem_of_getElem? (i := 680) (by decide +kernel)) (by decide +kernel)
theorem m_681 : (Jvm.Cond.code ({ cls := "SlitWidthsModel", name := "fillNow", desc := "()I" } : Jvm.MethodName) prog_9_method_9_code (3 : Nat) (Option.some Jvm.ClassFile.FieldType.int)) ∈ gw := gw_t (List.mem_of_getElem? (i := 681) (by decide +kernel)) (by decide +kernel)
theorem m_682 : (Jvm.Cond.methodLink "SlitWidthsModel" (90 : Nat) ({ cls := "SlitWidthsModel", name := "goesDown", desc := "()Z" } : Jvm.MethodName)) ∈ gw := gw_t (List.mem_of_getElem? (i := 682) (by decide +kernel)) (by decide +kernel)
theorem m_684 : (Jvm.Cond.instanceMethod ({ cls := "SlitWidthsModel", name := "goesDown", desc := "()Z" } : Jvm.MethodName)) ∈ gw := gw_t (List.mem_of_getElem? (i := 684) (by decide +kernel)) (by decide +kernel)
theorem m_685 : (Jvm.Cond.code ({ cls := "SlitWidthsModel", name := "goesDown", desc := "()Z" } : Jvm.MethodName) prog_9_method_10_code (2 : Nat) (Option.some Jvm.ClassFile.FieldType.boolean)) ∈ gw := gw_t (List.mem_of_getElem? (i := 685) (by decide +kernel)) (by decide +kernel)
theorem m_686 : (Jvm.Cond.methodLink "SlitWidthsLaw" (84 : Nat) ({ cls := "SlitWidthsModel", name := "best", desc := "(I)I" } : Jvm.MethodName)) ∈ gw := gw_t (List.mem_of_getElem? (i := 686) (by decide +kernel)) (by decide +kernel)
theorem m_687 : (Jvm.Cond.instanceMethod ({ cls := "SlitWidthsModel", name := "best", desc := "(I)I" } : Jvm.MethodName)) ∈ gw := gw_t (List.mem_of_getElem? (i := 687) (by decide +kernel)) (by decide +kernel)
theorem m_688 : (Jvm.Cond.selects "SlitWidthsModel" ({ cls := "SlitWidthsModel", name := "best", desc := "(I)I" } : Jvm.MethodName) ({ cls := "SlitWidthsModel", name := "best", desc := "(I)I" } : Jvm.MethodName)) ∈ gw := gw_t (List.mem_of_getElem? (i := 688) (by decide +kernel)) (by decide +kernel)
theorem m_689 : (Jvm.Cond.code ({ cls := "SlitWidthsModel", name := "best", desc := "(I)I" } : Jvm.MethodName) prog_9_method_13_code (2 : Nat) (Option.some Jvm.ClassFile.FieldType.int)) ∈ gw := gw_t (List.mem_of_getElem? (i := 689) (by decide +kernel)) (by decide +kernel)
theorem m_690 : (Jvm.Cond.methodLink "SlitWidthsLaw" (88 : Nat) ({ cls := "SlitWidthsModel", name := "cut", desc := "()I" } : Jvm.MethodName)) ∈ gw := gw_t (List.mem_of_getElem? (i := 690) (by decide +kernel)) (by decide +kernel)
theorem m_691 : (Jvm.Cond.instanceMethod ({ cls := "SlitWidthsModel", name := "cut", desc := "()I" } : Jvm.MethodName)) ∈ gw := gw_t (List.mem_of_getElem? (i := 691) (by decide +kernel)) (by decide +kernel)
theorem m_692 : (Jvm.Cond.selects "SlitWidthsModel" ({ cls := "SlitWidthsModel", name := "cut", desc := "()I" } : Jvm.MethodName) ({ cls := "SlitWidthsModel", name := "cut", desc := "()I" } : Jvm.MethodName)) ∈ gw := gw_t (List.mem_of_getElem? (i := 692) (by decide +kernel)) (by decide +kernel)
theorem m_693 : (Jvm.Cond.code ({ cls := "SlitWidthsModel", name := "cut", desc := "()I" } : Jvm.MethodName) prog_9_method_14_code (3 : Nat) (Option.some Jvm.ClassFile.FieldType.int)) ∈ gw := gw_t (List.mem_of_getElem? (i := 693) (by decide +kernel)) (by decide +kernel)
theorem m_694 : (Jvm.Cond.methodLink "SlitWidthsLaw" (92 : Nat) ({ cls := "SlitWidthsModel", name := "strip", desc := "(III)I" } : Jvm.MethodName)) ∈ gw := gw_t (List.mem_of_getElem? (i := 694) (by decide +kernel)) (by decide +kernel)
theorem m_695 : (Jvm.Cond.instanceMethod ({ cls := "SlitWidthsModel", name := "strip", desc := "(III)I" } : Jvm.MethodName)) ∈ gw := gw_t (List.mem_of_getElem? (i := 695) (by decide +kernel)) (by decide +kernel)
theorem m_696 : (Jvm.Cond.selects "SlitWidthsModel" ({ cls := "SlitWidthsModel", name := "strip", desc := "(III)I" } : Jvm.MethodName) ({ cls := "SlitWidthsModel", name := "strip", desc := "(III)I" } : Jvm.MethodName)) ∈ gw := gw_t (List.mem_of_getElem? (i := 696) (by decide +kernel)) (by decide +kernel)
theorem m_697 : (Jvm.Cond.code ({ cls := "SlitWidthsModel", name := "strip", desc := "(III)I" } : Jvm.MethodName) prog_9_method_21_code (4 : Nat) (Option.some Jvm.ClassFile.FieldType.int)) ∈ gw := gw_t (List.mem_of_getElem? (i := 697) (by decide +kernel)) (by decide +kernel)
theorem m_698 : (Jvm.Cond.methodLink "SlitWidthsModel" (110 : Nat) ({ cls := "SlitWidthsModel", name := "isSetup", desc := "(I)Z" } : Jvm.MethodName)) ∈ gw := gw_t (List.mem_of_getElem? (i := 698) (by decide +kernel)) (by decide +kernel)
theorem m_700 : (Jvm.Cond.instanceMethod ({ cls := "SlitWidthsModel", name := "isSetup", desc := "(I)Z" } : Jvm.MethodName)) ∈ gw := gw_t (List.mem_of_getElem? (i := 700) (by decide +kernel)) (by decide +kernel)
theorem m_701 : (Jvm.Cond.code ({ cls := "SlitWidthsModel", name := "isSetup", desc := "(I)Z" } : Jvm.MethodName) prog_9_method_15_code (2 : Nat) (Option.some Jvm.ClassFile.FieldType.boolean)) ∈ gw := gw_t (List.mem_of_getElem? (i := 701) (by decide +kernel)) (by decide +kernel)
theorem m_702 : (Jvm.Cond.methodLink "SlitWidthsModel" (114 : Nat) ({ cls := "SlitWidthsModel", name := "many", desc := "(I)I" } : Jvm.MethodName)) ∈ gw := gw_t (List.mem_of_getElem? (i := 702) (by decide +kernel)) (by decide +kernel)
theorem m_704 : (Jvm.Cond.instanceMethod ({ cls := "SlitWidthsModel", name := "many", desc := "(I)I" } : Jvm.MethodName)) ∈ gw := gw_t (List.mem_of_getElem? (i := 704) (by decide +kernel)) (by decide +kernel)
theorem m_705 : (Jvm.Cond.code ({ cls := "SlitWidthsModel", name := "many", desc := "(I)I" } : Jvm.MethodName) prog_9_method_16_code (4 : Nat) (Option.some Jvm.ClassFile.FieldType.int)) ∈ gw := gw_t (List.mem_of_getElem? (i := 705) (by decide +kernel)) (by decide +kernel)
theorem m_706 : (Jvm.Cond.methodLink "SlitWidthsModel" (100 : Nat) ({ cls := "SlitWidthsModel", name := "wantOf", desc := "(II)I" } : Jvm.MethodName)) ∈ gw := gw_t (List.mem_of_getElem? (i := 706) (by decide +kernel)) (by decide +kernel)
theorem m_708 : (Jvm.Cond.instanceMethod ({ cls := "SlitWidthsModel", name := "wantOf", desc := "(II)I" } : Jvm.MethodName)) ∈ gw := gw_t (List.mem_of_getElem? (i := 708) (by decide +kernel)) (by decide +kernel)
theorem m_709 : (Jvm.Cond.code ({ cls := "SlitWidthsModel", name := "wantOf", desc := "(II)I" } : Jvm.MethodName) prog_9_method_17_code (5 : Nat) (Option.some Jvm.ClassFile.FieldType.int)) ∈ gw := gw_t (List.mem_of_getElem? (i := 709) (by decide +kernel)) (by decide +kernel)
theorem m_710 : (Jvm.Cond.methodLink "SlitWidthsModel" (104 : Nat) ({ cls := "SlitWidthsModel", name := "beginOf", desc := "(II)I" } : Jvm.MethodName)) ∈ gw := gw_t (List.mem_of_getElem? (i := 710) (by decide +kernel)) (by decide +kernel)
theorem m_712 : (Jvm.Cond.instanceMethod ({ cls := "SlitWidthsModel", name := "beginOf", desc := "(II)I" } : Jvm.MethodName)) ∈ gw := gw_t (List.mem_of_getElem? (i := 712) (by decide +kernel)) (by decide +kernel)
theorem m_713 : (Jvm.Cond.code ({ cls := "SlitWidthsModel", name := "beginOf", desc := "(II)I" } : Jvm.MethodName) prog_9_method_18_code (5 : Nat) (Option.some Jvm.ClassFile.FieldType.int)) ∈ gw := gw_t (List.mem_of_getElem? (i := 713) (by decide +kernel)) (by decide +kernel)
theorem m_714 : (Jvm.Cond.methodLink "SlitWidthsModel" (107 : Nat) ({ cls := "SlitWidthsModel", name := "endOf", desc := "(II)I" } : Jvm.MethodName)) ∈ gw := gw_t (List.mem_of_getElem? (i := 714) (by decide +kernel)) (by decide +kernel)
theorem m_716 : (Jvm.Cond.instanceMethod ({ cls := "SlitWidthsModel", name := "endOf", desc := "(II)I" } : Jvm.MethodName)) ∈ gw := gw_t (List.mem_of_getElem? (i := 716) (by decide +kernel)) (by decide +kernel)
theorem m_717 : (Jvm.Cond.code ({ cls := "SlitWidthsModel", name := "endOf", desc := "(II)I" } : Jvm.MethodName) prog_9_method_19_code (3 : Nat) (Option.some Jvm.ClassFile.FieldType.int)) ∈ gw := gw_t (List.mem_of_getElem? (i := 717) (by decide +kernel)) (by decide +kernel)
theorem m_718 : (Jvm.Cond.methodLink "SlitWidthsModel" (118 : Nat) ({ cls := "SlitWidthsModel", name := "weightOf", desc := "(II)I" } : Jvm.MethodName)) ∈ gw := gw_t (List.mem_of_getElem? (i := 718) (by decide +kernel)) (by decide +kernel)
theorem m_720 : (Jvm.Cond.instanceMethod ({ cls := "SlitWidthsModel", name := "weightOf", desc := "(II)I" } : Jvm.MethodName)) ∈ gw := gw_t (List.mem_of_getElem? (i := 720) (by decide +kernel)) (by decide +kernel)
theorem m_721 : (Jvm.Cond.code ({ cls := "SlitWidthsModel", name := "weightOf", desc := "(II)I" } : Jvm.MethodName) prog_9_method_20_code (7 : Nat) (Option.some Jvm.ClassFile.FieldType.int)) ∈ gw := gw_t (List.mem_of_getElem? (i := 721) (by decide +kernel)) (by decide +kernel)
theorem m_722 : (Jvm.Cond.methodLink "SlitWidthsLaw" (95 : Nat) ({ cls := "SlitWidthsModel", name := "scrap", desc := "(I)I" } : Jvm.MethodName)) ∈ gw := gw_t (List.mem_of_getElem? (i := 722) (by decide +kernel)) (by decide +kernel)
theorem m_723 : (Jvm.Cond.instanceMethod ({ cls := "SlitWidthsModel", name := "scrap", desc := "(I)I" } : Jvm.MethodName)) ∈ gw := gw_t (List.mem_of_getElem? (i := 723) (by decide +kernel)) (by decide +kernel)
theorem m_724 : (Jvm.Cond.selects "SlitWidthsModel" ({ cls := "SlitWidthsModel", name := "scrap", desc := "(I)I" } : Jvm.MethodName) ({ cls := "SlitWidthsModel", name := "scrap", desc := "(I)I" } : Jvm.MethodName)) ∈ gw := gw_t (List.mem_of_getElem? (i := 724) (by decide +kernel)) (by decide +kernel)
theorem m_725 : (Jvm.Cond.code ({ cls := "SlitWidthsModel", name := "scrap", desc := "(I)I" } : Jvm.MethodName) prog_9_method_22_code (4 : Nat) (Option.some Jvm.ClassFile.FieldType.int)) ∈ gw := gw_t (List.mem_of_getElem? (i := 725) (by decide +kernel)) (by decide +kernel)
theorem m_726 : (Jvm.Cond.methodLink "SlitWidthsLaw" (98 : Nat) ({ cls := "SlitWidthsModel", name := "moves", desc := "(II)I" } : Jvm.MethodName)) ∈ gw := gw_t (List.mem_of_getElem? (i := 726) (by decide +kernel)) (by decide +kernel)
theorem m_727 : (Jvm.Cond.instanceMethod ({ cls := "SlitWidthsModel", name := "moves", desc := "(II)I" } : Jvm.MethodName)) ∈ gw := gw_t (List.mem_of_getElem? (i := 727) (by decide +kernel)) (by decide +kernel)
theorem m_728 : (Jvm.Cond.selects "SlitWidthsModel" ({ cls := "SlitWidthsModel", name := "moves", desc := "(II)I" } : Jvm.MethodName) ({ cls := "SlitWidthsModel", name := "moves", desc := "(II)I" } : Jvm.MethodName)) ∈ gw := gw_t (List.mem_of_getElem? (i := 728) (by decide +kernel)) (by decide +kernel)
theorem m_729 : (Jvm.Cond.code ({ cls := "SlitWidthsModel", name := "moves", desc := "(II)I" } : Jvm.MethodName) prog_9_method_25_code (3 : Nat) (Option.some Jvm.ClassFile.FieldType.int)) ∈ gw := gw_t (List.mem_of_getElem? (i := 729) (by decide +kernel)) (by decide +kernel)
theorem m_730 : (Jvm.Cond.methodLink "SlitWidthsModel" (125 : Nat) ({ cls := "SlitWidthsModel", name := "movesFrom", desc := "(II)I" } : Jvm.MethodName)) ∈ gw := gw_t (List.mem_of_getElem? (i := 730) (by decide +kernel)) (by decide +kernel)
theorem m_732 : (Jvm.Cond.instanceMethod ({ cls := "SlitWidthsModel", name := "movesFrom", desc := "(II)I" } : Jvm.MethodName)) ∈ gw := gw_t (List.mem_of_getElem? (i := 732) (by decide +kernel)) (by decide +kernel)
theorem m_733 : (Jvm.Cond.code ({ cls := "SlitWidthsModel", name := "movesFrom", desc := "(II)I" } : Jvm.MethodName) prog_9_method_24_code (6 : Nat) (Option.some Jvm.ClassFile.FieldType.int)) ∈ gw := gw_t (List.mem_of_getElem? (i := 733) (by decide +kernel)) (by decide +kernel)
theorem m_734 : (Jvm.Cond.methodLink "SlitWidthsModel" (121 : Nat) ({ cls := "SlitWidthsModel", name := "hasKnife", desc := "(II)Z" } : Jvm.MethodName)) ∈ gw := gw_t (List.mem_of_getElem? (i := 734) (by decide +kernel)) (by decide +kernel)
theorem m_736 : (Jvm.Cond.instanceMethod ({ cls := "SlitWidthsModel", name := "hasKnife", desc := "(II)Z" } : Jvm.MethodName)) ∈ gw := gw_t (List.mem_of_getElem? (i := 736) (by decide +kernel)) (by decide +kernel)
theorem m_737 : (Jvm.Cond.code ({ cls := "SlitWidthsModel", name := "hasKnife", desc := "(II)Z" } : Jvm.MethodName) prog_9_method_23_code (5 : Nat) (Option.some Jvm.ClassFile.FieldType.boolean)) ∈ gw := gw_t (List.mem_of_getElem? (i := 737) (by decide +kernel)) (by decide +kernel)
theorem m_738 : (Jvm.Cond.methodLink "SlitWidthsLaw" (102 : Nat) ({ cls := "SlitWidthsModel", name := "order", desc := "()I" } : Jvm.MethodName)) ∈ gw := gw_t (List.mem_of_getElem? (i := 738) (by decide +kernel)) (by decide +kernel)
theorem m_739 : (Jvm.Cond.instanceMethod ({ cls := "SlitWidthsModel", name := "order", desc := "()I" } : Jvm.MethodName)) ∈ gw := gw_t (List.mem_of_getElem? (i := 739) (by decide +kernel)) (by decide +kernel)
theorem m_740 : (Jvm.Cond.selects "SlitWidthsModel" ({ cls := "SlitWidthsModel", name := "order", desc := "()I" } : Jvm.MethodName) ({ cls := "SlitWidthsModel", name := "order", desc := "()I" } : Jvm.MethodName)) ∈ gw := gw_t (List.mem_of_getElem? (i := 740) (by decide +kernel)) (by decide +kernel)
theorem m_741 : (Jvm.Cond.code ({ cls := "SlitWidthsModel", name := "order", desc := "()I" } : Jvm.MethodName) prog_9_method_27_code (1 : Nat) (Option.some Jvm.ClassFile.FieldType.int)) ∈ gw := gw_t (List.mem_of_getElem? (i := 741) (by decide +kernel)) (by decide +kernel)
theorem m_742 : (Jvm.Cond.methodLink "SlitWidthsModel" (128 : Nat) ({ cls := "SlitWidthsModel", name := "plan", desc := "()I" } : Jvm.MethodName)) ∈ gw := gw_t (List.mem_of_getElem? (i := 742) (by decide +kernel)) (by decide +kernel)
theorem m_744 : (Jvm.Cond.instanceMethod ({ cls := "SlitWidthsModel", name := "plan", desc := "()I" } : Jvm.MethodName)) ∈ gw := gw_t (List.mem_of_getElem? (i := 744) (by decide +kernel)) (by decide +kernel)
theorem m_745 : (Jvm.Cond.code ({ cls := "SlitWidthsModel", name := "plan", desc := "()I" } : Jvm.MethodName) prog_9_method_26_code (8 : Nat) (Option.some Jvm.ClassFile.FieldType.int)) ∈ gw := gw_t (List.mem_of_getElem? (i := 745) (by decide +kernel)) (by decide +kernel)
theorem m_746 : (Jvm.Cond.methodLink "SlitWidthsLaw" (105 : Nat) ({ cls := "SlitWidthsModel", name := "ordered", desc := "(I)I" } : Jvm.MethodName)) ∈ gw := gw_t (List.mem_of_getElem? (i := 746) (by decide +kernel)) (by decide +kernel)
theorem m_747 : (Jvm.Cond.instanceMethod ({ cls := "SlitWidthsModel", name := "ordered", desc := "(I)I" } : Jvm.MethodName)) ∈ gw := gw_t (List.mem_of_getElem? (i := 747) (by decide +kernel)) (by decide +kernel)
theorem m_748 : (Jvm.Cond.selects "SlitWidthsModel" ({ cls := "SlitWidthsModel", name := "ordered", desc := "(I)I" } : Jvm.MethodName) ({ cls := "SlitWidthsModel", name := "ordered", desc := "(I)I" } : Jvm.MethodName)) ∈ gw := gw_t (List.mem_of_getElem? (i := 748) (by decide +kernel)) (by decide +kernel)
theorem m_749 : (Jvm.Cond.code ({ cls := "SlitWidthsModel", name := "ordered", desc := "(I)I" } : Jvm.MethodName) prog_9_method_28_code (9 : Nat) (Option.some Jvm.ClassFile.FieldType.int)) ∈ gw := gw_t (List.mem_of_getElem? (i := 749) (by decide +kernel)) (by decide +kernel)
theorem m_750 : (Jvm.Cond.methodLink "SlitWidthsLaw" (108 : Nat) ({ cls := "SlitWidthsModel", name := "defect", desc := "(II)I" } : Jvm.MethodName)) ∈ gw := gw_t (List.mem_of_getElem? (i := 750) (by decide +kernel)) (by decide +kernel)
theorem m_751 : (Jvm.Cond.instanceMethod ({ cls := "SlitWidthsModel", name := "defect", desc := "(II)I" } : Jvm.MethodName)) ∈ gw := gw_t (List.mem_of_getElem? (i := 751) (by decide +kernel)) (by decide +kernel)
theorem m_752 : (Jvm.Cond.selects "SlitWidthsModel" ({ cls := "SlitWidthsModel", name := "defect", desc := "(II)I" } : Jvm.MethodName) ({ cls := "SlitWidthsModel", name := "defect", desc := "(II)I" } : Jvm.MethodName)) ∈ gw := gw_t (List.mem_of_getElem? (i := 752) (by decide +kernel)) (by decide +kernel)
theorem m_753 : (Jvm.Cond.code ({ cls := "SlitWidthsModel", name := "defect", desc := "(II)I" } : Jvm.MethodName) prog_9_method_29_code (3 : Nat) (Option.some Jvm.ClassFile.FieldType.int)) ∈ gw := gw_t (List.mem_of_getElem? (i := 753) (by decide +kernel)) (by decide +kernel)
theorem m_754 : (Jvm.Cond.methodLink "SlitWidthsLaw" (112 : Nat) ({ cls := "SlitWidthsModel", name := "sound", desc := "()V" } : Jvm.MethodName)) ∈ gw := gw_t (List.mem_of_getElem? (i := 754) (by decide +kernel)) (by decide +kernel)
theorem m_755 : (Jvm.Cond.instanceMethod ({ cls := "SlitWidthsModel", name := "sound", desc := "()V" } : Jvm.MethodName)) ∈ gw := gw_t (List.mem_of_getElem? (i := 755) (by decide +kernel)) (by decide +kernel)
theorem m_756 : (Jvm.Cond.selects "SlitWidthsModel" ({ cls := "SlitWidthsModel", name := "sound", desc := "()V" } : Jvm.MethodName) ({ cls := "SlitWidthsModel", name := "sound", desc := "()V" } : Jvm.MethodName)) ∈ gw := gw_t (List.mem_of_getElem? (i := 756) (by decide +kernel)) (by decide +kernel)
theorem m_757 : (Jvm.Cond.code ({ cls := "SlitWidthsModel", name := "sound", desc := "()V" } : Jvm.MethodName) prog_9_method_30_code (1 : Nat) (Option.none : Option Jvm.ClassFile.FieldType)) ∈ gw := gw_t (List.mem_of_getElem? (i := 757) (by decide +kernel)) (by decide +kernel)
theorem m_758 : (Jvm.Cond.methodLink "SlitWidthsLaw" (115 : Nat) ({ cls := "SlitWidthsModel", name := "shift", desc := "(I)I" } : Jvm.MethodName)) ∈ gw := gw_t (List.mem_of_getElem? (i := 758) (by decide +kernel)) (by decide +kernel)
theorem m_759 : (Jvm.Cond.instanceMethod ({ cls := "SlitWidthsModel", name := "shift", desc := "(I)I" } : Jvm.MethodName)) ∈ gw := gw_t (List.mem_of_getElem? (i := 759) (by decide +kernel)) (by decide +kernel)
theorem m_760 : (Jvm.Cond.selects "SlitWidthsModel" ({ cls := "SlitWidthsModel", name := "shift", desc := "(I)I" } : Jvm.MethodName) ({ cls := "SlitWidthsModel", name := "shift", desc := "(I)I" } : Jvm.MethodName)) ∈ gw := gw_t (List.mem_of_getElem? (i := 760) (by decide +kernel)) (by decide +kernel)
theorem m_761 : (Jvm.Cond.code ({ cls := "SlitWidthsModel", name := "shift", desc := "(I)I" } : Jvm.MethodName) prog_9_method_32_code (4 : Nat) (Option.some Jvm.ClassFile.FieldType.int)) ∈ gw := gw_t (List.mem_of_getElem? (i := 761) (by decide +kernel)) (by decide +kernel)
theorem m_762 : (Jvm.Cond.methodLink "SlitWidthsModel" (134 : Nat) ({ cls := "SlitWidthsModel", name := "isSound", desc := "(II)Z" } : Jvm.MethodName)) ∈ gw := gw_t (List.mem_of_getElem? (i := 762) (by decide +kernel)) (by decide +kernel)
theorem m_764 : (Jvm.Cond.instanceMethod ({ cls := "SlitWidthsModel", name := "isSound", desc := "(II)Z" } : Jvm.MethodName)) ∈ gw := gw_t (List.mem_of_getElem? (i := 764) (by decide +kernel)) (by decide +kernel)
theorem m_765 : (Jvm.Cond.code ({ cls := "SlitWidthsModel", name := "isSound", desc := "(II)Z" } : Jvm.MethodName) prog_9_method_31_code (6 : Nat) (Option.some Jvm.ClassFile.FieldType.boolean)) ∈ gw := gw_t (List.mem_of_getElem? (i := 765) (by decide +kernel)) (by decide +kernel)
theorem m_766 : (Jvm.Cond.arrayClass Jvm.ClassFile.FieldType.long) ∈ gw := gw_t (List.mem_of_getElem? (i := 766) (by decide +kernel)) (by decide +kernel)
theorem m_767 : (Jvm.Cond.sameMethod "java/lang/Throwable" "java/lang/Throwable" "fillInStackTrace" "(I)Ljava/lang/Throwable;") ∈ gw := gw_t (List.mem_of_getElem? (i := 767) (by decide +kernel)) (by decide +kernel)
set_option maxRecDepth 20000 in
theorem in_CO : ∀ w ∈ u_ws R_CO F_CO 5, w ∈ gw := by
  intro w hw
  obtain ⟨k, hk, rfl⟩ := List.mem_map.mp hw
  have hk := List.mem_range.mp hk
  rcases (show k = 0 ∨ k = 1 ∨ k = 2 ∨ k = 3 ∨ k = 4 by omega) with rfl | rfl | rfl | rfl | rfl
  · exact m_50
  · exact m_52
  · exact m_54
  · exact m_56
  · exact m_58
set_option maxRecDepth 20000 in
theorem in_DE : ∀ w ∈ u_ws R_DE F_DE 3, w ∈ gw := by
  intro w hw
  obtain ⟨k, hk, rfl⟩ := List.mem_map.mp hw
  have hk := List.mem_range.mp hk
  rcases (show k = 0 ∨ k = 1 ∨ k = 2 by omega) with rfl | rfl | rfl
  · exact m_144
  · exact m_146
  · exact m_148
set_option maxRecDepth 20000 in
theorem in_PS : ∀ w ∈ u_ws R_PS F_PS 10, w ∈ gw := by
  intro w hw
  obtain ⟨k, hk, rfl⟩ := List.mem_map.mp hw
  have hk := List.mem_range.mp hk
  rcases (show k = 0 ∨ k = 1 ∨ k = 2 ∨ k = 3 ∨ k = 4 ∨ k = 5 ∨ k = 6 ∨ k = 7 ∨ k = 8 ∨ k = 9 by omega) with rfl | rfl | rfl | rfl | rfl | rfl | rfl | rfl | rfl | rfl
  · exact m_108
  · exact m_110
  · exact m_112
  · exact m_114
  · exact m_116
  · exact m_118
  · exact m_120
  · exact m_122
  · exact m_124
  · exact m_126
set_option maxRecDepth 20000 in
theorem in_SQ : ∀ w ∈ u_ws R_SQ F_SQ 5, w ∈ gw := by
  intro w hw
  obtain ⟨k, hk, rfl⟩ := List.mem_map.mp hw
  have hk := List.mem_range.mp hk
  rcases (show k = 0 ∨ k = 1 ∨ k = 2 ∨ k = 3 ∨ k = 4 by omega) with rfl | rfl | rfl | rfl | rfl
  · exact m_165
  · exact m_167
  · exact m_169
  · exact m_171
  · exact m_173
set_option maxRecDepth 20000 in
theorem in_SU : ∀ w ∈ u_ws R_SU F_SU 11, w ∈ gw := by
  intro w hw
  obtain ⟨k, hk, rfl⟩ := List.mem_map.mp hw
  have hk := List.mem_range.mp hk
  rcases (show k = 0 ∨ k = 1 ∨ k = 2 ∨ k = 3 ∨ k = 4 ∨ k = 5 ∨ k = 6 ∨ k = 7 ∨ k = 8 ∨ k = 9 ∨ k = 10 by omega) with rfl | rfl | rfl | rfl | rfl | rfl | rfl | rfl | rfl | rfl | rfl
  · exact m_199
  · exact m_201
  · exact m_203
  · exact m_205
  · exact m_207
  · exact m_209
  · exact m_211
  · exact m_213
  · exact m_215
  · exact m_217
  · exact m_219
set_option maxRecDepth 20000 in
theorem in_WI : ∀ w ∈ u_ws R_WI F_WI 3, w ∈ gw := by
  intro w hw
  obtain ⟨k, hk, rfl⟩ := List.mem_map.mp hw
  have hk := List.mem_range.mp hk
  rcases (show k = 0 ∨ k = 1 ∨ k = 2 by omega) with rfl | rfl | rfl
  · exact m_78
  · exact m_80
  · exact m_82
set_option maxRecDepth 20000 in
theorem in_SW : ∀ w ∈ u_ws R_SW F_SW 7, w ∈ gw := by
  intro w hw
  obtain ⟨k, hk, rfl⟩ := List.mem_map.mp hw
  have hk := List.mem_range.mp hk
  rcases (show k = 0 ∨ k = 1 ∨ k = 2 ∨ k = 3 ∨ k = 4 ∨ k = 5 ∨ k = 6 by omega) with rfl | rfl | rfl | rfl | rfl | rfl | rfl
  · exact m_229
  · exact m_231
  · exact m_233
  · exact m_235
  · exact m_237
  · exact m_239
  · exact m_241
set_option maxRecDepth 20000 in
theorem in_MO : ∀ w ∈ u_ws R_MO F_MO 23, w ∈ gw := by
  intro w hw
  obtain ⟨k, hk, rfl⟩ := List.mem_map.mp hw
  have hk := List.mem_range.mp hk
  rcases (show k = 0 ∨ k = 1 ∨ k = 2 ∨ k = 3 ∨ k = 4 ∨ k = 5 ∨ k = 6 ∨ k = 7 ∨ k = 8 ∨ k = 9 ∨ k = 10 ∨ k = 11 ∨ k = 12 ∨ k = 13 ∨ k = 14 ∨ k = 15 ∨ k = 16 ∨ k = 17 ∨ k = 18 ∨ k = 19 ∨ k = 20 ∨ k = 21 ∨ k = 22 by omega) with rfl | rfl | rfl | rfl | rfl | rfl | rfl | rfl | rfl | rfl | rfl | rfl | rfl | rfl | rfl | rfl | rfl | rfl | rfl | rfl | rfl | rfl | rfl
  · exact m_595
  · exact m_597
  · exact m_599
  · exact m_601
  · exact m_603
  · exact m_605
  · exact m_607
  · exact m_609
  · exact m_611
  · exact m_613
  · exact m_615
  · exact m_617
  · exact m_619
  · exact m_621
  · exact m_623
  · exact m_625
  · exact m_627
  · exact m_629
  · exact m_631
  · exact m_633
  · exact m_635
  · exact m_637
  · exact m_639
end
section
/-! numbers: nI of a natural number, zI of an integer; rows of naturals aN; the kit's rows over them -/
def zI (z : Int) : Int32 := Int32.ofInt z
def aN (a : Nat → Nat) : Nat → Int32 := fun j => nI (a j)
def up (a : Nat → Nat) (i x : Nat) : Nat → Nat := fun j => if j = i then x else a j
theorem up_s (a : Nat → Nat) (i x : Nat) : up a i x i = x := by simp [up]
theorem up_n (a : Nat → Nat) {i j : Nat} (x : Nat) (h : j ≠ i) : up a i x j = a j := by simp [up, h]
theorem aN_upd (a : Nat → Nat) (i x : Nat) : upd (aN a) i (nI x) = aN (up a i x) := by
  funext j
  by_cases h : j = i
  · subst h
    rw [pk_us]
    simp [aN, up]
  · rw [pk_un h]
    simp [aN, up, h]
theorem zI_n (n : Nat) : nI n = zI (n : Int) := Int32.ofInt_eq_ofNat.symm
theorem zI_toInt {z : Int} (h1 : -2147483648 ≤ z) (h2 : z < 2147483648) : (zI z).toInt = z := Int32.toInt_ofInt_of_le (by omega) (by omega)
theorem nI_tI {n : Nat} (h : n < 2147483648) : (nI n).toInt = (n : Int) := nI_toInt (by omega)
theorem zI_lit0 : (0 : Int32).toInt = 0 := by decide +kernel
theorem zz_add (a b : Int) : zI a + zI b = zI (a + b) := (Int32.ofInt_add a b).symm
theorem nz_add (a : Nat) (b : Int) : nI a + zI b = zI (a + b) := by rw [zI_n, zz_add]
theorem zn_add (a : Int) (b : Nat) : zI a + nI b = zI (a + b) := by rw [zI_n, zz_add]
theorem nn_add (a b : Nat) : nI a + nI b = nI (a + b) := nI_add a b
theorem zz_sub (a b : Int) : zI a - zI b = zI (a - b) := (Int32.ofInt_sub a b).symm
theorem nz_sub (a : Nat) (b : Int) : nI a - zI b = zI (a - b) := by rw [zI_n, zz_sub]
theorem zn_sub (a : Int) (b : Nat) : zI a - nI b = zI (a - b) := by rw [zI_n, zz_sub]
theorem nn_sub (a b : Nat) : nI a - nI b = zI ((a : Int) - b) := by rw [zI_n, zI_n, zz_sub]
theorem nn_subN {a b : Nat} (h : b ≤ a) : nI a - nI b = nI (a - b) := pk_sub h
theorem zz_mul (a b : Int) : zI a * zI b = zI (a * b) := (Int32.ofInt_mul a b).symm
theorem nz_mul (a : Nat) (b : Int) : nI a * zI b = zI (a * b) := by rw [zI_n, zz_mul]
theorem zn_mul (a : Int) (b : Nat) : zI a * nI b = zI (a * b) := by rw [zI_n, zz_mul]
theorem nn_mul (a b : Nat) : nI a * nI b = nI (a * b) := pk_mul a b
theorem z_toN {z : Int} {n : Nat} (h : z = n) : zI z = nI n := by rw [zI_n, h]
theorem n_incZ (z : Int) (k : Int) : zI z + Int32.ofInt k = zI (z + k) := zz_add z k
theorem n_incN (n k : Nat) : nI n + Int32.ofInt (k : Int) = nI (n + k) := by
  have h := zn_add (k : Int) n
  rw [zI_n n, zI_n (n + k)]
  show zI n + zI k = _
  rw [zz_add]
  simp
section IX
variable {p : Program} {l : Launch} {e : Env} {R : Room} {s : State} {m : MethodId} {args : Array Value} {below : List Frame} {meth : Method} {c : Code} {H : Heap} {locs : List Loc} {cells slots : Nat} {Q : State → Prop} {cc : ByteArray} {pc : Nat} {ls : Array Slot} {rest : List Value}
theorem lv_topr {x y : Int32} (h : x = y) (k : W p l e R s m args below meth c H locs cells slots Q (F0 m pc ls (.int y :: rest))) : W p l e R s m args below meth c H locs cells slots Q (F0 m pc ls (.int x :: rest)) := by
  subst h
  exact k
theorem ix_icmp_eq (hexec : p.tables.exec = Jvm.exec) (hb : c.code = cc) {x y : Int32} {a b : Int} (hxa : x.toInt = a) (hyb : y.toInt = b) {off : Int} {tgt : Nat} (hdg : decode cc pc = .ok (.if_icmp .eq off, 3)) (ht : (pc : Int) + off = (tgt : Int))
    (kt : a = b → W p l e R s m args below meth c H locs cells slots Q (F0 m tgt ls rest)) (kf : ¬ a = b → W p l e R s m args below meth c H locs cells slots Q (F0 m (pc + 3) ls rest)) : W p l e R s m args below meth c H locs cells slots Q (F0 m pc ls (.int y :: .int x :: rest)) := by
  subst hxa; subst hyb
  exact lv_icmp_eq hexec hb hdg ht (fun h => kt (congrArg _ h)) (fun h => kf (fun q => h (Int32.toInt_inj.mp q)))
theorem ix_icmp_ne (hexec : p.tables.exec = Jvm.exec) (hb : c.code = cc) {x y : Int32} {a b : Int} (hxa : x.toInt = a) (hyb : y.toInt = b) {off : Int} {tgt : Nat} (hdg : decode cc pc = .ok (.if_icmp .ne off, 3)) (ht : (pc : Int) + off = (tgt : Int))
    (kt : ¬ a = b → W p l e R s m args below meth c H locs cells slots Q (F0 m tgt ls rest)) (kf : a = b → W p l e R s m args below meth c H locs cells slots Q (F0 m (pc + 3) ls rest)) : W p l e R s m args below meth c H locs cells slots Q (F0 m pc ls (.int y :: .int x :: rest)) := by
  subst hxa; subst hyb
  exact lv_icmp_ne hexec hb hdg ht (fun h => kt (fun q => h (Int32.toInt_inj.mp q))) (fun h => kf (congrArg _ h))
theorem ix_icmp_lt (hexec : p.tables.exec = Jvm.exec) (hb : c.code = cc) {x y : Int32} {a b : Int} (hxa : x.toInt = a) (hyb : y.toInt = b) {off : Int} {tgt : Nat} (hdg : decode cc pc = .ok (.if_icmp .lt off, 3)) (ht : (pc : Int) + off = (tgt : Int))
    (kt : a < b → W p l e R s m args below meth c H locs cells slots Q (F0 m tgt ls rest)) (kf : b ≤ a → W p l e R s m args below meth c H locs cells slots Q (F0 m (pc + 3) ls rest)) : W p l e R s m args below meth c H locs cells slots Q (F0 m pc ls (.int y :: .int x :: rest)) := by
  subst hxa; subst hyb
  exact lv_icmp_lt hexec hb hdg ht (fun h => kt (Int32.lt_iff_toInt_lt.mp h)) (fun h => kf (Int.not_lt.mp (fun q => h (Int32.lt_iff_toInt_lt.mpr q))))
theorem ix_icmp_ge (hexec : p.tables.exec = Jvm.exec) (hb : c.code = cc) {x y : Int32} {a b : Int} (hxa : x.toInt = a) (hyb : y.toInt = b) {off : Int} {tgt : Nat} (hdg : decode cc pc = .ok (.if_icmp .ge off, 3)) (ht : (pc : Int) + off = (tgt : Int))
    (kt : b ≤ a → W p l e R s m args below meth c H locs cells slots Q (F0 m tgt ls rest)) (kf : a < b → W p l e R s m args below meth c H locs cells slots Q (F0 m (pc + 3) ls rest)) : W p l e R s m args below meth c H locs cells slots Q (F0 m pc ls (.int y :: .int x :: rest)) := by
  subst hxa; subst hyb
  exact lv_icmp_ge hexec hb hdg ht (fun h => kt (Int32.le_iff_toInt_le.mp h)) (fun h => kf (Int.not_le.mp (fun q => h (Int32.le_iff_toInt_le.mpr q))))
theorem ix_icmp_gt (hexec : p.tables.exec = Jvm.exec) (hb : c.code = cc) {x y : Int32} {a b : Int} (hxa : x.toInt = a) (hyb : y.toInt = b) {off : Int} {tgt : Nat} (hdg : decode cc pc = .ok (.if_icmp .gt off, 3)) (ht : (pc : Int) + off = (tgt : Int))
    (kt : b < a → W p l e R s m args below meth c H locs cells slots Q (F0 m tgt ls rest)) (kf : a ≤ b → W p l e R s m args below meth c H locs cells slots Q (F0 m (pc + 3) ls rest)) : W p l e R s m args below meth c H locs cells slots Q (F0 m pc ls (.int y :: .int x :: rest)) := by
  subst hxa; subst hyb
  exact lv_icmp_gt hexec hb hdg ht (fun h => kt (Int32.lt_iff_toInt_lt.mp h)) (fun h => kf (Int.not_lt.mp (fun q => h (Int32.lt_iff_toInt_lt.mpr q))))
theorem ix_icmp_le (hexec : p.tables.exec = Jvm.exec) (hb : c.code = cc) {x y : Int32} {a b : Int} (hxa : x.toInt = a) (hyb : y.toInt = b) {off : Int} {tgt : Nat} (hdg : decode cc pc = .ok (.if_icmp .le off, 3)) (ht : (pc : Int) + off = (tgt : Int))
    (kt : a ≤ b → W p l e R s m args below meth c H locs cells slots Q (F0 m tgt ls rest)) (kf : b < a → W p l e R s m args below meth c H locs cells slots Q (F0 m (pc + 3) ls rest)) : W p l e R s m args below meth c H locs cells slots Q (F0 m pc ls (.int y :: .int x :: rest)) := by
  subst hxa; subst hyb
  exact lv_icmp_le hexec hb hdg ht (fun h => kt (Int32.le_iff_toInt_le.mp h)) (fun h => kf (Int.not_le.mp (fun q => h (Int32.le_iff_toInt_le.mpr q))))
theorem ix_if_eq (hexec : p.tables.exec = Jvm.exec) (hb : c.code = cc) {x : Int32} {a : Int} (hxa : x.toInt = a) {off : Int} {tgt : Nat} (hdg : decode cc pc = .ok (.ifCond .eq off, 3)) (ht : (pc : Int) + off = (tgt : Int))
    (kt : a = 0 → W p l e R s m args below meth c H locs cells slots Q (F0 m tgt ls rest)) (kf : ¬ a = 0 → W p l e R s m args below meth c H locs cells slots Q (F0 m (pc + 3) ls rest)) : W p l e R s m args below meth c H locs cells slots Q (F0 m pc ls (.int x :: rest)) := by
  subst hxa
  have h0 := zI_lit0
  exact lv_if_eq hexec hb hdg ht (fun h => kt (by rw [h, h0])) (fun h => kf (fun q => h (Int32.toInt_inj.mp (by rw [q, h0]))))
theorem ix_if_ne (hexec : p.tables.exec = Jvm.exec) (hb : c.code = cc) {x : Int32} {a : Int} (hxa : x.toInt = a) {off : Int} {tgt : Nat} (hdg : decode cc pc = .ok (.ifCond .ne off, 3)) (ht : (pc : Int) + off = (tgt : Int))
    (kt : ¬ a = 0 → W p l e R s m args below meth c H locs cells slots Q (F0 m tgt ls rest)) (kf : a = 0 → W p l e R s m args below meth c H locs cells slots Q (F0 m (pc + 3) ls rest)) : W p l e R s m args below meth c H locs cells slots Q (F0 m pc ls (.int x :: rest)) := by
  subst hxa
  have h0 := zI_lit0
  exact lv_if_ne hexec hb hdg ht (fun h => kt (fun q => h (Int32.toInt_inj.mp (by rw [q, h0])))) (fun h => kf (by rw [h, h0]))
theorem ix_if_lt (hexec : p.tables.exec = Jvm.exec) (hb : c.code = cc) {x : Int32} {a : Int} (hxa : x.toInt = a) {off : Int} {tgt : Nat} (hdg : decode cc pc = .ok (.ifCond .lt off, 3)) (ht : (pc : Int) + off = (tgt : Int))
    (kt : a < 0 → W p l e R s m args below meth c H locs cells slots Q (F0 m tgt ls rest)) (kf : 0 ≤ a → W p l e R s m args below meth c H locs cells slots Q (F0 m (pc + 3) ls rest)) : W p l e R s m args below meth c H locs cells slots Q (F0 m pc ls (.int x :: rest)) := by
  subst hxa
  have h0 := zI_lit0
  exact lv_if_lt hexec hb hdg ht (fun h => kt (by have := Int32.lt_iff_toInt_lt.mp h; omega)) (fun h => kf (by have : ¬ x.toInt < (0 : Int32).toInt := fun q => h (Int32.lt_iff_toInt_lt.mpr q); omega))
theorem ix_if_ge (hexec : p.tables.exec = Jvm.exec) (hb : c.code = cc) {x : Int32} {a : Int} (hxa : x.toInt = a) {off : Int} {tgt : Nat} (hdg : decode cc pc = .ok (.ifCond .ge off, 3)) (ht : (pc : Int) + off = (tgt : Int))
    (kt : 0 ≤ a → W p l e R s m args below meth c H locs cells slots Q (F0 m tgt ls rest)) (kf : a < 0 → W p l e R s m args below meth c H locs cells slots Q (F0 m (pc + 3) ls rest)) : W p l e R s m args below meth c H locs cells slots Q (F0 m pc ls (.int x :: rest)) := by
  subst hxa
  have h0 := zI_lit0
  exact lv_if_ge hexec hb hdg ht (fun h => kt (by have := Int32.le_iff_toInt_le.mp h; omega)) (fun h => kf (by have : ¬ (0 : Int32).toInt ≤ x.toInt := fun q => h (Int32.le_iff_toInt_le.mpr q); omega))
theorem ix_if_gt (hexec : p.tables.exec = Jvm.exec) (hb : c.code = cc) {x : Int32} {a : Int} (hxa : x.toInt = a) {off : Int} {tgt : Nat} (hdg : decode cc pc = .ok (.ifCond .gt off, 3)) (ht : (pc : Int) + off = (tgt : Int))
    (kt : 0 < a → W p l e R s m args below meth c H locs cells slots Q (F0 m tgt ls rest)) (kf : a ≤ 0 → W p l e R s m args below meth c H locs cells slots Q (F0 m (pc + 3) ls rest)) : W p l e R s m args below meth c H locs cells slots Q (F0 m pc ls (.int x :: rest)) := by
  subst hxa
  have h0 := zI_lit0
  exact lv_if_gt hexec hb hdg ht (fun h => kt (by have := Int32.lt_iff_toInt_lt.mp h; omega)) (fun h => kf (by have : ¬ (0 : Int32).toInt < x.toInt := fun q => h (Int32.lt_iff_toInt_lt.mpr q); omega))
theorem ix_if_le (hexec : p.tables.exec = Jvm.exec) (hb : c.code = cc) {x : Int32} {a : Int} (hxa : x.toInt = a) {off : Int} {tgt : Nat} (hdg : decode cc pc = .ok (.ifCond .le off, 3)) (ht : (pc : Int) + off = (tgt : Int))
    (kt : a ≤ 0 → W p l e R s m args below meth c H locs cells slots Q (F0 m tgt ls rest)) (kf : 0 < a → W p l e R s m args below meth c H locs cells slots Q (F0 m (pc + 3) ls rest)) : W p l e R s m args below meth c H locs cells slots Q (F0 m pc ls (.int x :: rest)) := by
  subst hxa
  have h0 := zI_lit0
  exact lv_if_le hexec hb hdg ht (fun h => kt (by have := Int32.le_iff_toInt_le.mp h; omega)) (fun h => kf (by have : ¬ x.toInt ≤ (0 : Int32).toInt := fun q => h (Int32.le_iff_toInt_le.mpr q); omega))
variable {D : va_G} {cl : List vw_C} {tys : List (ClassId × FieldType)} {ws : va_W} {A : Nat → Prop} {H0 : Heap} {a : Nat}
theorem ix_iald (hexec : p.tables.exec = Jvm.exec) (hb : c.code = cc) (hK : va_K D cl tys s) (hP : va_P D cl ws H) (q0 t0 : Nat) {cA : ClassId} {n : Nat} {f : Nat → Int32} (ha : ws[q0]? = some (a, .inl (cA, n, .inl f))) (ht : tys[t0]? = some (cA, .int)) {i : Nat} (hi : i < n) (hn : n < 2147483648) (hdg : decode cc pc = .ok (.iaload, 1))
    (kk : W p l e R s m args below meth c H locs cells slots Q (F0 m (pc + 1) ls (.int (f i) :: rest))) : W p l e R s m args below meth c H locs cells slots Q (F0 m pc ls (.int (nI i) :: .ref a :: rest)) := by
  refine va_iald hexec hb hK hP q0 t0 ha ht (vp_in_nI hi (by omega)) hdg ?_
  rw [nI_clamp (show i < 2 ^ 31 by omega)]
  exact kk
theorem ix_ialdN (hexec : p.tables.exec = Jvm.exec) (hb : c.code = cc) (hK : va_K D cl tys s) (hP : va_P D cl ws H) (q0 t0 : Nat) {cA : ClassId} {n : Nat} {f : Nat → Nat} (ha : ws[q0]? = some (a, .inl (cA, n, .inl (aN f)))) (ht : tys[t0]? = some (cA, .int)) {i : Nat} (hi : i < n) (hn : n < 2147483648) (hdg : decode cc pc = .ok (.iaload, 1))
    (kk : W p l e R s m args below meth c H locs cells slots Q (F0 m (pc + 1) ls (.int (nI (f i)) :: rest))) : W p l e R s m args below meth c H locs cells slots Q (F0 m pc ls (.int (nI i) :: .ref a :: rest)) := ix_iald hexec hb hK hP q0 t0 ha ht hi hn hdg kk
theorem ix_iastR (hexec : p.tables.exec = Jvm.exec) (hb : c.code = cc) (hK : va_K D cl tys s) (hP : va_P D cl ws H) (hD : va_D A ws) (hS : va_S A H0 H locs) (q0 t0 : Nat) {cA : ClassId} {n : Nat} {f : Nat → Int32} (ha : ws[q0]? = some (a, .inl (cA, n, .inl f))) (ht : tys[t0]? = some (cA, .int)) {i : Nat} {x : Int32} (hi : i < n) (hn : n < 2147483648) (hdg : decode cc pc = .ok (.iastore, 1))
    (kk : ∀ (H1 : Heap) (locs1 : List Loc), va_P D cl (ws.set q0 (a, .inl (cA, n, .inl (upd f i x)))) H1 → va_D A (ws.set q0 (a, .inl (cA, n, .inl (upd f i x)))) → va_S A H0 H1 locs1 → W p l e R s m args below meth c H1 locs1 cells slots Q (F0 m (pc + 1) ls rest)) : W p l e R s m args below meth c H locs cells slots Q (F0 m pc ls (.int x :: .int (nI i) :: .ref a :: rest)) := by
  refine va_iast hexec hb hK hP hD hS q0 t0 ha ht (vp_in_nI hi (by omega)) hdg ?_
  rw [nI_clamp (show i < 2 ^ 31 by omega)]
  exact kk
theorem ix_iast (hexec : p.tables.exec = Jvm.exec) (hb : c.code = cc) (hK : va_K D cl tys s) (hP : va_P D cl ws H) (hD : va_D A ws) (hS : va_S A H0 H locs) (q0 t0 : Nat) {cA : ClassId} {n : Nat} {f : Nat → Nat} (ha : ws[q0]? = some (a, .inl (cA, n, .inl (aN f)))) (ht : tys[t0]? = some (cA, .int)) {i x : Nat} (hi : i < n) (hn : n < 2147483648) (hdg : decode cc pc = .ok (.iastore, 1))
    (kk : ∀ (H1 : Heap) (locs1 : List Loc), va_P D cl (ws.set q0 (a, .inl (cA, n, .inl (aN (up f i x))))) H1 → va_D A (ws.set q0 (a, .inl (cA, n, .inl (aN (up f i x))))) → va_S A H0 H1 locs1 → W p l e R s m args below meth c H1 locs1 cells slots Q (F0 m (pc + 1) ls rest)) : W p l e R s m args below meth c H locs cells slots Q (F0 m pc ls (.int (nI x) :: .int (nI i) :: .ref a :: rest)) := by
  refine ix_iastR hexec hb hK hP hD hS q0 t0 ha ht hi hn hdg ?_
  rw [aN_upd]
  exact kk
theorem ix_aldq (hexec : p.tables.exec = Jvm.exec) (hb : c.code = cc) (hK : va_K D cl tys s) (hP : va_P D cl ws H) (q0 t0 : Nat) {cA : ClassId} {C : String} {n : Nat} {f : Nat → Option Nat} (ha : ws[q0]? = some (a, .inl (cA, n, .inr (.inr (.inr (.inr f)))))) (ht : tys[t0]? = some (cA, .object C)) {i : Nat} {v : Nat} (hi : i < n) (hn : n < 2147483648) (hf : f i = some v) (hdg : decode cc pc = .ok (.aaload, 1))
    (kk : W p l e R s m args below meth c H locs cells slots Q (F0 m (pc + 1) ls (.ref v :: rest))) : W p l e R s m args below meth c H locs cells slots Q (F0 m pc ls (.int (nI i) :: .ref a :: rest)) := by
  refine va_aldq hexec hb hK hP q0 t0 ha ht (vp_in_nI hi (by omega)) hdg ?_
  rw [nI_clamp (show i < 2 ^ 31 by omega), hf]
  exact kk
theorem ix_idiv (hexec : p.tables.exec = Jvm.exec) (hb : c.code = cc) {x d : Nat} (hx : x < 2147483648) (h0 : 0 < d) (hd : d < 2147483648) (hdg : decode cc pc = .ok (.idiv, 1))
    (k : W p l e R s m args below meth c H locs cells slots Q (F0 m (pc + 1) ls (.int (nI (x / d)) :: rest))) : W p l e R s m args below meth c H locs cells slots Q (F0 m pc ls (.int (nI d) :: .int (nI x) :: rest)) := by
  refine lv_idiv hexec hb hdg (nI_ne0 h0 (by omega)) ?_
  rw [pk_div (by omega) h0 (by omega)]
  exact k
end IX
/-! calls that write nothing: their answer, the heap's old cells as they were -/
abbrev ro_Pc (D : va_G) (cl : List vw_C) (tys : List (ClassId × FieldType)) (av : List Value) (ws : va_W) : Array Value → State → Prop := va_Pc av (fun U => va_P D cl ws U.heap ∧ va_K D cl tys U)
abbrev ro_Qi (post : Int32 → Prop) : Array Value → State → Outcome → State → Prop := va_Qi (fun (r : Int32) (_ : Unit) => post r) (fun _ _ => True) (fun _ => False)
abbrev ro_no : Nat → Prop := fun _ => False
theorem ro_blind {D : va_G} {cl : List vw_C} {tys : List (ClassId × FieldType)} {av : List Value} {ws : va_W} : FrameBlind (ro_Pc D cl tys av ws) := fun a U g mk q => by
  obtain ⟨q0, qP, qK⟩ := q
  exact ⟨q0, qP, va_K.moved (u := U) (U := U.calling g mk a) (Vm.Alike.refl U.vm) qK⟩
abbrev rw_Pc (D : va_G) (cl : List vw_C) (tys : List (ClassId × FieldType)) (sz : Nat) (av : List Value) (ws : va_W) : Array Value → State → Prop := va_Pc av (fun U => U.heap.size = sz ∧ va_P D cl ws U.heap ∧ va_K D cl tys U ∧ va_D (fun _ => True) ws)
theorem rw_blind {D : va_G} {cl : List vw_C} {tys : List (ClassId × FieldType)} {sz : Nat} {av : List Value} {ws : va_W} : FrameBlind (rw_Pc D cl tys sz av ws) := fun a U g mk q => by
  obtain ⟨q0, q1, qP, qK, qD⟩ := q
  exact ⟨q0, q1, qP, va_K.moved (u := U) (U := U.calling g mk a) (Vm.Alike.refl U.vm) qK, qD⟩
abbrev rw_B {S : Type} (D : va_G) (cl : List vw_C) (tys : List (ClassId × FieldType)) (A : Nat → Prop) (ws : S → va_W) : S → State → Prop := fun u t => va_P D cl (ws u) t.heap ∧ va_K D cl tys t ∧ va_D A (ws u)
section RO
variable {p : Program} {l : Launch} {e : Env} {R : Room} {s : State} {m : MethodId} {args : Array Value} {below : List Frame} {meth : Method} {c : Code} {H : Heap} {locs : List Loc} {cells slots : Nat} {Q : State → Prop} {pc : Nat} {ls : Array Slot} {rest st0 : List Value} {D : va_G} {cl : List vw_C} {ws : va_W} {A0 : Nat → Prop} {H0 : Heap} {a : Array Value}
theorem va_P.same {H1 : Heap} (hP : va_P D cl ws H) (hk : ∀ q : Nat, q < H.size → ¬ False → H1[q]? = H[q]?) : va_P D cl ws H1 := hP.kept (fun k q hq => hk q.1 (hP k q hq).lt id)
theorem ro_calli {post : Int32 → Prop} (hr : va_Run p l e R s m args below meth c H locs cells slots 0 0 (F0 m pc ls st0) rest (ro_Qi post a) ro_no) (hS : va_S A0 H0 H locs) (hP : va_P D cl ws H)
    (kk : ∀ (r : Int32) (H1 : Heap) (locs1 : List Loc), post r → va_P D cl ws H1 → va_S A0 H0 H1 locs1 → W p l e R s m args below meth c H1 locs1 cells slots Q (F0 m (pc + 3) ls (.int r :: rest))) : W p l e R s m args below meth c H locs cells slots Q (F0 m pc ls st0) :=
  va_calli hr hS (fun _ _ h => h.elim) (fun _ h => h.elim) (fun r _ t H1 locs1 _ _ hw _ _ hk hS1 => kk r H1 locs1 hw (hP.same hk) hS1)
end RO
end
section
/-! pure words: how many places of a row are not in another; sums; the least left without a defect -/
/-- is x among the first m of g -/
def isin (g : Nat → Nat) (x : Nat) : Nat → Bool
  | 0 => false
  | m + 1 => isin g x m || g m == x
theorem isin_iff {g : Nat → Nat} {x : Nat} : ∀ {m : Nat}, isin g x m = true ↔ ∃ j, j < m ∧ g j = x
  | 0 => by simp [isin]
  | m + 1 => by
    rw [isin, Bool.or_eq_true, isin_iff (m := m), beq_iff_eq]
    constructor
    · rintro (⟨j, h1, h2⟩ | h)
      · exact ⟨j, by omega, h2⟩
      · exact ⟨m, by omega, h⟩
    · rintro ⟨j, h1, h2⟩
      by_cases h : j = m
      · subst h
        exact Or.inr h2
      · exact Or.inl ⟨j, by omega, h2⟩
/-- how many of the first n of f are not among the first m of g -/
def cntNot (f g : Nat → Nat) (m : Nat) : Nat → Nat
  | 0 => 0
  | n + 1 => cntNot f g m n + if isin g (f n) m = true then 0 else 1
theorem cntNot_le (f g : Nat → Nat) (m : Nat) : ∀ n, cntNot f g m n ≤ n
  | 0 => Nat.le_refl 0
  | n + 1 => by
    have := cntNot_le f g m n
    rw [cntNot]
    split <;> omega
theorem cntNot_in {f g : Nat → Nat} {m n : Nat} (h : ∃ j, j < m ∧ g j = f n) : cntNot f g m (n + 1) = cntNot f g m n := by
  rw [cntNot, if_pos (isin_iff.mpr h), Nat.add_zero]
theorem cntNot_out {f g : Nat → Nat} {m n : Nat} (h : ¬ ∃ j, j < m ∧ g j = f n) : cntNot f g m (n + 1) = cntNot f g m n + 1 := by
  rw [cntNot, if_neg (fun q => h (isin_iff.mp q))]
/-- the sum of the first n -/
def sumN (f : Nat → Nat) : Nat → Nat
  | 0 => 0
  | n + 1 => sumN f n + f n
theorem sumN_congr {f g : Nat → Nat} : ∀ {n : Nat}, (∀ j, j < n → f j = g j) → sumN f n = sumN g n
  | 0, _ => rfl
  | n + 1, h => by
    rw [sumN, sumN, sumN_congr (fun j hj => h j (by omega)), h n (by omega)]
/-! the best pattern: counts c of the first cnt widths; pitches pi, wanted strips st -/
def psum (pi c : Nat → Nat) : Nat → Nat := sumN (fun i => c i * pi i)
def Fe (pi st : Nat → Nat) (room : Int) (most cnt : Nat) (c : Nat → Nat) : Prop := (∀ i, i < cnt → c i ≤ st i) ∧ ((psum pi c cnt : Nat) : Int) ≤ room ∧ sumN c cnt ≤ most
/-- b comes ahead of c by its numbers -/
def lexgt (cnt : Nat) (b c : Nat → Nat) : Prop := ∃ k, k < cnt ∧ (∀ i, i < k → b i = c i) ∧ c k < b k
def better (pi : Nat → Nat) (cnt : Nat) (b c : Nat → Nat) : Prop := psum pi c cnt < psum pi b cnt ∨ (psum pi c cnt = psum pi b cnt ∧ (sumN b cnt < sumN c cnt ∨ (sumN b cnt = sumN c cnt ∧ lexgt cnt b c)))
def eqto (cnt : Nat) (b c : Nat → Nat) : Prop := ∀ i, i < cnt → b i = c i
def Beq (pi : Nat → Nat) (cnt : Nat) (b c : Nat → Nat) : Prop := eqto cnt b c ∨ better pi cnt b c
theorem psum_congr {pi c d : Nat → Nat} {n : Nat} (h : eqto n c d) : psum pi c n = psum pi d n := sumN_congr (fun j hj => by rw [h j hj])
theorem eqto.sum {c d : Nat → Nat} {n : Nat} (h : eqto n c d) : sumN c n = sumN d n := sumN_congr h
theorem lexgt.trans {n : Nat} {a b c : Nat → Nat} (h1 : lexgt n a b) (h2 : lexgt n b c) : lexgt n a c := by
  obtain ⟨j, hj, e1, l1⟩ := h1
  obtain ⟨k, hk, e2, l2⟩ := h2
  rcases Nat.lt_trichotomy j k with h | h | h
  · exact ⟨j, hj, fun i hi => by rw [e1 i hi, e2 i (by omega)], by rw [← e2 j h]; exact l1⟩
  · subst h
    exact ⟨j, hj, fun i hi => by rw [e1 i hi, e2 i hi], by omega⟩
  · exact ⟨k, hk, fun i hi => by rw [e1 i (by omega), e2 i hi], by rw [e1 k h]; exact l2⟩
theorem lexgt.eqR {n : Nat} {a b c : Nat → Nat} (h1 : lexgt n a b) (h2 : eqto n b c) : lexgt n a c := by
  obtain ⟨j, hj, e1, l1⟩ := h1
  exact ⟨j, hj, fun i hi => by rw [e1 i hi, h2 i (by omega)], by rw [← h2 j hj]; exact l1⟩
theorem lexgt.irrefl {n : Nat} {a b : Nat → Nat} (h1 : lexgt n a b) (h2 : eqto n a b) : False := by
  obtain ⟨j, hj, e1, l1⟩ := h1
  have := h2 j hj
  omega
theorem better.eqR {pi : Nat → Nat} {n : Nat} {a b c : Nat → Nat} (h1 : better pi n a b) (h2 : eqto n b c) : better pi n a c := by
  have e1 : psum pi b n = psum pi c n := psum_congr h2
  have e2 := h2.sum
  rcases h1 with h | ⟨h, h3 | ⟨h3, h4⟩⟩
  · exact Or.inl (by omega)
  · exact Or.inr ⟨by omega, Or.inl (by omega)⟩
  · exact Or.inr ⟨by omega, Or.inr ⟨by omega, h4.eqR h2⟩⟩
theorem better.trans {pi : Nat → Nat} {n : Nat} {a b c : Nat → Nat} (h1 : better pi n a b) (h2 : better pi n b c) : better pi n a c := by
  rcases h1 with h | ⟨h, h3 | ⟨h3, h4⟩⟩ <;> rcases h2 with g | ⟨g, g3 | ⟨g3, g4⟩⟩
  · exact Or.inl (by omega)
  · exact Or.inl (by omega)
  · exact Or.inl (by omega)
  · exact Or.inl (by omega)
  · exact Or.inr ⟨by omega, Or.inl (by omega)⟩
  · exact Or.inr ⟨by omega, Or.inl (by omega)⟩
  · exact Or.inl (by omega)
  · exact Or.inr ⟨by omega, Or.inl (by omega)⟩
  · exact Or.inr ⟨by omega, Or.inr ⟨by omega, h4.trans g4⟩⟩
theorem better.irrefl {pi : Nat → Nat} {n : Nat} {a b : Nat → Nat} (h1 : better pi n a b) (h2 : eqto n a b) : False := by
  have e1 : psum pi a n = psum pi b n := psum_congr h2
  have e2 := h2.sum
  rcases h1 with h | ⟨h, h3 | ⟨h3, h4⟩⟩
  · omega
  · omega
  · exact h4.irrefl h2
/-- the best one: there is one at most -/
def IsBest (pi st : Nat → Nat) (room : Int) (most cnt : Nat) (b : Nat → Nat) : Prop := Fe pi st room most cnt b ∧ ∀ c, Fe pi st room most cnt c → Beq pi cnt b c
theorem IsBest.uniq {pi st : Nat → Nat} {room : Int} {most cnt : Nat} {a b : Nat → Nat} (h1 : IsBest pi st room most cnt a) (h2 : IsBest pi st room most cnt b) : eqto cnt a b := by
  rcases h1.2 b h2.1 with h | h
  · exact h
  · rcases h2.2 a h1.1 with g | g
    · exact fun i hi => (g i hi).symm
    · exact absurd (fun i _ => rfl) (fun q => (h.trans g).irrefl q)
/-! the search: bestSum, bestStrips, bestCounts, counts -/
abbrev PS : Type := Nat × Nat × (Nat → Nat) × (Nat → Nat)
def cpy5 (f g : Nat → Nat) : Nat → Nat := fun j => if j < 5 then f j else g j
def keepP (s n : Nat) (q : PS) : PS := if q.1 < s ∨ (s = q.1 ∧ n < q.2.1) then (s, n, cpy5 q.2.2.2 q.2.2.1, q.2.2.2) else q
def downP (f : Nat → PS → PS) : Nat → PS → PS
  | 0, q => f 0 q
  | n + 1, q => downP f n (f (n + 1) q)
def tcP (pi st pf : Nat → Nat) (room : Int) (most : Nat) : Nat → Nat → Nat → Nat → PS → PS
  | 0, _, sum, strips, q => keepP sum strips q
  | k + 1, w, sum, strips, q => if sum + pf w < q.1 then q else downP (fun n q => if ((sum + n * pi w : Nat) : Int) ≤ room ∧ strips + n ≤ most then tcP pi st pf room most k (w + 1) (sum + n * pi w) (strips + n) (q.1, q.2.1, q.2.2.1, up q.2.2.2 w n) else q) (st w) q
/-- the best so far, of those seen -/
def BO (pi st : Nat → Nat) (room : Int) (most cnt : Nat) (V : (Nat → Nat) → Prop) (q : PS) : Prop :=
  (q.1 = psum pi q.2.2.1 cnt ∧ q.2.1 = sumN q.2.2.1 cnt ∧ ((Fe pi st room most cnt q.2.2.1 ∧ V q.2.2.1) ∨ ∀ i, i < cnt → q.2.2.1 i = 0)) ∧ ∀ c, Fe pi st room most cnt c → V c → Beq pi cnt q.2.2.1 c
theorem sumN_zero {f : Nat → Nat} : ∀ {n : Nat}, sumN f n = 0 → ∀ i, i < n → f i = 0
  | 0, _, i, hi => absurd hi (Nat.not_lt_zero i)
  | n + 1, h, i, hi => by
    rw [sumN] at h
    by_cases e : i = n
    · subst e
      omega
    · exact sumN_zero (n := n) (by omega) i (by omega)
theorem sumN_zeros {f : Nat → Nat} : ∀ {n : Nat}, (∀ i, i < n → f i = 0) → sumN f n = 0
  | 0, _ => rfl
  | n + 1, h => by rw [sumN, sumN_zeros (fun i hi => h i (by omega)), h n (by omega)]
theorem BO.mono {pi st : Nat → Nat} {room : Int} {most cnt : Nat} {V V' : (Nat → Nat) → Prop} {q : PS} (h : BO pi st room most cnt V q) (h1 : ∀ c, V c → V' c) (h2 : ∀ c, Fe pi st room most cnt c → V' c → V c ∨ Beq pi cnt q.2.2.1 c) : BO pi st room most cnt V' q := by
  obtain ⟨⟨a, b, d⟩, f⟩ := h
  refine ⟨⟨a, b, ?_⟩, ?_⟩
  · rcases d with ⟨x, y⟩ | d
    · exact Or.inl ⟨x, h1 _ y⟩
    · exact Or.inr d
  · intro c hc hv
    rcases h2 c hc hv with g | g
    · exact f c hc g
    · exact g
theorem keepP_ct (s n : Nat) (q : PS) : (keepP s n q).2.2.2 = q.2.2.2 := by
  unfold keepP
  split <;> rfl
theorem keepP_BO {pi st : Nat → Nat} {room : Int} {most cnt : Nat} {V : (Nat → Nat) → Prop} {q : PS} (hc5 : cnt ≤ 5) (h : BO pi st room most cnt V q) (hf : Fe pi st room most cnt q.2.2.2)
    (hV : ∀ c, V c → lexgt cnt c q.2.2.2) : BO pi st room most cnt (fun c => V c ∨ eqto cnt c q.2.2.2) (keepP (psum pi q.2.2.2 cnt) (sumN q.2.2.2 cnt) q) := by
  obtain ⟨bs, bn, bc, ct⟩ := q
  obtain ⟨⟨a, b, d⟩, f⟩ := id h
  dsimp only at a b d f hf hV ⊢
  have hcp : eqto cnt (cpy5 ct bc) ct := fun i hi => by unfold cpy5; rw [if_pos (by omega)]
  unfold keepP
  dsimp only
  split
  · rename_i hif
    have e1 : psum pi (cpy5 ct bc) cnt = psum pi ct cnt := psum_congr hcp
    have e2 := hcp.sum
    refine ⟨⟨e1.symm, e2.symm, Or.inl ⟨⟨fun i hi => by show cpy5 ct bc i ≤ st i; rw [hcp i hi]; exact hf.1 i hi, by show ((psum pi (cpy5 ct bc) cnt : Nat) : Int) ≤ room; rw [e1]; exact hf.2.1, by show sumN (cpy5 ct bc) cnt ≤ most; rw [e2]; exact hf.2.2⟩, Or.inr hcp⟩⟩, ?_⟩
    intro c hc hv
    dsimp only
    have hb : better pi cnt (cpy5 ct bc) bc := by
      rcases hif with g | ⟨g1, g2⟩
      · exact Or.inl (by omega)
      · exact Or.inr ⟨by omega, Or.inl (by omega)⟩
    rcases hv with hv | hv
    · rcases f c hc hv with g | g
      · exact Or.inr (hb.eqR g)
      · exact Or.inr (hb.trans g)
    · exact Or.inl (fun i hi => by rw [hcp i hi, hv i hi])
  · rename_i hif
    refine h.mono (fun c hc => Or.inl hc) ?_
    intro c hc hv
    rcases hv with hv | hv
    · exact Or.inl hv
    refine Or.inr ?_
    dsimp only
    have e1 : psum pi c cnt = psum pi ct cnt := psum_congr hv
    have e2 := hv.sum
    have hn : ¬ bs < psum pi ct cnt := fun q => hif (Or.inl q)
    by_cases g1 : psum pi ct cnt = bs
    · have hn2 : ¬ sumN ct cnt < bn := fun q => hif (Or.inr ⟨g1, q⟩)
      by_cases g2 : bn < sumN ct cnt
      · exact Or.inr (Or.inr ⟨by omega, Or.inl (by omega)⟩)
      · rcases d with ⟨x, y⟩ | d
        · exact Or.inr (Or.inr ⟨by omega, Or.inr ⟨by omega, (hV _ y).eqR (fun i hi => (hv i hi).symm)⟩⟩)
        · have z := sumN_zeros d
          exact Or.inl (fun i hi => by rw [d i hi, sumN_zero (f := c) (n := cnt) (by omega) i hi])
    · exact Or.inr (Or.inl (by omega))
theorem sumN_mono {f : Nat → Nat} {a b : Nat} (h : a ≤ b) : sumN f a ≤ sumN f b := by
  induction b with
  | zero => rw [show a = 0 by omega]; exact Nat.le_refl _
  | succ b ih =>
    by_cases e : a = b + 1
    · rw [e]; exact Nat.le_refl _
    · have := ih (by omega)
      rw [sumN]
      omega
theorem psum_up (pi ct : Nat → Nat) (w n : Nat) : psum pi (up ct w n) (w + 1) = psum pi ct w + n * pi w := by
  have h : psum pi (up ct w n) w = psum pi ct w := psum_congr (fun i hi => up_n ct n (by omega))
  show sumN _ w + up ct w n w * pi w = _
  rw [up_s]
  show psum pi (up ct w n) w + n * pi w = _
  rw [h]
theorem sumN_up (ct : Nat → Nat) (w n : Nat) : sumN (up ct w n) (w + 1) = sumN ct w + n := by
  have h : sumN (up ct w n) w = sumN ct w := sumN_congr (fun i hi => up_n ct n (by omega))
  rw [sumN, up_s, h]
theorem downP_ind {P : Nat → PS → Prop} {f : Nat → PS → PS} (hs : ∀ n q, P (n + 1) q → P n (f n q)) : ∀ n q, P (n + 1) q → P 0 (downP f n q)
  | 0, q, h => hs 0 q h
  | n + 1, q, h => downP_ind hs n _ (hs (n + 1) q h)
/-- the search sees all: what it keeps is the best of those seen before and of all with this beginning -/
theorem tcP_BO {pi st pf : Nat → Nat} {room : Int} {most cnt : Nat} (hc5 : cnt ≤ 5) (hpf : ∀ w, w < cnt → ∀ c : Nat → Nat, (∀ i, i < cnt → c i ≤ st i) → psum pi c cnt ≤ psum pi c w + pf w) :
    ∀ (k w : Nat) (q : PS) (V : (Nat → Nat) → Prop) (sum strips : Nat), w + k = cnt → (∀ i, i < w → q.2.2.2 i ≤ st i) → sum = psum pi q.2.2.2 w → strips = sumN q.2.2.2 w → ((sum : Nat) : Int) ≤ room → strips ≤ most → BO pi st room most cnt V q →
      (∀ c, V c → ∃ j, j < w ∧ (∀ i, i < j → c i = q.2.2.2 i) ∧ q.2.2.2 j < c j) →
      BO pi st room most cnt (fun c => V c ∨ eqto w c q.2.2.2) (tcP pi st pf room most k w sum strips q) ∧ eqto w (tcP pi st pf room most k w sum strips q).2.2.2 q.2.2.2 := by
  intro k
  induction k with
  | zero =>
    intro w q V sum strips hw hst hsum hstr hroom hmost hB hV
    have e : w = cnt := by omega
    subst e
    subst hsum; subst hstr
    rw [tcP]
    refine ⟨keepP_BO hc5 hB ⟨hst, hroom, hmost⟩ hV, ?_⟩
    rw [keepP_ct]
    exact fun i _ => rfl
  | succ k ih =>
    intro w q V sum strips hw hst hsum hstr hroom hmost hB hV
    have hwc : w < cnt := by omega
    rw [tcP]
    split
    · rename_i hpr
      refine ⟨hB.mono (fun c h => Or.inl h) ?_, fun i _ => rfl⟩
      intro c hc hv
      rcases hv with hv | hv
      · exact Or.inl hv
      · refine Or.inr (Or.inr (Or.inl ?_))
        have h1 := hpf w hwc c hc.1
        have h2 : psum pi c w = psum pi q.2.2.2 w := psum_congr hv
        have h3 := hB.1.1
        omega
    · have key : ∀ n q1, (BO pi st room most cnt (fun c => V c ∨ (eqto w c q.2.2.2 ∧ n + 1 ≤ c w)) q1 ∧ eqto w q1.2.2.2 q.2.2.2) → n ≤ st w →
          (BO pi st room most cnt (fun c => V c ∨ (eqto w c q.2.2.2 ∧ n ≤ c w)) (if ((sum + n * pi w : Nat) : Int) ≤ room ∧ strips + n ≤ most then tcP pi st pf room most k (w + 1) (sum + n * pi w) (strips + n) (q1.1, q1.2.1, q1.2.2.1, up q1.2.2.2 w n) else q1) ∧ eqto w (if ((sum + n * pi w : Nat) : Int) ≤ room ∧ strips + n ≤ most then tcP pi st pf room most k (w + 1) (sum + n * pi w) (strips + n) (q1.1, q1.2.1, q1.2.2.1, up q1.2.2.2 w n) else q1).2.2.2 q.2.2.2) := by
        intro n q1 h1 hn
        obtain ⟨hB1, hE1⟩ := h1
        have es : psum pi q1.2.2.2 w = sum := by rw [hsum]; exact psum_congr hE1
        have et : sumN q1.2.2.2 w = strips := by rw [hstr]; exact hE1.sum
        split
        · rename_i hif
          obtain ⟨r1, r2⟩ := ih (w + 1) (q1.1, q1.2.1, q1.2.2.1, up q1.2.2.2 w n) (fun c => V c ∨ (eqto w c q.2.2.2 ∧ n + 1 ≤ c w)) (sum + n * pi w) (strips + n) (by omega)
            (fun i hi => by
              show up q1.2.2.2 w n i ≤ st i
              by_cases e : i = w
              · subst e; rw [up_s]; exact hn
              · rw [up_n _ _ e, hE1 i (by omega)]; exact hst i (by omega))
            (by show _ = psum pi (up q1.2.2.2 w n) (w + 1); rw [psum_up, es])
            (by show _ = sumN (up q1.2.2.2 w n) (w + 1); rw [sumN_up, et])
            hif.1 hif.2 hB1
            (fun c hv => by
              rcases hv with hv | ⟨hv, hg⟩
              · obtain ⟨j, hj, e1, l1⟩ := hV c hv
                refine ⟨j, by omega, fun i hi => ?_, ?_⟩
                · show c i = up q1.2.2.2 w n i
                  rw [up_n _ _ (by omega), hE1 i (by omega)]; exact e1 i hi
                · show up q1.2.2.2 w n j < c j
                  rw [up_n _ _ (by omega), hE1 j (by omega)]; exact l1
              · refine ⟨w, by omega, fun i hi => ?_, ?_⟩
                · show c i = up q1.2.2.2 w n i
                  rw [up_n _ _ (by omega), hE1 i hi]; exact hv i hi
                · show up q1.2.2.2 w n w < c w
                  rw [up_s]; omega)
          refine ⟨r1.mono ?_ ?_, ?_⟩
          · intro c hv
            rcases hv with (hv | ⟨hv, hg⟩) | hv
            · exact Or.inl hv
            · exact Or.inr ⟨hv, by omega⟩
            · refine Or.inr ⟨fun i hi => ?_, ?_⟩
              · have := hv i (by omega)
                rw [this]
                show up q1.2.2.2 w n i = _
                rw [up_n _ _ (by omega), hE1 i hi]
              · have := hv w (by omega)
                rw [this]
                show n ≤ up q1.2.2.2 w n w
                rw [up_s]
                exact Nat.le_refl n
          · intro c hc hv
            refine Or.inl ?_
            rcases hv with hv | ⟨hv, hg⟩
            · exact Or.inl (Or.inl hv)
            · by_cases e : c w = n
              · refine Or.inr (fun i hi => ?_)
                show c i = up q1.2.2.2 w n i
                by_cases e2 : i = w
                · subst e2; rw [up_s, e]
                · rw [up_n _ _ e2, hE1 i (by omega)]; exact hv i (by omega)
              · exact Or.inl (Or.inr ⟨hv, by omega⟩)
          · intro i hi
            have := r2 i (by omega)
            rw [this]
            show up q1.2.2.2 w n i = _
            rw [up_n _ _ (by omega), hE1 i hi]
        · rename_i hif
          refine ⟨hB1.mono ?_ ?_, hE1⟩
          · intro c hv
            rcases hv with hv | ⟨hv, hg⟩
            · exact Or.inl hv
            · exact Or.inr ⟨hv, by omega⟩
          · intro c hc hv
            rcases hv with hv | ⟨hv, hg⟩
            · exact Or.inl (Or.inl hv)
            · by_cases e : c w = n
              · exfalso
                apply hif
                have m1 : psum pi c (w + 1) ≤ psum pi c cnt := sumN_mono (by omega)
                have m2 : sumN c (w + 1) ≤ sumN c cnt := sumN_mono (by omega)
                have m3 : psum pi c (w + 1) = psum pi c w + n * pi w := by
                  show sumN _ w + c w * pi w = _
                  rw [e]
                  rfl
                have m4 : sumN c (w + 1) = sumN c w + n := by rw [sumN, e]
                have m5 : psum pi c w = sum := by rw [hsum]; exact psum_congr hv
                have m6 : sumN c w = strips := by rw [hstr]; exact hv.sum
                have m7 := hc.2.1
                have m8 := hc.2.2
                constructor
                · omega
                · omega
              · exact Or.inl (Or.inr ⟨hv, by omega⟩)
      have fin := (downP_ind (P := fun n q1 => n ≤ st w + 1 ∧ (BO pi st room most cnt (fun c => V c ∨ (eqto w c q.2.2.2 ∧ n ≤ c w)) q1 ∧ eqto w q1.2.2.2 q.2.2.2))
        (f := fun n q1 => if ((sum + n * pi w : Nat) : Int) ≤ room ∧ strips + n ≤ most then tcP pi st pf room most k (w + 1) (sum + n * pi w) (strips + n) (q1.1, q1.2.1, q1.2.2.1, up q1.2.2.2 w n) else q1)
        (fun n q1 h => ⟨by omega, key n q1 h.2 (by omega)⟩) (st w) q
        ⟨Nat.le_refl _, hB.mono (fun c h => Or.inl h) (fun c hc hv => by
          rcases hv with hv | ⟨hv, hg⟩
          · exact Or.inl hv
          · have := hc.1 w hwc
            omega), fun i _ => rfl⟩).2
      refine ⟨fin.1.mono ?_ ?_, fin.2⟩
      · intro c hv
        rcases hv with hv | ⟨hv, hg⟩
        · exact Or.inl hv
        · exact Or.inr hv
      · intro c hc hv
        refine Or.inl ?_
        rcases hv with hv | hv
        · exact Or.inl hv
        · exact Or.inr ⟨hv, Nat.zero_le _⟩
end
section
/-- the weight of strip k -/
def wt (kg wd lf : Nat) (bg en : Nat → Nat) (k : Nat) : Nat := kg * (lf + en k) / wd - kg * (lf + bg k) / wd
/-- past the places below x, none is x, if the next one is above it -/
theorem rise_lt {f : Nat → Nat} {n : Nat} (h : ∀ i, i + 1 < n → f i < f (i + 1)) : ∀ {i j : Nat}, i < j → j < n → f i < f j := by
  intro i j hij
  induction j with
  | zero => omega
  | succ j ih =>
    intro hj
    by_cases e : i = j
    · subst e
      exact h i hj
    · have := ih (by omega) (by omega)
      have := h j hj
      omega
theorem pn_out {kp' : Nat → Nat} {kc' lf' a x : Nat} (h4 : ∀ i, i + 1 < kc' → kp' i < kp' (i + 1)) (hlo : ∀ j, j < a → lf' + kp' j < x) (hx : kc' ≤ a ∨ x < lf' + kp' a) : ¬ ∃ j, j < kc' ∧ (fun y => lf' + kp' y) j = x := by
  rintro ⟨j, hj, e⟩
  have e : lf' + kp' j = x := e
  by_cases h : j < a
  · have := hlo j h
    omega
  · rcases hx with hx | hx
    · omega
    · by_cases e2 : j = a
      · subst e2
        omega
      · have := rise_lt h4 (show a < j by omega) hj
        omega
theorem d_SU_init_0 : decode b_SU_init 0 = .ok (.aload_n 0, 1) := by decide +kernel
theorem d_SU_init_1 : decode b_SU_init 1 = .ok (.invokespecial 3, 3) := by decide +kernel
theorem d_SU_init_4 : decode b_SU_init 4 = .ok (.aload_n 0, 1) := by decide +kernel
theorem d_SU_init_5 : decode b_SU_init 5 = .ok (.bipush 30, 2) := by decide +kernel
theorem d_SU_init_7 : decode b_SU_init 7 = .ok (.newarray .int, 2) := by decide +kernel
theorem d_SU_init_9 : decode b_SU_init 9 = .ok (.putfield 9, 3) := by decide +kernel
theorem d_SU_init_12 : decode b_SU_init 12 = .ok (.aload_n 0, 1) := by decide +kernel
theorem d_SU_init_13 : decode b_SU_init 13 = .ok (.bipush 30, 2) := by decide +kernel
theorem d_SU_init_15 : decode b_SU_init 15 = .ok (.newarray .int, 2) := by decide +kernel
theorem d_SU_init_17 : decode b_SU_init 17 = .ok (.putfield 15, 3) := by decide +kernel
theorem d_SU_init_20 : decode b_SU_init 20 = .ok (.aload_n 0, 1) := by decide +kernel
theorem d_SU_init_21 : decode b_SU_init 21 = .ok (.bipush 30, 2) := by decide +kernel
theorem d_SU_init_23 : decode b_SU_init 23 = .ok (.newarray .int, 2) := by decide +kernel
theorem d_SU_init_25 : decode b_SU_init 25 = .ok (.putfield 18, 3) := by decide +kernel
theorem d_SU_init_28 : decode b_SU_init 28 = .ok (.aload_n 0, 1) := by decide +kernel
theorem d_SU_init_29 : decode b_SU_init 29 = .ok (.iconst 0, 1) := by decide +kernel
theorem d_SU_init_30 : decode b_SU_init 30 = .ok (.putfield 21, 3) := by decide +kernel
theorem d_SU_init_33 : decode b_SU_init 33 = .ok (.aload_n 0, 1) := by decide +kernel
theorem d_SU_init_34 : decode b_SU_init 34 = .ok (.iconst 0, 1) := by decide +kernel
theorem d_SU_init_35 : decode b_SU_init 35 = .ok (.putfield 25, 3) := by decide +kernel
theorem d_SU_init_38 : decode b_SU_init 38 = .ok (.aload_n 0, 1) := by decide +kernel
theorem d_SU_init_39 : decode b_SU_init 39 = .ok (.bipush 60, 2) := by decide +kernel
theorem d_SU_init_41 : decode b_SU_init 41 = .ok (.newarray .int, 2) := by decide +kernel
theorem d_SU_init_43 : decode b_SU_init 43 = .ok (.putfield 28, 3) := by decide +kernel
theorem d_SU_init_46 : decode b_SU_init 46 = .ok (.aload_n 0, 1) := by decide +kernel
theorem d_SU_init_47 : decode b_SU_init 47 = .ok (.iconst 0, 1) := by decide +kernel
theorem d_SU_init_48 : decode b_SU_init 48 = .ok (.putfield 31, 3) := by decide +kernel
theorem d_SU_init_51 : decode b_SU_init 51 = .ok (.aload_n 0, 1) := by decide +kernel
theorem d_SU_init_52 : decode b_SU_init 52 = .ok (.iconst 0, 1) := by decide +kernel
theorem d_SU_init_53 : decode b_SU_init 53 = .ok (.putfield 34, 3) := by decide +kernel
theorem d_SU_init_56 : decode b_SU_init 56 = .ok (.aload_n 0, 1) := by decide +kernel
theorem d_SU_init_57 : decode b_SU_init 57 = .ok (.iconst 0, 1) := by decide +kernel
theorem d_SU_init_58 : decode b_SU_init 58 = .ok (.putfield 37, 3) := by decide +kernel
theorem d_SU_init_61 : decode b_SU_init 61 = .ok (.aload_n 0, 1) := by decide +kernel
theorem d_SU_init_62 : decode b_SU_init 62 = .ok (.iconst 0, 1) := by decide +kernel
theorem d_SU_init_63 : decode b_SU_init 63 = .ok (.putfield 40, 3) := by decide +kernel
theorem d_SU_init_66 : decode b_SU_init 66 = .ok (.aload_n 0, 1) := by decide +kernel
theorem d_SU_init_67 : decode b_SU_init 67 = .ok (.iconst 0, 1) := by decide +kernel
theorem d_SU_init_68 : decode b_SU_init 68 = .ok (.putfield 43, 3) := by decide +kernel
theorem d_SU_init_71 : decode b_SU_init 71 = .ok (.return_, 1) := by decide +kernel
theorem d_SU_make_0 : decode b_SU_make 0 = .ok (.aload_n 0, 1) := by decide +kernel
theorem d_SU_make_1 : decode b_SU_make 1 = .ok (.aload_n 1, 1) := by decide +kernel
theorem d_SU_make_2 : decode b_SU_make 2 = .ok (.getfield 46, 3) := by decide +kernel
theorem d_SU_make_5 : decode b_SU_make 5 = .ok (.putfield 34, 3) := by decide +kernel
theorem d_SU_make_8 : decode b_SU_make 8 = .ok (.aload_n 0, 1) := by decide +kernel
theorem d_SU_make_9 : decode b_SU_make 9 = .ok (.aload_n 1, 1) := by decide +kernel
theorem d_SU_make_10 : decode b_SU_make 10 = .ok (.getfield 49, 3) := by decide +kernel
theorem d_SU_make_13 : decode b_SU_make 13 = .ok (.putfield 37, 3) := by decide +kernel
theorem d_SU_make_16 : decode b_SU_make 16 = .ok (.aload_n 0, 1) := by decide +kernel
theorem d_SU_make_17 : decode b_SU_make 17 = .ok (.aload_n 1, 1) := by decide +kernel
theorem d_SU_make_18 : decode b_SU_make 18 = .ok (.getfield 50, 3) := by decide +kernel
theorem d_SU_make_21 : decode b_SU_make 21 = .ok (.putfield 40, 3) := by decide +kernel
theorem d_SU_make_24 : decode b_SU_make 24 = .ok (.aload_n 0, 1) := by decide +kernel
theorem d_SU_make_25 : decode b_SU_make 25 = .ok (.aload_n 1, 1) := by decide +kernel
theorem d_SU_make_26 : decode b_SU_make 26 = .ok (.getfield 50, 3) := by decide +kernel
theorem d_SU_make_29 : decode b_SU_make 29 = .ok (.putfield 25, 3) := by decide +kernel
theorem d_SU_make_32 : decode b_SU_make 32 = .ok (.aload_n 0, 1) := by decide +kernel
theorem d_SU_make_33 : decode b_SU_make 33 = .ok (.aload_n 3, 1) := by decide +kernel
theorem d_SU_make_34 : decode b_SU_make 34 = .ok (.getfield 51, 3) := by decide +kernel
theorem d_SU_make_37 : decode b_SU_make 37 = .ok (.putfield 43, 3) := by decide +kernel
theorem d_SU_make_40 : decode b_SU_make 40 = .ok (.aload_n 0, 1) := by decide +kernel
theorem d_SU_make_41 : decode b_SU_make 41 = .ok (.iconst 0, 1) := by decide +kernel
theorem d_SU_make_42 : decode b_SU_make 42 = .ok (.putfield 21, 3) := by decide +kernel
theorem d_SU_make_45 : decode b_SU_make 45 = .ok (.aload_n 0, 1) := by decide +kernel
theorem d_SU_make_46 : decode b_SU_make 46 = .ok (.iconst 0, 1) := by decide +kernel
theorem d_SU_make_47 : decode b_SU_make 47 = .ok (.putfield 31, 3) := by decide +kernel
theorem d_SU_make_50 : decode b_SU_make 50 = .ok (.iconst 0, 1) := by decide +kernel
theorem d_SU_make_51 : decode b_SU_make 51 = .ok (.istore 4, 2) := by decide +kernel
theorem d_SU_make_53 : decode b_SU_make 53 = .ok (.iconst 0, 1) := by decide +kernel
theorem d_SU_make_54 : decode b_SU_make 54 = .ok (.istore 5, 2) := by decide +kernel
theorem d_SU_make_56 : decode b_SU_make 56 = .ok (.iload 5, 2) := by decide +kernel
theorem d_SU_make_58 : decode b_SU_make 58 = .ok (.aload_n 2, 1) := by decide +kernel
theorem d_SU_make_59 : decode b_SU_make 59 = .ok (.getfield 56, 3) := by decide +kernel
theorem d_SU_make_62 : decode b_SU_make 62 = .ok (.if_icmp .ge (65), 3) := by decide +kernel
theorem d_SU_make_65 : decode b_SU_make 65 = .ok (.iconst 0, 1) := by decide +kernel
theorem d_SU_make_66 : decode b_SU_make 66 = .ok (.istore 6, 2) := by decide +kernel
theorem d_SU_make_68 : decode b_SU_make 68 = .ok (.iload 6, 2) := by decide +kernel
theorem d_SU_make_70 : decode b_SU_make 70 = .ok (.aload_n 3, 1) := by decide +kernel
theorem d_SU_make_71 : decode b_SU_make 71 = .ok (.getfield 61, 3) := by decide +kernel
theorem d_SU_make_74 : decode b_SU_make 74 = .ok (.iload 5, 2) := by decide +kernel
theorem d_SU_make_76 : decode b_SU_make 76 = .ok (.iaload, 1) := by decide +kernel
theorem d_SU_make_77 : decode b_SU_make 77 = .ok (.if_icmp .ge (44), 3) := by decide +kernel
theorem d_SU_make_80 : decode b_SU_make 80 = .ok (.aload_n 0, 1) := by decide +kernel
theorem d_SU_make_81 : decode b_SU_make 81 = .ok (.iload 5, 2) := by decide +kernel
theorem d_SU_make_83 : decode b_SU_make 83 = .ok (.iload 4, 2) := by decide +kernel
theorem d_SU_make_85 : decode b_SU_make 85 = .ok (.iload 4, 2) := by decide +kernel
theorem d_SU_make_87 : decode b_SU_make 87 = .ok (.aload_n 2, 1) := by decide +kernel
theorem d_SU_make_88 : decode b_SU_make 88 = .ok (.getfield 64, 3) := by decide +kernel
theorem d_SU_make_91 : decode b_SU_make 91 = .ok (.iload 5, 2) := by decide +kernel
theorem d_SU_make_93 : decode b_SU_make 93 = .ok (.iaload, 1) := by decide +kernel
theorem d_SU_make_94 : decode b_SU_make 94 = .ok (.iadd, 1) := by decide +kernel
theorem d_SU_make_95 : decode b_SU_make 95 = .ok (.invokevirtual 67, 3) := by decide +kernel
theorem d_SU_make_98 : decode b_SU_make 98 = .ok (.iload 4, 2) := by decide +kernel
theorem d_SU_make_100 : decode b_SU_make 100 = .ok (.aload_n 2, 1) := by decide +kernel
theorem d_SU_make_101 : decode b_SU_make 101 = .ok (.getfield 64, 3) := by decide +kernel
theorem d_SU_make_104 : decode b_SU_make 104 = .ok (.iload 5, 2) := by decide +kernel
theorem d_SU_make_106 : decode b_SU_make 106 = .ok (.iaload, 1) := by decide +kernel
theorem d_SU_make_107 : decode b_SU_make 107 = .ok (.aload_n 1, 1) := by decide +kernel
theorem d_SU_make_108 : decode b_SU_make 108 = .ok (.getfield 71, 3) := by decide +kernel
theorem d_SU_make_111 : decode b_SU_make 111 = .ok (.iadd, 1) := by decide +kernel
theorem d_SU_make_112 : decode b_SU_make 112 = .ok (.iadd, 1) := by decide +kernel
theorem d_SU_make_113 : decode b_SU_make 113 = .ok (.istore 4, 2) := by decide +kernel
theorem d_SU_make_115 : decode b_SU_make 115 = .ok (.iinc 6 1, 3) := by decide +kernel
theorem d_SU_make_118 : decode b_SU_make 118 = .ok (.goto (-50), 3) := by decide +kernel
theorem d_SU_make_121 : decode b_SU_make 121 = .ok (.iinc 5 1, 3) := by decide +kernel
theorem d_SU_make_124 : decode b_SU_make 124 = .ok (.goto (-68), 3) := by decide +kernel
theorem d_SU_make_127 : decode b_SU_make 127 = .ok (.return_, 1) := by decide +kernel
theorem d_SU_lay_0 : decode b_SU_lay 0 = .ok (.aload_n 0, 1) := by decide +kernel
theorem d_SU_lay_1 : decode b_SU_lay 1 = .ok (.getfield 21, 3) := by decide +kernel
theorem d_SU_lay_4 : decode b_SU_lay 4 = .ok (.bipush 30, 2) := by decide +kernel
theorem d_SU_lay_6 : decode b_SU_lay 6 = .ok (.if_icmp .lt (4), 3) := by decide +kernel
theorem d_SU_lay_9 : decode b_SU_lay 9 = .ok (.return_, 1) := by decide +kernel
theorem d_SU_lay_10 : decode b_SU_lay 10 = .ok (.aload_n 0, 1) := by decide +kernel
theorem d_SU_lay_11 : decode b_SU_lay 11 = .ok (.getfield 9, 3) := by decide +kernel
theorem d_SU_lay_14 : decode b_SU_lay 14 = .ok (.aload_n 0, 1) := by decide +kernel
theorem d_SU_lay_15 : decode b_SU_lay 15 = .ok (.getfield 21, 3) := by decide +kernel
theorem d_SU_lay_18 : decode b_SU_lay 18 = .ok (.iload_n 1, 1) := by decide +kernel
theorem d_SU_lay_19 : decode b_SU_lay 19 = .ok (.iastore, 1) := by decide +kernel
theorem d_SU_lay_20 : decode b_SU_lay 20 = .ok (.aload_n 0, 1) := by decide +kernel
theorem d_SU_lay_21 : decode b_SU_lay 21 = .ok (.getfield 15, 3) := by decide +kernel
theorem d_SU_lay_24 : decode b_SU_lay 24 = .ok (.aload_n 0, 1) := by decide +kernel
theorem d_SU_lay_25 : decode b_SU_lay 25 = .ok (.getfield 21, 3) := by decide +kernel
theorem d_SU_lay_28 : decode b_SU_lay 28 = .ok (.iload_n 2, 1) := by decide +kernel
theorem d_SU_lay_29 : decode b_SU_lay 29 = .ok (.iastore, 1) := by decide +kernel
theorem d_SU_lay_30 : decode b_SU_lay 30 = .ok (.aload_n 0, 1) := by decide +kernel
theorem d_SU_lay_31 : decode b_SU_lay 31 = .ok (.getfield 18, 3) := by decide +kernel
theorem d_SU_lay_34 : decode b_SU_lay 34 = .ok (.aload_n 0, 1) := by decide +kernel
theorem d_SU_lay_35 : decode b_SU_lay 35 = .ok (.getfield 21, 3) := by decide +kernel
theorem d_SU_lay_38 : decode b_SU_lay 38 = .ok (.iload_n 3, 1) := by decide +kernel
theorem d_SU_lay_39 : decode b_SU_lay 39 = .ok (.iastore, 1) := by decide +kernel
theorem d_SU_lay_40 : decode b_SU_lay 40 = .ok (.aload_n 0, 1) := by decide +kernel
theorem d_SU_lay_41 : decode b_SU_lay 41 = .ok (.dup, 1) := by decide +kernel
theorem d_SU_lay_42 : decode b_SU_lay 42 = .ok (.getfield 21, 3) := by decide +kernel
theorem d_SU_lay_45 : decode b_SU_lay 45 = .ok (.iconst 1, 1) := by decide +kernel
theorem d_SU_lay_46 : decode b_SU_lay 46 = .ok (.iadd, 1) := by decide +kernel
theorem d_SU_lay_47 : decode b_SU_lay 47 = .ok (.putfield 21, 3) := by decide +kernel
theorem d_SU_lay_50 : decode b_SU_lay 50 = .ok (.aload_n 0, 1) := by decide +kernel
theorem d_SU_lay_51 : decode b_SU_lay 51 = .ok (.iload_n 2, 1) := by decide +kernel
theorem d_SU_lay_52 : decode b_SU_lay 52 = .ok (.invokevirtual 74, 3) := by decide +kernel
theorem d_SU_lay_55 : decode b_SU_lay 55 = .ok (.aload_n 0, 1) := by decide +kernel
theorem d_SU_lay_56 : decode b_SU_lay 56 = .ok (.iload_n 3, 1) := by decide +kernel
theorem d_SU_lay_57 : decode b_SU_lay 57 = .ok (.invokevirtual 74, 3) := by decide +kernel
theorem d_SU_lay_60 : decode b_SU_lay 60 = .ok (.return_, 1) := by decide +kernel
theorem d_SU_setKnife_0 : decode b_SU_setKnife 0 = .ok (.aload_n 0, 1) := by decide +kernel
theorem d_SU_setKnife_1 : decode b_SU_setKnife 1 = .ok (.getfield 31, 3) := by decide +kernel
theorem d_SU_setKnife_4 : decode b_SU_setKnife 4 = .ok (.ifCond .le (22), 3) := by decide +kernel
theorem d_SU_setKnife_7 : decode b_SU_setKnife 7 = .ok (.aload_n 0, 1) := by decide +kernel
theorem d_SU_setKnife_8 : decode b_SU_setKnife 8 = .ok (.getfield 28, 3) := by decide +kernel
theorem d_SU_setKnife_11 : decode b_SU_setKnife 11 = .ok (.aload_n 0, 1) := by decide +kernel
theorem d_SU_setKnife_12 : decode b_SU_setKnife 12 = .ok (.getfield 31, 3) := by decide +kernel
theorem d_SU_setKnife_15 : decode b_SU_setKnife 15 = .ok (.iconst 1, 1) := by decide +kernel
theorem d_SU_setKnife_16 : decode b_SU_setKnife 16 = .ok (.isub, 1) := by decide +kernel
theorem d_SU_setKnife_17 : decode b_SU_setKnife 17 = .ok (.iaload, 1) := by decide +kernel
theorem d_SU_setKnife_18 : decode b_SU_setKnife 18 = .ok (.iload_n 1, 1) := by decide +kernel
theorem d_SU_setKnife_19 : decode b_SU_setKnife 19 = .ok (.if_icmp .ne (7), 3) := by decide +kernel
theorem d_SU_setKnife_22 : decode b_SU_setKnife 22 = .ok (.iconst 1, 1) := by decide +kernel
theorem d_SU_setKnife_23 : decode b_SU_setKnife 23 = .ok (.goto (4), 3) := by decide +kernel
theorem d_SU_setKnife_26 : decode b_SU_setKnife 26 = .ok (.iconst 0, 1) := by decide +kernel
theorem d_SU_setKnife_27 : decode b_SU_setKnife 27 = .ok (.istore_n 2, 1) := by decide +kernel
theorem d_SU_setKnife_28 : decode b_SU_setKnife 28 = .ok (.iload_n 2, 1) := by decide +kernel
theorem d_SU_setKnife_29 : decode b_SU_setKnife 29 = .ok (.ifCond .ne (35), 3) := by decide +kernel
theorem d_SU_setKnife_32 : decode b_SU_setKnife 32 = .ok (.aload_n 0, 1) := by decide +kernel
theorem d_SU_setKnife_33 : decode b_SU_setKnife 33 = .ok (.getfield 31, 3) := by decide +kernel
theorem d_SU_setKnife_36 : decode b_SU_setKnife 36 = .ok (.aload_n 0, 1) := by decide +kernel
theorem d_SU_setKnife_37 : decode b_SU_setKnife 37 = .ok (.getfield 28, 3) := by decide +kernel
theorem d_SU_setKnife_40 : decode b_SU_setKnife 40 = .ok (.arraylength, 1) := by decide +kernel
theorem d_SU_setKnife_41 : decode b_SU_setKnife 41 = .ok (.if_icmp .ge (23), 3) := by decide +kernel
theorem d_SU_setKnife_44 : decode b_SU_setKnife 44 = .ok (.aload_n 0, 1) := by decide +kernel
theorem d_SU_setKnife_45 : decode b_SU_setKnife 45 = .ok (.getfield 28, 3) := by decide +kernel
theorem d_SU_setKnife_48 : decode b_SU_setKnife 48 = .ok (.aload_n 0, 1) := by decide +kernel
theorem d_SU_setKnife_49 : decode b_SU_setKnife 49 = .ok (.getfield 31, 3) := by decide +kernel
theorem d_SU_setKnife_52 : decode b_SU_setKnife 52 = .ok (.iload_n 1, 1) := by decide +kernel
theorem d_SU_setKnife_53 : decode b_SU_setKnife 53 = .ok (.iastore, 1) := by decide +kernel
theorem d_SU_setKnife_54 : decode b_SU_setKnife 54 = .ok (.aload_n 0, 1) := by decide +kernel
theorem d_SU_setKnife_55 : decode b_SU_setKnife 55 = .ok (.dup, 1) := by decide +kernel
theorem d_SU_setKnife_56 : decode b_SU_setKnife 56 = .ok (.getfield 31, 3) := by decide +kernel
theorem d_SU_setKnife_59 : decode b_SU_setKnife 59 = .ok (.iconst 1, 1) := by decide +kernel
theorem d_SU_setKnife_60 : decode b_SU_setKnife 60 = .ok (.iadd, 1) := by decide +kernel
theorem d_SU_setKnife_61 : decode b_SU_setKnife 61 = .ok (.putfield 31, 3) := by decide +kernel
theorem d_SU_setKnife_64 : decode b_SU_setKnife 64 = .ok (.return_, 1) := by decide +kernel
theorem d_SU_placesNotIn_0 : decode b_SU_placesNotIn 0 = .ok (.iconst 0, 1) := by decide +kernel
theorem d_SU_placesNotIn_1 : decode b_SU_placesNotIn 1 = .ok (.istore_n 2, 1) := by decide +kernel
theorem d_SU_placesNotIn_2 : decode b_SU_placesNotIn 2 = .ok (.iconst 0, 1) := by decide +kernel
theorem d_SU_placesNotIn_3 : decode b_SU_placesNotIn 3 = .ok (.istore_n 3, 1) := by decide +kernel
theorem d_SU_placesNotIn_4 : decode b_SU_placesNotIn 4 = .ok (.iconst 0, 1) := by decide +kernel
theorem d_SU_placesNotIn_5 : decode b_SU_placesNotIn 5 = .ok (.istore 4, 2) := by decide +kernel
theorem d_SU_placesNotIn_7 : decode b_SU_placesNotIn 7 = .ok (.iload 4, 2) := by decide +kernel
theorem d_SU_placesNotIn_9 : decode b_SU_placesNotIn 9 = .ok (.aload_n 0, 1) := by decide +kernel
theorem d_SU_placesNotIn_10 : decode b_SU_placesNotIn 10 = .ok (.getfield 31, 3) := by decide +kernel
theorem d_SU_placesNotIn_13 : decode b_SU_placesNotIn 13 = .ok (.if_icmp .ge (80), 3) := by decide +kernel
theorem d_SU_placesNotIn_16 : decode b_SU_placesNotIn 16 = .ok (.aload_n 0, 1) := by decide +kernel
theorem d_SU_placesNotIn_17 : decode b_SU_placesNotIn 17 = .ok (.getfield 25, 3) := by decide +kernel
theorem d_SU_placesNotIn_20 : decode b_SU_placesNotIn 20 = .ok (.aload_n 0, 1) := by decide +kernel
theorem d_SU_placesNotIn_21 : decode b_SU_placesNotIn 21 = .ok (.getfield 28, 3) := by decide +kernel
theorem d_SU_placesNotIn_24 : decode b_SU_placesNotIn 24 = .ok (.iload 4, 2) := by decide +kernel
theorem d_SU_placesNotIn_26 : decode b_SU_placesNotIn 26 = .ok (.iaload, 1) := by decide +kernel
theorem d_SU_placesNotIn_27 : decode b_SU_placesNotIn 27 = .ok (.iadd, 1) := by decide +kernel
theorem d_SU_placesNotIn_28 : decode b_SU_placesNotIn 28 = .ok (.istore 5, 2) := by decide +kernel
theorem d_SU_placesNotIn_30 : decode b_SU_placesNotIn 30 = .ok (.iload_n 3, 1) := by decide +kernel
theorem d_SU_placesNotIn_31 : decode b_SU_placesNotIn 31 = .ok (.aload_n 1, 1) := by decide +kernel
theorem d_SU_placesNotIn_32 : decode b_SU_placesNotIn 32 = .ok (.getfield 31, 3) := by decide +kernel
theorem d_SU_placesNotIn_35 : decode b_SU_placesNotIn 35 = .ok (.if_icmp .ge (25), 3) := by decide +kernel
theorem d_SU_placesNotIn_38 : decode b_SU_placesNotIn 38 = .ok (.aload_n 1, 1) := by decide +kernel
theorem d_SU_placesNotIn_39 : decode b_SU_placesNotIn 39 = .ok (.getfield 25, 3) := by decide +kernel
theorem d_SU_placesNotIn_42 : decode b_SU_placesNotIn 42 = .ok (.aload_n 1, 1) := by decide +kernel
theorem d_SU_placesNotIn_43 : decode b_SU_placesNotIn 43 = .ok (.getfield 28, 3) := by decide +kernel
theorem d_SU_placesNotIn_46 : decode b_SU_placesNotIn 46 = .ok (.iload_n 3, 1) := by decide +kernel
theorem d_SU_placesNotIn_47 : decode b_SU_placesNotIn 47 = .ok (.iaload, 1) := by decide +kernel
theorem d_SU_placesNotIn_48 : decode b_SU_placesNotIn 48 = .ok (.iadd, 1) := by decide +kernel
theorem d_SU_placesNotIn_49 : decode b_SU_placesNotIn 49 = .ok (.iload 5, 2) := by decide +kernel
theorem d_SU_placesNotIn_51 : decode b_SU_placesNotIn 51 = .ok (.if_icmp .ge (9), 3) := by decide +kernel
theorem d_SU_placesNotIn_54 : decode b_SU_placesNotIn 54 = .ok (.iinc 3 1, 3) := by decide +kernel
theorem d_SU_placesNotIn_57 : decode b_SU_placesNotIn 57 = .ok (.goto (-27), 3) := by decide +kernel
theorem d_SU_placesNotIn_60 : decode b_SU_placesNotIn 60 = .ok (.iload_n 3, 1) := by decide +kernel
theorem d_SU_placesNotIn_61 : decode b_SU_placesNotIn 61 = .ok (.aload_n 1, 1) := by decide +kernel
theorem d_SU_placesNotIn_62 : decode b_SU_placesNotIn 62 = .ok (.getfield 31, 3) := by decide +kernel
theorem d_SU_placesNotIn_65 : decode b_SU_placesNotIn 65 = .ok (.if_icmp .ge (19), 3) := by decide +kernel
theorem d_SU_placesNotIn_68 : decode b_SU_placesNotIn 68 = .ok (.aload_n 1, 1) := by decide +kernel
theorem d_SU_placesNotIn_69 : decode b_SU_placesNotIn 69 = .ok (.getfield 25, 3) := by decide +kernel
theorem d_SU_placesNotIn_72 : decode b_SU_placesNotIn 72 = .ok (.aload_n 1, 1) := by decide +kernel
theorem d_SU_placesNotIn_73 : decode b_SU_placesNotIn 73 = .ok (.getfield 28, 3) := by decide +kernel
theorem d_SU_placesNotIn_76 : decode b_SU_placesNotIn 76 = .ok (.iload_n 3, 1) := by decide +kernel
theorem d_SU_placesNotIn_77 : decode b_SU_placesNotIn 77 = .ok (.iaload, 1) := by decide +kernel
theorem d_SU_placesNotIn_78 : decode b_SU_placesNotIn 78 = .ok (.iadd, 1) := by decide +kernel
theorem d_SU_placesNotIn_79 : decode b_SU_placesNotIn 79 = .ok (.iload 5, 2) := by decide +kernel
theorem d_SU_placesNotIn_81 : decode b_SU_placesNotIn 81 = .ok (.if_icmp .eq (6), 3) := by decide +kernel
theorem d_SU_placesNotIn_84 : decode b_SU_placesNotIn 84 = .ok (.iinc 2 1, 3) := by decide +kernel
theorem d_SU_placesNotIn_87 : decode b_SU_placesNotIn 87 = .ok (.iinc 4 1, 3) := by decide +kernel
theorem d_SU_placesNotIn_90 : decode b_SU_placesNotIn 90 = .ok (.goto (-83), 3) := by decide +kernel
theorem d_SU_placesNotIn_93 : decode b_SU_placesNotIn 93 = .ok (.iload_n 2, 1) := by decide +kernel
theorem d_SU_placesNotIn_94 : decode b_SU_placesNotIn 94 = .ok (.ireturn, 1) := by decide +kernel
theorem d_SU_stripWeight_0 : decode b_SU_stripWeight 0 = .ok (.aload_n 0, 1) := by decide +kernel
theorem d_SU_stripWeight_1 : decode b_SU_stripWeight 1 = .ok (.aload_n 0, 1) := by decide +kernel
theorem d_SU_stripWeight_2 : decode b_SU_stripWeight 2 = .ok (.getfield 25, 3) := by decide +kernel
theorem d_SU_stripWeight_5 : decode b_SU_stripWeight 5 = .ok (.aload_n 0, 1) := by decide +kernel
theorem d_SU_stripWeight_6 : decode b_SU_stripWeight 6 = .ok (.getfield 18, 3) := by decide +kernel
theorem d_SU_stripWeight_9 : decode b_SU_stripWeight 9 = .ok (.iload_n 1, 1) := by decide +kernel
theorem d_SU_stripWeight_10 : decode b_SU_stripWeight 10 = .ok (.iaload, 1) := by decide +kernel
theorem d_SU_stripWeight_11 : decode b_SU_stripWeight 11 = .ok (.iadd, 1) := by decide +kernel
theorem d_SU_stripWeight_12 : decode b_SU_stripWeight 12 = .ok (.invokevirtual 78, 3) := by decide +kernel
theorem d_SU_stripWeight_15 : decode b_SU_stripWeight 15 = .ok (.aload_n 0, 1) := by decide +kernel
theorem d_SU_stripWeight_16 : decode b_SU_stripWeight 16 = .ok (.aload_n 0, 1) := by decide +kernel
theorem d_SU_stripWeight_17 : decode b_SU_stripWeight 17 = .ok (.getfield 25, 3) := by decide +kernel
theorem d_SU_stripWeight_20 : decode b_SU_stripWeight 20 = .ok (.aload_n 0, 1) := by decide +kernel
theorem d_SU_stripWeight_21 : decode b_SU_stripWeight 21 = .ok (.getfield 15, 3) := by decide +kernel
theorem d_SU_stripWeight_24 : decode b_SU_stripWeight 24 = .ok (.iload_n 1, 1) := by decide +kernel
theorem d_SU_stripWeight_25 : decode b_SU_stripWeight 25 = .ok (.iaload, 1) := by decide +kernel
theorem d_SU_stripWeight_26 : decode b_SU_stripWeight 26 = .ok (.iadd, 1) := by decide +kernel
theorem d_SU_stripWeight_27 : decode b_SU_stripWeight 27 = .ok (.invokevirtual 78, 3) := by decide +kernel
theorem d_SU_stripWeight_30 : decode b_SU_stripWeight 30 = .ok (.isub, 1) := by decide +kernel
theorem d_SU_stripWeight_31 : decode b_SU_stripWeight 31 = .ok (.ireturn, 1) := by decide +kernel
theorem d_SU_scrapWeight_0 : decode b_SU_scrapWeight 0 = .ok (.aload_n 0, 1) := by decide +kernel
theorem d_SU_scrapWeight_1 : decode b_SU_scrapWeight 1 = .ok (.getfield 37, 3) := by decide +kernel
theorem d_SU_scrapWeight_4 : decode b_SU_scrapWeight 4 = .ok (.istore_n 1, 1) := by decide +kernel
theorem d_SU_scrapWeight_5 : decode b_SU_scrapWeight 5 = .ok (.iconst 0, 1) := by decide +kernel
theorem d_SU_scrapWeight_6 : decode b_SU_scrapWeight 6 = .ok (.istore_n 2, 1) := by decide +kernel
theorem d_SU_scrapWeight_7 : decode b_SU_scrapWeight 7 = .ok (.iload_n 2, 1) := by decide +kernel
theorem d_SU_scrapWeight_8 : decode b_SU_scrapWeight 8 = .ok (.aload_n 0, 1) := by decide +kernel
theorem d_SU_scrapWeight_9 : decode b_SU_scrapWeight 9 = .ok (.getfield 21, 3) := by decide +kernel
theorem d_SU_scrapWeight_12 : decode b_SU_scrapWeight 12 = .ok (.if_icmp .ge (17), 3) := by decide +kernel
theorem d_SU_scrapWeight_15 : decode b_SU_scrapWeight 15 = .ok (.iload_n 1, 1) := by decide +kernel
theorem d_SU_scrapWeight_16 : decode b_SU_scrapWeight 16 = .ok (.aload_n 0, 1) := by decide +kernel
theorem d_SU_scrapWeight_17 : decode b_SU_scrapWeight 17 = .ok (.iload_n 2, 1) := by decide +kernel
theorem d_SU_scrapWeight_18 : decode b_SU_scrapWeight 18 = .ok (.invokevirtual 82, 3) := by decide +kernel
theorem d_SU_scrapWeight_21 : decode b_SU_scrapWeight 21 = .ok (.isub, 1) := by decide +kernel
theorem d_SU_scrapWeight_22 : decode b_SU_scrapWeight 22 = .ok (.istore_n 1, 1) := by decide +kernel
theorem d_SU_scrapWeight_23 : decode b_SU_scrapWeight 23 = .ok (.iinc 2 1, 3) := by decide +kernel
theorem d_SU_scrapWeight_26 : decode b_SU_scrapWeight 26 = .ok (.goto (-19), 3) := by decide +kernel
theorem d_SU_scrapWeight_29 : decode b_SU_scrapWeight 29 = .ok (.iload_n 1, 1) := by decide +kernel
theorem d_SU_scrapWeight_30 : decode b_SU_scrapWeight 30 = .ok (.ireturn, 1) := by decide +kernel
theorem d_SU_kilosBefore_0 : decode b_SU_kilosBefore 0 = .ok (.aload_n 0, 1) := by decide +kernel
theorem d_SU_kilosBefore_1 : decode b_SU_kilosBefore 1 = .ok (.getfield 34, 3) := by decide +kernel
theorem d_SU_kilosBefore_4 : decode b_SU_kilosBefore 4 = .ok (.iconst 1, 1) := by decide +kernel
theorem d_SU_kilosBefore_5 : decode b_SU_kilosBefore 5 = .ok (.if_icmp .ge (7), 3) := by decide +kernel
theorem d_SU_kilosBefore_8 : decode b_SU_kilosBefore 8 = .ok (.iconst 0, 1) := by decide +kernel
theorem d_SU_kilosBefore_9 : decode b_SU_kilosBefore 9 = .ok (.goto (14), 3) := by decide +kernel
theorem d_SU_kilosBefore_12 : decode b_SU_kilosBefore 12 = .ok (.aload_n 0, 1) := by decide +kernel
theorem d_SU_kilosBefore_13 : decode b_SU_kilosBefore 13 = .ok (.getfield 37, 3) := by decide +kernel
theorem d_SU_kilosBefore_16 : decode b_SU_kilosBefore 16 = .ok (.iload_n 1, 1) := by decide +kernel
theorem d_SU_kilosBefore_17 : decode b_SU_kilosBefore 17 = .ok (.imul, 1) := by decide +kernel
theorem d_SU_kilosBefore_18 : decode b_SU_kilosBefore 18 = .ok (.aload_n 0, 1) := by decide +kernel
theorem d_SU_kilosBefore_19 : decode b_SU_kilosBefore 19 = .ok (.getfield 34, 3) := by decide +kernel
theorem d_SU_kilosBefore_22 : decode b_SU_kilosBefore 22 = .ok (.idiv, 1) := by decide +kernel
theorem d_SU_kilosBefore_23 : decode b_SU_kilosBefore 23 = .ok (.ireturn, 1) := by decide +kernel
theorem d_SU_leastSoundLeft_0 : decode b_SU_leastSoundLeft 0 = .ok (.aload_n 0, 1) := by decide +kernel
theorem d_SU_leastSoundLeft_1 : decode b_SU_leastSoundLeft 1 = .ok (.getfield 34, 3) := by decide +kernel
theorem d_SU_leastSoundLeft_4 : decode b_SU_leastSoundLeft 4 = .ok (.aload_n 0, 1) := by decide +kernel
theorem d_SU_leastSoundLeft_5 : decode b_SU_leastSoundLeft 5 = .ok (.getfield 40, 3) := by decide +kernel
theorem d_SU_leastSoundLeft_8 : decode b_SU_leastSoundLeft 8 = .ok (.isub, 1) := by decide +kernel
theorem d_SU_leastSoundLeft_9 : decode b_SU_leastSoundLeft 9 = .ok (.aload_n 0, 1) := by decide +kernel
theorem d_SU_leastSoundLeft_10 : decode b_SU_leastSoundLeft 10 = .ok (.getfield 43, 3) := by decide +kernel
theorem d_SU_leastSoundLeft_13 : decode b_SU_leastSoundLeft 13 = .ok (.isub, 1) := by decide +kernel
theorem d_SU_leastSoundLeft_14 : decode b_SU_leastSoundLeft 14 = .ok (.istore_n 2, 1) := by decide +kernel
theorem d_SU_leastSoundLeft_15 : decode b_SU_leastSoundLeft 15 = .ok (.aload_n 0, 1) := by decide +kernel
theorem d_SU_leastSoundLeft_16 : decode b_SU_leastSoundLeft 16 = .ok (.getfield 21, 3) := by decide +kernel
theorem d_SU_leastSoundLeft_19 : decode b_SU_leastSoundLeft 19 = .ok (.aload_n 1, 1) := by decide +kernel
theorem d_SU_leastSoundLeft_20 : decode b_SU_leastSoundLeft 20 = .ok (.getfield 85, 3) := by decide +kernel
theorem d_SU_leastSoundLeft_23 : decode b_SU_leastSoundLeft 23 = .ok (.imul, 1) := by decide +kernel
theorem d_SU_leastSoundLeft_24 : decode b_SU_leastSoundLeft 24 = .ok (.istore_n 3, 1) := by decide +kernel
theorem d_SU_leastSoundLeft_25 : decode b_SU_leastSoundLeft 25 = .ok (.aload_n 0, 1) := by decide +kernel
theorem d_SU_leastSoundLeft_26 : decode b_SU_leastSoundLeft 26 = .ok (.getfield 40, 3) := by decide +kernel
theorem d_SU_leastSoundLeft_29 : decode b_SU_leastSoundLeft 29 = .ok (.istore 4, 2) := by decide +kernel
theorem d_SU_leastSoundLeft_31 : decode b_SU_leastSoundLeft 31 = .ok (.iconst 0, 1) := by decide +kernel
theorem d_SU_leastSoundLeft_32 : decode b_SU_leastSoundLeft 32 = .ok (.istore 5, 2) := by decide +kernel
theorem d_SU_leastSoundLeft_34 : decode b_SU_leastSoundLeft 34 = .ok (.iload 5, 2) := by decide +kernel
theorem d_SU_leastSoundLeft_36 : decode b_SU_leastSoundLeft 36 = .ok (.iload_n 3, 1) := by decide +kernel
theorem d_SU_leastSoundLeft_37 : decode b_SU_leastSoundLeft 37 = .ok (.if_icmp .gt (38), 3) := by decide +kernel
theorem d_SU_leastSoundLeft_40 : decode b_SU_leastSoundLeft 40 = .ok (.iload 4, 2) := by decide +kernel
theorem d_SU_leastSoundLeft_42 : decode b_SU_leastSoundLeft 42 = .ok (.iload_n 2, 1) := by decide +kernel
theorem d_SU_leastSoundLeft_43 : decode b_SU_leastSoundLeft 43 = .ok (.if_icmp .gt (32), 3) := by decide +kernel
theorem d_SU_leastSoundLeft_46 : decode b_SU_leastSoundLeft 46 = .ok (.aload_n 0, 1) := by decide +kernel
theorem d_SU_leastSoundLeft_47 : decode b_SU_leastSoundLeft 47 = .ok (.aload_n 1, 1) := by decide +kernel
theorem d_SU_leastSoundLeft_48 : decode b_SU_leastSoundLeft 48 = .ok (.iload 4, 2) := by decide +kernel
theorem d_SU_leastSoundLeft_50 : decode b_SU_leastSoundLeft 50 = .ok (.invokevirtual 88, 3) := by decide +kernel
theorem d_SU_leastSoundLeft_53 : decode b_SU_leastSoundLeft 53 = .ok (.istore 6, 2) := by decide +kernel
theorem d_SU_leastSoundLeft_55 : decode b_SU_leastSoundLeft 55 = .ok (.iload 6, 2) := by decide +kernel
theorem d_SU_leastSoundLeft_57 : decode b_SU_leastSoundLeft 57 = .ok (.iload 4, 2) := by decide +kernel
theorem d_SU_leastSoundLeft_59 : decode b_SU_leastSoundLeft 59 = .ok (.if_icmp .ne (6), 3) := by decide +kernel
theorem d_SU_leastSoundLeft_62 : decode b_SU_leastSoundLeft 62 = .ok (.iload 4, 2) := by decide +kernel
theorem d_SU_leastSoundLeft_64 : decode b_SU_leastSoundLeft 64 = .ok (.ireturn, 1) := by decide +kernel
theorem d_SU_leastSoundLeft_65 : decode b_SU_leastSoundLeft 65 = .ok (.iload 6, 2) := by decide +kernel
theorem d_SU_leastSoundLeft_67 : decode b_SU_leastSoundLeft 67 = .ok (.istore 4, 2) := by decide +kernel
theorem d_SU_leastSoundLeft_69 : decode b_SU_leastSoundLeft 69 = .ok (.iinc 5 1, 3) := by decide +kernel
theorem d_SU_leastSoundLeft_72 : decode b_SU_leastSoundLeft 72 = .ok (.goto (-38), 3) := by decide +kernel
theorem d_SU_leastSoundLeft_75 : decode b_SU_leastSoundLeft 75 = .ok (.iconst (-1), 1) := by decide +kernel
theorem d_SU_leastSoundLeft_76 : decode b_SU_leastSoundLeft 76 = .ok (.ireturn, 1) := by decide +kernel
theorem d_SU_leftPast_0 : decode b_SU_leftPast 0 = .ok (.iload_n 2, 1) := by decide +kernel
theorem d_SU_leftPast_1 : decode b_SU_leftPast 1 = .ok (.istore_n 3, 1) := by decide +kernel
theorem d_SU_leftPast_2 : decode b_SU_leftPast 2 = .ok (.iconst 0, 1) := by decide +kernel
theorem d_SU_leftPast_3 : decode b_SU_leftPast 3 = .ok (.istore 4, 2) := by decide +kernel
theorem d_SU_leftPast_5 : decode b_SU_leftPast 5 = .ok (.iload 4, 2) := by decide +kernel
theorem d_SU_leftPast_7 : decode b_SU_leftPast 7 = .ok (.aload_n 0, 1) := by decide +kernel
theorem d_SU_leftPast_8 : decode b_SU_leftPast 8 = .ok (.getfield 21, 3) := by decide +kernel
theorem d_SU_leftPast_11 : decode b_SU_leftPast 11 = .ok (.if_icmp .ge (81), 3) := by decide +kernel
theorem d_SU_leftPast_14 : decode b_SU_leftPast 14 = .ok (.iconst 0, 1) := by decide +kernel
theorem d_SU_leftPast_15 : decode b_SU_leftPast 15 = .ok (.istore 5, 2) := by decide +kernel
theorem d_SU_leftPast_17 : decode b_SU_leftPast 17 = .ok (.iload 5, 2) := by decide +kernel
theorem d_SU_leftPast_19 : decode b_SU_leftPast 19 = .ok (.aload_n 1, 1) := by decide +kernel
theorem d_SU_leftPast_20 : decode b_SU_leftPast 20 = .ok (.getfield 85, 3) := by decide +kernel
theorem d_SU_leftPast_23 : decode b_SU_leftPast 23 = .ok (.if_icmp .ge (63), 3) := by decide +kernel
theorem d_SU_leftPast_26 : decode b_SU_leftPast 26 = .ok (.iload_n 3, 1) := by decide +kernel
theorem d_SU_leftPast_27 : decode b_SU_leftPast 27 = .ok (.aload_n 0, 1) := by decide +kernel
theorem d_SU_leftPast_28 : decode b_SU_leftPast 28 = .ok (.getfield 15, 3) := by decide +kernel
theorem d_SU_leftPast_31 : decode b_SU_leftPast 31 = .ok (.iload 4, 2) := by decide +kernel
theorem d_SU_leftPast_33 : decode b_SU_leftPast 33 = .ok (.iaload, 1) := by decide +kernel
theorem d_SU_leftPast_34 : decode b_SU_leftPast 34 = .ok (.iadd, 1) := by decide +kernel
theorem d_SU_leftPast_35 : decode b_SU_leftPast 35 = .ok (.aload_n 1, 1) := by decide +kernel
theorem d_SU_leftPast_36 : decode b_SU_leftPast 36 = .ok (.getfield 92, 3) := by decide +kernel
theorem d_SU_leftPast_39 : decode b_SU_leftPast 39 = .ok (.iload 5, 2) := by decide +kernel
theorem d_SU_leftPast_41 : decode b_SU_leftPast 41 = .ok (.iaload, 1) := by decide +kernel
theorem d_SU_leftPast_42 : decode b_SU_leftPast 42 = .ok (.if_icmp .ge (38), 3) := by decide +kernel
theorem d_SU_leftPast_45 : decode b_SU_leftPast 45 = .ok (.aload_n 1, 1) := by decide +kernel
theorem d_SU_leftPast_46 : decode b_SU_leftPast 46 = .ok (.getfield 95, 3) := by decide +kernel
theorem d_SU_leftPast_49 : decode b_SU_leftPast 49 = .ok (.iload 5, 2) := by decide +kernel
theorem d_SU_leftPast_51 : decode b_SU_leftPast 51 = .ok (.iaload, 1) := by decide +kernel
theorem d_SU_leftPast_52 : decode b_SU_leftPast 52 = .ok (.iload_n 3, 1) := by decide +kernel
theorem d_SU_leftPast_53 : decode b_SU_leftPast 53 = .ok (.aload_n 0, 1) := by decide +kernel
theorem d_SU_leftPast_54 : decode b_SU_leftPast 54 = .ok (.getfield 18, 3) := by decide +kernel
theorem d_SU_leftPast_57 : decode b_SU_leftPast 57 = .ok (.iload 4, 2) := by decide +kernel
theorem d_SU_leftPast_59 : decode b_SU_leftPast 59 = .ok (.iaload, 1) := by decide +kernel
theorem d_SU_leftPast_60 : decode b_SU_leftPast 60 = .ok (.iadd, 1) := by decide +kernel
theorem d_SU_leftPast_61 : decode b_SU_leftPast 61 = .ok (.if_icmp .ge (19), 3) := by decide +kernel
theorem d_SU_leftPast_64 : decode b_SU_leftPast 64 = .ok (.aload_n 1, 1) := by decide +kernel
theorem d_SU_leftPast_65 : decode b_SU_leftPast 65 = .ok (.getfield 92, 3) := by decide +kernel
theorem d_SU_leftPast_68 : decode b_SU_leftPast 68 = .ok (.iload 5, 2) := by decide +kernel
theorem d_SU_leftPast_70 : decode b_SU_leftPast 70 = .ok (.iaload, 1) := by decide +kernel
theorem d_SU_leftPast_71 : decode b_SU_leftPast 71 = .ok (.aload_n 0, 1) := by decide +kernel
theorem d_SU_leftPast_72 : decode b_SU_leftPast 72 = .ok (.getfield 15, 3) := by decide +kernel
theorem d_SU_leftPast_75 : decode b_SU_leftPast 75 = .ok (.iload 4, 2) := by decide +kernel
theorem d_SU_leftPast_77 : decode b_SU_leftPast 77 = .ok (.iaload, 1) := by decide +kernel
theorem d_SU_leftPast_78 : decode b_SU_leftPast 78 = .ok (.isub, 1) := by decide +kernel
theorem d_SU_leftPast_79 : decode b_SU_leftPast 79 = .ok (.istore_n 3, 1) := by decide +kernel
theorem d_SU_leftPast_80 : decode b_SU_leftPast 80 = .ok (.iinc 5 1, 3) := by decide +kernel
theorem d_SU_leftPast_83 : decode b_SU_leftPast 83 = .ok (.goto (-66), 3) := by decide +kernel
theorem d_SU_leftPast_86 : decode b_SU_leftPast 86 = .ok (.iinc 4 1, 3) := by decide +kernel
theorem d_SU_leftPast_89 : decode b_SU_leftPast 89 = .ok (.goto (-84), 3) := by decide +kernel
theorem d_SU_leftPast_92 : decode b_SU_leftPast 92 = .ok (.iload_n 3, 1) := by decide +kernel
theorem d_SU_leftPast_93 : decode b_SU_leftPast 93 = .ok (.ireturn, 1) := by decide +kernel
end
section
set_option maxHeartbeats 4000000 in
set_option maxRecDepth 100000 in
/-- kilosBefore(place): the kilos times the place over the width, rounded down -/
theorem c_SU_kilosBefore (l : Launch) (dC : Nat → ClassId) (dI : Nat → Nat → Nat) (o on ob oe ok : Nat) (cI : ClassId) (sc lf kc wd kg tr sp : Nat) (pl : Nat) (h1 : 1 ≤ wd) (h2 : wd < 2147483648) (h3 : kg * pl < 2147483648) : Met l y_SU_kilosBefore w_SU_kilosBefore { frames := 0, cells := 0, slots := 0, locals := 0 } (ro_Pc (dC, dI) vwCl [(cI, .int)] [.ref o, .int (nI pl)] [(o, .inr (4, [.ref on, .ref ob, .ref oe, .int (nI sc), .int (nI lf), .ref ok, .int (nI kc), .int (nI wd), .int (nI kg), .int (nI tr), .int (nI sp)]))]) (ro_Qi (fun r => r = nI (kg * pl / wd))) 0 0 ro_no := by
  refine Met.ofW (cc := b_SU_kilosBefore) (maxL := 2) (ret := (some .int)) (by decide) rfl ?_
  intro p e s m args below meth c s₁ B hml hv
  obtain ⟨rfl, hP, hK⟩ := hv
  have hx := B.exec
  have hb := B.bytes
  have hr := B.returns
  have hts := gw_h (atoms_spec (ws := w_SU_kilosBefore) B.pre)
  have hown : s.vm.findClass R_SU = some m.cls := findClass_of_methodNamed B.named
  have hlocks := B.notSynchronized
  have hS : va_S ro_no s.heap s.heap [] := va_S.rf
  have hP : va_P (dC, dI) vwCl [(o, .inr (4, [.ref on, .ref ob, .ref oe, .int (nI sc), .int (nI lf), .ref ok, .int (nI kc), .int (nI wd), .int (nI kg), .int (nI tr), .int (nI sp)]))] s.heap := hP
  have hl := lv_entry ([.ref o, .int (nI pl)]) (n := 2) (Nat.le_of_ble_eq_true rfl)
  rw [lg_entry_eq]
  generalize (lg_sl ([.ref o, .int (nI pl)]) ++ List.replicate (2 - (lg_sl ([.ref o, .int (nI pl)])).length) Slot.unset).toArray = ls at hl ⊢
  have hl : lv_has ls 2 [(0, .ref o), (1, .int (nI pl))] := hl
  refine lv_aload_n hx hb d_SU_kilosBefore_0 rfl (lv_at hl 0 rfl) ?_
  refine va_get (D := (dC, dI)) (ci := 4) (v := .int (nI wd)) (C := R_SU) (T := F_SU) (N := 11) hx hb hts in_SU hown hK hP 0 rfl rfl 7 (by decide) (hts _ m_195) (fun _ h9 => h9) rfl d_SU_kilosBefore_1 ?_
  refine lv_iconst (v := nI 1) hx hb d_SU_kilosBefore_4 (by decide +kernel) ?_
  refine ix_icmp_ge (tgt := 12) hx hb (nI_tI (n := wd) (by omega)) (nI_tI (n := 1) (by omega)) d_SU_kilosBefore_5 (by decide) (fun c_5 => ?_) (fun c_5 => absurd c_5 (by omega))
  refine lv_aload_n hx hb d_SU_kilosBefore_12 rfl (lv_at hl 0 rfl) ?_
  refine va_get (D := (dC, dI)) (ci := 4) (v := .int (nI kg)) (C := R_SU) (T := F_SU) (N := 11) hx hb hts in_SU hown hK hP 0 rfl rfl 8 (by decide) (hts _ m_196) (fun _ h9 => h9) rfl d_SU_kilosBefore_13 ?_
  refine lv_iload_n hx hb d_SU_kilosBefore_16 rfl (lv_at hl 1 rfl) ?_
  refine lv_imul hx hb d_SU_kilosBefore_17 ?_
  refine lv_topr (show _ = nI (kg * pl) from nn_mul _ _) ?_
  refine lv_aload_n hx hb d_SU_kilosBefore_18 rfl (lv_at hl 0 rfl) ?_
  refine va_get (D := (dC, dI)) (ci := 4) (v := .int (nI wd)) (C := R_SU) (T := F_SU) (N := 11) hx hb hts in_SU hown hK hP 0 rfl rfl 7 (by decide) (hts _ m_195) (fun _ h9 => h9) rfl d_SU_kilosBefore_19 ?_
  refine ix_idiv hx hb (x := kg * pl) (d := wd) (by omega) (by omega) (by omega) d_SU_kilosBefore_22 ?_
  exact W.iret (v := nI ((kg * pl) / wd)) hx hb hr (fun t ht hW => ⟨⟨nI ((kg * pl) / wd), (), rfl, rfl, trivial⟩, hS.F ht⟩) hS.2.2 d_SU_kilosBefore_23
set_option maxHeartbeats 4000000 in
set_option maxRecDepth 100000 in
/-- stripWeight(k): the weight of strip k -/
theorem c_SU_stripWeight (l : Launch) (dC : Nat → ClassId) (dI : Nat → Nat → Nat) (o on ob oe ok : Nat) (cI : ClassId) (bg en : Nat → Nat) (sc lf kc wd kg tr sp : Nat) (k : Nat) (hk : k < 30) (h1 : 1 ≤ wd) (h2 : wd < 2147483648) (h3 : kg * (lf + en k) < 2147483648) (h4 : bg k ≤ en k) : Met l y_SU_stripWeight w_SU_stripWeight { frames := 1, cells := 0, slots := 0, locals := 21 } (ro_Pc (dC, dI) vwCl [(cI, .int)] [.ref o, .int (nI k)] [(o, .inr (4, [.ref on, .ref ob, .ref oe, .int (nI sc), .int (nI lf), .ref ok, .int (nI kc), .int (nI wd), .int (nI kg), .int (nI tr), .int (nI sp)])), (ob, .inl (cI, 30, .inl (aN bg))), (oe, .inl (cI, 30, .inl (aN en)))]) (ro_Qi (fun r => r = nI (wt kg wd lf bg en k))) 0 0 ro_no := by
  refine Met.ofW (cc := b_SU_stripWeight) (maxL := 2) (ret := (some .int)) (by decide) rfl ?_
  intro p e s m args below meth c s₁ B hml hv
  obtain ⟨rfl, hP, hK⟩ := hv
  have hx := B.exec
  have hb := B.bytes
  have hr := B.returns
  have hts := gw_h (atoms_spec (ws := w_SU_stripWeight) B.pre)
  have hown : s.vm.findClass R_SU = some m.cls := findClass_of_methodNamed B.named
  have hlocks := B.notSynchronized
  have hS : va_S ro_no s.heap s.heap [] := va_S.rf
  have hP : va_P (dC, dI) vwCl [(o, .inr (4, [.ref on, .ref ob, .ref oe, .int (nI sc), .int (nI lf), .ref ok, .int (nI kc), .int (nI wd), .int (nI kg), .int (nI tr), .int (nI sp)])), (ob, .inl (cI, 30, .inl (aN bg))), (oe, .inl (cI, 30, .inl (aN en)))] s.heap := hP
  have hl := lv_entry ([.ref o, .int (nI k)]) (n := 2) (Nat.le_of_ble_eq_true rfl)
  rw [lg_entry_eq]
  generalize (lg_sl ([.ref o, .int (nI k)]) ++ List.replicate (2 - (lg_sl ([.ref o, .int (nI k)])).length) Slot.unset).toArray = ls at hl ⊢
  have hl : lv_has ls 2 [(0, .ref o), (1, .int (nI k))] := hl
  have h5 : kg * (lf + bg k) < 2147483648 := Nat.lt_of_le_of_lt (Nat.mul_le_mul_left _ (by omega)) h3
  refine lv_aload_n hx hb d_SU_stripWeight_0 rfl (lv_at hl 0 rfl) ?_
  refine lv_aload_n hx hb d_SU_stripWeight_1 rfl (lv_at hl 0 rfl) ?_
  refine va_get (D := (dC, dI)) (ci := 4) (v := .int (nI lf)) (C := R_SU) (T := F_SU) (N := 11) hx hb hts in_SU hown hK hP 0 rfl rfl 4 (by decide) (hts _ m_191) (fun _ h9 => h9) rfl d_SU_stripWeight_2 ?_
  refine lv_aload_n hx hb d_SU_stripWeight_5 rfl (lv_at hl 0 rfl) ?_
  refine va_get (D := (dC, dI)) (ci := 4) (v := .ref oe) (C := R_SU) (T := F_SU) (N := 11) hx hb hts in_SU hown hK hP 0 rfl rfl 2 (by decide) (hts _ m_187) (fun _ h9 => h9) rfl d_SU_stripWeight_6 ?_
  refine lv_iload_n hx hb d_SU_stripWeight_9 rfl (lv_at hl 1 rfl) ?_
  refine ix_ialdN (i := k) hx hb hK hP 2 0 rfl rfl (by omega) (by decide) d_SU_stripWeight_10 ?_
  refine lv_iadd hx hb d_SU_stripWeight_11 ?_
  refine lv_topr (show _ = nI (lf + (en k)) from nn_add _ _) ?_
  have hPc := hP.sub (ws' := [(o, .inr (4, [.ref on, .ref ob, .ref oe, .int (nI sc), .int (nI lf), .ref ok, .int (nI kc), .int (nI wd), .int (nI kg), .int (nI tr), .int (nI sp)]))]) [0] rfl
  refine ro_calli (va_runV (As := [.int (nI (lf + (en k)))]) (rest := []) ⟨hx, hb, hml, hown, hts⟩ (c_SU_kilosBefore l dC dI o on ob oe ok cI sc lf kc wd kg tr sp (lf + (en k)) h1 h2 (by first | exact h3 | exact h5)) (cwV 1 hts (gw_V m_509 m_511 s_14 m_7 m_512) rfl rfl rfl (by decide +kernel) ⟨Nat.le_of_ble_eq_true rfl, Nat.le_of_ble_eq_true rfl⟩) ⟨ro_blind, va_recv hK hPc (ci := 4) (q0 := 0) rfl rfl, fun U hU hW => ⟨rfl, by rw [hU]; exact hPc, va_K.moved hW.alike hK⟩⟩ rfl rfl hl.1 rfl (lv_room (Nat.le_of_ble_eq_true rfl)) d_SU_stripWeight_12 ⟨Nat.le_of_ble_eq_true rfl, Nat.le_of_ble_eq_true rfl⟩) hS hP (fun r H locs er hP hS => ?_)
  subst er
  refine lv_aload_n hx hb d_SU_stripWeight_15 rfl (lv_at hl 0 rfl) ?_
  refine lv_aload_n hx hb d_SU_stripWeight_16 rfl (lv_at hl 0 rfl) ?_
  refine va_get (D := (dC, dI)) (ci := 4) (v := .int (nI lf)) (C := R_SU) (T := F_SU) (N := 11) hx hb hts in_SU hown hK hP 0 rfl rfl 4 (by decide) (hts _ m_191) (fun _ h9 => h9) rfl d_SU_stripWeight_17 ?_
  refine lv_aload_n hx hb d_SU_stripWeight_20 rfl (lv_at hl 0 rfl) ?_
  refine va_get (D := (dC, dI)) (ci := 4) (v := .ref ob) (C := R_SU) (T := F_SU) (N := 11) hx hb hts in_SU hown hK hP 0 rfl rfl 1 (by decide) (hts _ m_185) (fun _ h9 => h9) rfl d_SU_stripWeight_21 ?_
  refine lv_iload_n hx hb d_SU_stripWeight_24 rfl (lv_at hl 1 rfl) ?_
  refine ix_ialdN (i := k) hx hb hK hP 1 0 rfl rfl (by omega) (by decide) d_SU_stripWeight_25 ?_
  refine lv_iadd hx hb d_SU_stripWeight_26 ?_
  refine lv_topr (show _ = nI (lf + (bg k)) from nn_add _ _) ?_
  have hPc := hP.sub (ws' := [(o, .inr (4, [.ref on, .ref ob, .ref oe, .int (nI sc), .int (nI lf), .ref ok, .int (nI kc), .int (nI wd), .int (nI kg), .int (nI tr), .int (nI sp)]))]) [0] rfl
  refine ro_calli (va_runV (As := [.int (nI (lf + (bg k)))]) (rest := [.int (nI (kg * (lf + (en k)) / wd))]) ⟨hx, hb, hml, hown, hts⟩ (c_SU_kilosBefore l dC dI o on ob oe ok cI sc lf kc wd kg tr sp (lf + (bg k)) h1 h2 (by first | exact h3 | exact h5)) (cwV 1 hts (gw_V m_509 m_511 s_14 m_7 m_512) rfl rfl rfl (by decide +kernel) ⟨Nat.le_of_ble_eq_true rfl, Nat.le_of_ble_eq_true rfl⟩) ⟨ro_blind, va_recv hK hPc (ci := 4) (q0 := 0) rfl rfl, fun U hU hW => ⟨rfl, by rw [hU]; exact hPc, va_K.moved hW.alike hK⟩⟩ rfl rfl hl.1 rfl (lv_room (Nat.le_of_ble_eq_true rfl)) d_SU_stripWeight_27 ⟨Nat.le_of_ble_eq_true rfl, Nat.le_of_ble_eq_true rfl⟩) hS hP (fun r H locs er hP hS => ?_)
  subst er
  refine lv_isub hx hb d_SU_stripWeight_30 ?_
  refine lv_topr (show _ = nI ((kg * (lf + (en k)) / wd) - (kg * (lf + (bg k)) / wd)) from nn_subN (by exact Nat.div_le_div_right (Nat.mul_le_mul_left _ (by omega)))) ?_
  exact W.iret (v := nI ((kg * (lf + (en k)) / wd) - (kg * (lf + (bg k)) / wd))) hx hb hr (fun t ht hW => ⟨⟨nI ((kg * (lf + (en k)) / wd) - (kg * (lf + (bg k)) / wd)), (), rfl, rfl, trivial⟩, hS.F ht⟩) hS.2.2 d_SU_stripWeight_31
set_option maxHeartbeats 4000000 in
set_option maxRecDepth 100000 in
/-- scrapWeight(): the kilos less all weights -/
theorem c_SU_scrapWeight (l : Launch) (dC : Nat → ClassId) (dI : Nat → Nat → Nat) (o on ob oe ok : Nat) (cI : ClassId) (bg en : Nat → Nat) (sc lf kc wd kg tr sp : Nat) (hsc : sc ≤ 30) (h0 : kg < 2147483648) (h1 : 1 ≤ wd) (h2 : wd < 2147483648) (h3 : ∀ k, k < sc → kg * (lf + en k) < 2147483648) (h4 : ∀ k, k < sc → bg k ≤ en k) : Met l y_SU_scrapWeight w_SU_scrapWeight { frames := 2, cells := 0, slots := 0, locals := 42 } (ro_Pc (dC, dI) vwCl [(cI, .int)] [.ref o] [(o, .inr (4, [.ref on, .ref ob, .ref oe, .int (nI sc), .int (nI lf), .ref ok, .int (nI kc), .int (nI wd), .int (nI kg), .int (nI tr), .int (nI sp)])), (ob, .inl (cI, 30, .inl (aN bg))), (oe, .inl (cI, 30, .inl (aN en)))]) (ro_Qi (fun r => r = zI ((kg : Int) - ((sumN (wt kg wd lf bg en) sc : Nat) : Int)))) 0 0 ro_no := by
  refine Met.ofW (cc := b_SU_scrapWeight) (maxL := 3) (ret := (some .int)) (by decide) rfl ?_
  intro p e s m args below meth c s₁ B hml hv
  obtain ⟨rfl, hP, hK⟩ := hv
  have hx := B.exec
  have hb := B.bytes
  have hr := B.returns
  have hts := gw_h (atoms_spec (ws := w_SU_scrapWeight) B.pre)
  have hown : s.vm.findClass R_SU = some m.cls := findClass_of_methodNamed B.named
  have hlocks := B.notSynchronized
  have hS : va_S ro_no s.heap s.heap [] := va_S.rf
  have hP : va_P (dC, dI) vwCl [(o, .inr (4, [.ref on, .ref ob, .ref oe, .int (nI sc), .int (nI lf), .ref ok, .int (nI kc), .int (nI wd), .int (nI kg), .int (nI tr), .int (nI sp)])), (ob, .inl (cI, 30, .inl (aN bg))), (oe, .inl (cI, 30, .inl (aN en)))] s.heap := hP
  have hl := lv_entry ([.ref o]) (n := 3) (Nat.le_of_ble_eq_true rfl)
  rw [lg_entry_eq]
  generalize (lg_sl ([.ref o]) ++ List.replicate (3 - (lg_sl ([.ref o])).length) Slot.unset).toArray = ls at hl ⊢
  have hl : lv_has ls 3 [(0, .ref o)] := hl
  refine lv_aload_n hx hb d_SU_scrapWeight_0 rfl (lv_at hl 0 rfl) ?_
  refine va_get (D := (dC, dI)) (ci := 4) (v := .int (nI kg)) (C := R_SU) (T := F_SU) (N := 11) hx hb hts in_SU hown hK hP 0 rfl rfl 8 (by decide) (hts _ m_196) (fun _ h9 => h9) rfl d_SU_scrapWeight_1 ?_
  refine lv_istore_n (lv' := [(1, .int (nI kg)), (0, .ref o)]) hx hb d_SU_scrapWeight_4 rfl hl (by decide) rfl (fun ls hl => ?_)
  have hl : lv_has ls 3 [(1, .int (zI (kg : Int))), (0, .ref o)] := by rw [← zI_n]; exact hl
  refine lv_iconst (v := nI 0) hx hb d_SU_scrapWeight_5 (by decide +kernel) ?_
  refine lv_istore_n (lv' := [(2, .int (nI 0)), (1, .int (zI (kg : Int))), (0, .ref o)]) hx hb d_SU_scrapWeight_6 rfl hl (by decide) rfl (fun ls hl => ?_)
  have lp : ∀ (n_lp : Nat) (k : Nat) (z : Int), (sc + 1 ≤ k + n_lp) → (k ≤ sc) → (z = (kg : Int) - ((sumN (wt kg wd lf bg en) k : Nat) : Int)) → ∀ (H : Heap) (locs : List Loc) (ls : Array Slot), va_P (dC, dI) vwCl [(o, .inr (4, [.ref on, .ref ob, .ref oe, .int (nI sc), .int (nI lf), .ref ok, .int (nI kc), .int (nI wd), .int (nI kg), .int (nI tr), .int (nI sp)])), (ob, .inl (cI, 30, .inl (aN bg))), (oe, .inl (cI, 30, .inl (aN en)))] H → va_S ro_no s.heap H locs → lv_has ls 3 [(0, .ref o), (1, .int (zI z)), (2, .int (nI k))] → W p l e (headSpec w_SU_scrapWeight { frames := 2, cells := 0, slots := 0, locals := 42 }).room s m [.ref o].toArray below meth c H locs 0 0 (MQ below (ro_Qi (fun r => r = zI ((kg : Int) - ((sumN (wt kg wd lf bg en) sc : Nat) : Int)))) [.ref o].toArray s 0 0 ro_no) (F0 m 7 ls []) := by
    intro n_lp
    induction n_lp with
    | zero =>
      intro k z hm hk hz
      exact absurd hm (by omega)
    | succ n_lp ih_lp =>
      intro k z hm hk hz H locs ls hP hS hl
      refine lv_iload_n hx hb d_SU_scrapWeight_7 rfl (lv_at hl 2 rfl) ?_
      refine lv_aload_n hx hb d_SU_scrapWeight_8 rfl (lv_at hl 0 rfl) ?_
      refine va_get (D := (dC, dI)) (ci := 4) (v := .int (nI sc)) (C := R_SU) (T := F_SU) (N := 11) hx hb hts in_SU hown hK hP 0 rfl rfl 3 (by decide) (hts _ m_189) (fun _ h9 => h9) rfl d_SU_scrapWeight_9 ?_
      refine ix_icmp_ge (tgt := 29) hx hb (nI_tI (n := k) (by omega)) (nI_tI (n := sc) (by omega)) d_SU_scrapWeight_12 (by decide) (fun c_12 => ?_) (fun c_12 => ?_)
      · refine lv_iload_n hx hb d_SU_scrapWeight_29 rfl (lv_at hl 1 rfl) ?_
        have hke : k = sc := by omega
        exact W.iret (v := zI z) hx hb hr (fun t ht hW => ⟨⟨zI z, (), rfl, by rw [hz, hke], trivial⟩, hS.F ht⟩) hS.2.2 d_SU_scrapWeight_30
      refine lv_iload_n hx hb d_SU_scrapWeight_15 rfl (lv_at hl 1 rfl) ?_
      refine lv_aload_n hx hb d_SU_scrapWeight_16 rfl (lv_at hl 0 rfl) ?_
      refine lv_iload_n hx hb d_SU_scrapWeight_17 rfl (lv_at hl 2 rfl) ?_
      have hPc := hP.sub (ws' := [(o, .inr (4, [.ref on, .ref ob, .ref oe, .int (nI sc), .int (nI lf), .ref ok, .int (nI kc), .int (nI wd), .int (nI kg), .int (nI tr), .int (nI sp)])), (ob, .inl (cI, 30, .inl (aN bg))), (oe, .inl (cI, 30, .inl (aN en)))]) [0, 1, 2] rfl
      refine ro_calli (va_runV (As := [.int (nI k)]) (rest := [.int (zI z)]) ⟨hx, hb, hml, hown, hts⟩ (c_SU_stripWeight l dC dI o on ob oe ok cI bg en sc lf kc wd kg tr sp k (by omega) h1 h2 (h3 k (by omega)) (h4 k (by omega))) (cwV 1 hts (gw_V m_524 m_506 m_507 m_7 m_508) rfl rfl rfl (by decide +kernel) ⟨Nat.le_of_ble_eq_true rfl, Nat.le_of_ble_eq_true rfl⟩) ⟨ro_blind, va_recv hK hPc (ci := 4) (q0 := 0) rfl rfl, fun U hU hW => ⟨rfl, by rw [hU]; exact hPc, va_K.moved hW.alike hK⟩⟩ rfl rfl hl.1 rfl (lv_room (Nat.le_of_ble_eq_true rfl)) d_SU_scrapWeight_18 ⟨Nat.le_of_ble_eq_true rfl, Nat.le_of_ble_eq_true rfl⟩) hS hP (fun r H locs er hP hS => ?_)
      subst er
      refine lv_isub hx hb d_SU_scrapWeight_21 ?_
      refine lv_topr (show _ = zI (z - ((wt kg wd lf bg en k : Nat) : Int)) from zn_sub _ _) ?_
      refine lv_istore_n (lv' := [(1, .int (zI (z - ((wt kg wd lf bg en k : Nat) : Int)))), (0, .ref o), (2, .int (nI k))]) hx hb d_SU_scrapWeight_22 rfl hl (by decide) rfl (fun ls hl => ?_)
      refine lv_iinc (v := nI (k + 1)) (lv' := [(2, .int (nI (k + 1))), (1, .int (zI (z - ((wt kg wd lf bg en k : Nat) : Int)))), (0, .ref o)]) hx hb d_SU_scrapWeight_23 hl (k := 2) rfl (n_incN k 1) (by decide) rfl (fun ls hl => ?_)
      refine lv_goto (tgt := 7) hx hb d_SU_scrapWeight_26 (by decide) ?_
      exact ih_lp (k + 1) _ (by omega) (by omega) (by rw [hz, sumN]; omega) _ _ _ hP hS (lv_sub hl [2, 1, 0] rfl)
  exact lp (sc + 1) 0 (kg : Int) (by omega) (by omega) (by simp [sumN]) _ _ _ hP hS (lv_sub hl [2, 1, 0] rfl)
set_option maxHeartbeats 4000000 in
set_option maxRecDepth 100000 in
/-- placesNotIn(other): how many places of this one the other has not; both rise -/
theorem c_SU_placesNotIn (l : Launch) (dC : Nat → ClassId) (dI : Nat → Nat → Nat) (o on ob oe ok o' on' ob' oe' ok' : Nat) (cI : ClassId) (kp kp' : Nat → Nat) (sc lf kc wd kg tr sp sc' lf' kc' wd' kg' tr' sp' : Nat) (h1 : kc ≤ 60) (h2 : kc' ≤ 60) (h3 : ∀ i, i + 1 < kc → kp i < kp (i + 1)) (h4 : ∀ i, i + 1 < kc' → kp' i < kp' (i + 1)) (h5 : ∀ i, i < kc → lf + kp i < 1000000) (h6 : ∀ i, i < kc' → lf' + kp' i < 1000000) : Met l y_SU_placesNotIn w_SU_placesNotIn { frames := 0, cells := 0, slots := 0, locals := 0 } (ro_Pc (dC, dI) vwCl [(cI, .int)] [.ref o, .ref o'] [(o, .inr (4, [.ref on, .ref ob, .ref oe, .int (nI sc), .int (nI lf), .ref ok, .int (nI kc), .int (nI wd), .int (nI kg), .int (nI tr), .int (nI sp)])), (ok, .inl (cI, 60, .inl (aN kp))), (o', .inr (4, [.ref on', .ref ob', .ref oe', .int (nI sc'), .int (nI lf'), .ref ok', .int (nI kc'), .int (nI wd'), .int (nI kg'), .int (nI tr'), .int (nI sp')])), (ok', .inl (cI, 60, .inl (aN kp')))]) (ro_Qi (fun r => r = nI (cntNot (fun x => lf + kp x) (fun x => lf' + kp' x) kc' kc))) 0 0 ro_no := by
  refine Met.ofW (cc := b_SU_placesNotIn) (maxL := 6) (ret := (some .int)) (by decide) rfl ?_
  intro p e s m args below meth c s₁ B hml hv
  obtain ⟨rfl, hP, hK⟩ := hv
  have hx := B.exec
  have hb := B.bytes
  have hr := B.returns
  have hts := gw_h (atoms_spec (ws := w_SU_placesNotIn) B.pre)
  have hown : s.vm.findClass R_SU = some m.cls := findClass_of_methodNamed B.named
  have hlocks := B.notSynchronized
  have hS : va_S ro_no s.heap s.heap [] := va_S.rf
  have hP : va_P (dC, dI) vwCl [(o, .inr (4, [.ref on, .ref ob, .ref oe, .int (nI sc), .int (nI lf), .ref ok, .int (nI kc), .int (nI wd), .int (nI kg), .int (nI tr), .int (nI sp)])), (ok, .inl (cI, 60, .inl (aN kp))), (o', .inr (4, [.ref on', .ref ob', .ref oe', .int (nI sc'), .int (nI lf'), .ref ok', .int (nI kc'), .int (nI wd'), .int (nI kg'), .int (nI tr'), .int (nI sp')])), (ok', .inl (cI, 60, .inl (aN kp')))] s.heap := hP
  have hl := lv_entry ([.ref o, .ref o']) (n := 6) (Nat.le_of_ble_eq_true rfl)
  rw [lg_entry_eq]
  generalize (lg_sl ([.ref o, .ref o']) ++ List.replicate (6 - (lg_sl ([.ref o, .ref o'])).length) Slot.unset).toArray = ls at hl ⊢
  have hl : lv_has ls 6 [(0, .ref o), (1, .ref o')] := hl
  refine lv_iconst (v := nI 0) hx hb d_SU_placesNotIn_0 (by decide +kernel) ?_
  refine lv_istore_n (lv' := [(2, .int (nI 0)), (0, .ref o), (1, .ref o')]) hx hb d_SU_placesNotIn_1 rfl hl (by decide) rfl (fun ls hl => ?_)
  refine lv_iconst (v := nI 0) hx hb d_SU_placesNotIn_2 (by decide +kernel) ?_
  refine lv_istore_n (lv' := [(3, .int (nI 0)), (2, .int (nI 0)), (0, .ref o), (1, .ref o')]) hx hb d_SU_placesNotIn_3 rfl hl (by decide) rfl (fun ls hl => ?_)
  refine lv_iconst (v := nI 0) hx hb d_SU_placesNotIn_4 (by decide +kernel) ?_
  refine lv_istore (lv' := [(4, .int (nI 0)), (3, .int (nI 0)), (2, .int (nI 0)), (0, .ref o), (1, .ref o')]) hx hb d_SU_placesNotIn_5 hl (by decide) rfl (fun ls hl => ?_)
  have out : ∀ (n_out : Nat) (i : Nat) (a : Nat) (ms : Nat), (kc + 1 ≤ i + n_out) → (i ≤ kc) → (a ≤ kc') → (∀ j, j < a → i < kc → lf' + kp' j < lf + kp i) → (ms = cntNot (fun x => lf + kp x) (fun x => lf' + kp' x) kc' i) → ∀ (H : Heap) (locs : List Loc) (ls : Array Slot), va_P (dC, dI) vwCl [(o, .inr (4, [.ref on, .ref ob, .ref oe, .int (nI sc), .int (nI lf), .ref ok, .int (nI kc), .int (nI wd), .int (nI kg), .int (nI tr), .int (nI sp)])), (ok, .inl (cI, 60, .inl (aN kp))), (o', .inr (4, [.ref on', .ref ob', .ref oe', .int (nI sc'), .int (nI lf'), .ref ok', .int (nI kc'), .int (nI wd'), .int (nI kg'), .int (nI tr'), .int (nI sp')])), (ok', .inl (cI, 60, .inl (aN kp')))] H → va_S ro_no s.heap H locs → lv_has ls 6 [(0, .ref o), (1, .ref o'), (2, .int (nI ms)), (3, .int (nI a)), (4, .int (nI i))] → W p l e (headSpec w_SU_placesNotIn { frames := 0, cells := 0, slots := 0, locals := 0 }).room s m [.ref o, .ref o'].toArray below meth c H locs 0 0 (MQ below (ro_Qi (fun r => r = nI (cntNot (fun x => lf + kp x) (fun x => lf' + kp' x) kc' kc))) [.ref o, .ref o'].toArray s 0 0 ro_no) (F0 m 7 ls []) := by
    intro n_out
    induction n_out with
    | zero =>
      intro i a ms hm hi ha hlo hms
      exact absurd hm (by omega)
    | succ n_out ih_out =>
      intro i a ms hm hi ha hlo hms H locs ls hP hS hl
      refine lv_iload hx hb d_SU_placesNotIn_7 (lv_at hl 4 rfl) ?_
      refine lv_aload_n hx hb d_SU_placesNotIn_9 rfl (lv_at hl 0 rfl) ?_
      refine va_get (D := (dC, dI)) (ci := 4) (v := .int (nI kc)) (C := R_SU) (T := F_SU) (N := 11) hx hb hts in_SU hown hK hP 0 rfl rfl 6 (by decide) (hts _ m_194) (fun _ h9 => h9) rfl d_SU_placesNotIn_10 ?_
      refine ix_icmp_ge (tgt := 93) hx hb (nI_tI (n := i) (by omega)) (nI_tI (n := kc) (by omega)) d_SU_placesNotIn_13 (by decide) (fun c_13 => ?_) (fun c_13 => ?_)
      · refine lv_iload_n hx hb d_SU_placesNotIn_93 rfl (lv_at hl 2 rfl) ?_
        have hie : i = kc := by omega
        exact W.iret (v := nI ms) hx hb hr (fun t ht hW => ⟨⟨nI ms, (), rfl, by rw [hms, hie], trivial⟩, hS.F ht⟩) hS.2.2 d_SU_placesNotIn_94
      refine lv_aload_n hx hb d_SU_placesNotIn_16 rfl (lv_at hl 0 rfl) ?_
      refine va_get (D := (dC, dI)) (ci := 4) (v := .int (nI lf)) (C := R_SU) (T := F_SU) (N := 11) hx hb hts in_SU hown hK hP 0 rfl rfl 4 (by decide) (hts _ m_191) (fun _ h9 => h9) rfl d_SU_placesNotIn_17 ?_
      refine lv_aload_n hx hb d_SU_placesNotIn_20 rfl (lv_at hl 0 rfl) ?_
      refine va_get (D := (dC, dI)) (ci := 4) (v := .ref ok) (C := R_SU) (T := F_SU) (N := 11) hx hb hts in_SU hown hK hP 0 rfl rfl 5 (by decide) (hts _ m_193) (fun _ h9 => h9) rfl d_SU_placesNotIn_21 ?_
      refine lv_iload hx hb d_SU_placesNotIn_24 (lv_at hl 4 rfl) ?_
      refine ix_ialdN (i := i) hx hb hK hP 1 0 rfl rfl (by omega) (by decide) d_SU_placesNotIn_26 ?_
      refine lv_iadd hx hb d_SU_placesNotIn_27 ?_
      refine lv_topr (show _ = nI (lf + (kp i)) from nn_add _ _) ?_
      refine lv_istore (lv' := [(5, .int (nI (lf + (kp i)))), (0, .ref o), (1, .ref o'), (2, .int (nI ms)), (3, .int (nI a)), (4, .int (nI i))]) hx hb d_SU_placesNotIn_28 hl (by decide) rfl (fun ls hl => ?_)
      have hcn := cntNot_le (fun x => lf + kp x) (fun x => lf' + kp' x) kc' i
      have hik : i < kc := by omega
      have h5i := h5 i hik
      have inn : ∀ (n_inn : Nat) (a : Nat), (kc' + 1 ≤ a + n_inn) → (a ≤ kc') → (∀ j, j < a → lf' + kp' j < lf + kp i) → ∀ (H : Heap) (locs : List Loc) (ls : Array Slot), va_P (dC, dI) vwCl [(o, .inr (4, [.ref on, .ref ob, .ref oe, .int (nI sc), .int (nI lf), .ref ok, .int (nI kc), .int (nI wd), .int (nI kg), .int (nI tr), .int (nI sp)])), (ok, .inl (cI, 60, .inl (aN kp))), (o', .inr (4, [.ref on', .ref ob', .ref oe', .int (nI sc'), .int (nI lf'), .ref ok', .int (nI kc'), .int (nI wd'), .int (nI kg'), .int (nI tr'), .int (nI sp')])), (ok', .inl (cI, 60, .inl (aN kp')))] H → va_S ro_no s.heap H locs → lv_has ls 6 [(0, .ref o), (1, .ref o'), (2, .int (nI ms)), (3, .int (nI a)), (4, .int (nI i)), (5, .int (nI (lf + kp i)))] → W p l e (headSpec w_SU_placesNotIn { frames := 0, cells := 0, slots := 0, locals := 0 }).room s m [.ref o, .ref o'].toArray below meth c H locs 0 0 (MQ below (ro_Qi (fun r => r = nI (cntNot (fun x => lf + kp x) (fun x => lf' + kp' x) kc' kc))) [.ref o, .ref o'].toArray s 0 0 ro_no) (F0 m 30 ls []) := by
        intro n_inn
        induction n_inn with
        | zero =>
          intro a hm2 ha hlo
          exact absurd hm2 (by omega)
        | succ n_inn ih_inn =>
          intro a hm2 ha hlo H locs ls hP hS hl
          refine lv_iload_n hx hb d_SU_placesNotIn_30 rfl (lv_at hl 3 rfl) ?_
          refine lv_aload_n hx hb d_SU_placesNotIn_31 rfl (lv_at hl 1 rfl) ?_
          refine va_get (D := (dC, dI)) (ci := 4) (v := .int (nI kc')) (C := R_SU) (T := F_SU) (N := 11) hx hb hts in_SU hown hK hP 2 rfl rfl 6 (by decide) (hts _ m_194) (fun _ h9 => h9) rfl d_SU_placesNotIn_32 ?_
          refine ix_icmp_ge (tgt := 60) hx hb (nI_tI (n := a) (by omega)) (nI_tI (n := kc') (by omega)) d_SU_placesNotIn_35 (by decide) (fun c_35 => ?_) (fun c_35 => ?_)
          · refine lv_iload_n hx hb d_SU_placesNotIn_60 rfl (lv_at hl 3 rfl) ?_
            refine lv_aload_n hx hb d_SU_placesNotIn_61 rfl (lv_at hl 1 rfl) ?_
            refine va_get (D := (dC, dI)) (ci := 4) (v := .int (nI kc')) (C := R_SU) (T := F_SU) (N := 11) hx hb hts in_SU hown hK hP 2 rfl rfl 6 (by decide) (hts _ m_194) (fun _ h9 => h9) rfl d_SU_placesNotIn_62 ?_
            refine ix_icmp_ge (tgt := 84) hx hb (nI_tI (n := a) (by omega)) (nI_tI (n := kc') (by omega)) d_SU_placesNotIn_65 (by decide) (fun c_65 => ?_) (fun c_65 => ?_)
            · refine lv_iinc (v := nI (ms + 1)) (lv' := [(2, .int (nI (ms + 1))), (0, .ref o), (1, .ref o'), (3, .int (nI a)), (4, .int (nI i)), (5, .int (nI (lf + kp i)))]) hx hb d_SU_placesNotIn_84 hl (k := 2) rfl (n_incN ms 1) (by decide) rfl (fun ls hl => ?_)
              refine lv_iinc (v := nI (i + 1)) (lv' := [(4, .int (nI (i + 1))), (2, .int (nI (ms + 1))), (0, .ref o), (1, .ref o'), (3, .int (nI a)), (5, .int (nI (lf + kp i)))]) hx hb d_SU_placesNotIn_87 hl (k := 4) rfl (n_incN i 1) (by decide) rfl (fun ls hl => ?_)
              refine lv_goto (tgt := 7) hx hb d_SU_placesNotIn_90 (by decide) ?_
              exact ih_out (i + 1) a (ms + 1) (by omega) (by omega) ha (fun j hj hk => by have := hlo j hj; have := h3 i hk; omega) (by rw [cntNot_out (f := fun x => lf + kp x) (g := fun x => lf' + kp' x) (n := i) (pn_out h4 hlo (by omega)), ← hms]) _ _ _ hP hS (lv_sub hl [2, 3, 1, 4, 0] rfl)
            have h6b := h6 a (by omega)
            refine lv_aload_n hx hb d_SU_placesNotIn_68 rfl (lv_at hl 1 rfl) ?_
            refine va_get (D := (dC, dI)) (ci := 4) (v := .int (nI lf')) (C := R_SU) (T := F_SU) (N := 11) hx hb hts in_SU hown hK hP 2 rfl rfl 4 (by decide) (hts _ m_191) (fun _ h9 => h9) rfl d_SU_placesNotIn_69 ?_
            refine lv_aload_n hx hb d_SU_placesNotIn_72 rfl (lv_at hl 1 rfl) ?_
            refine va_get (D := (dC, dI)) (ci := 4) (v := .ref ok') (C := R_SU) (T := F_SU) (N := 11) hx hb hts in_SU hown hK hP 2 rfl rfl 5 (by decide) (hts _ m_193) (fun _ h9 => h9) rfl d_SU_placesNotIn_73 ?_
            refine lv_iload_n hx hb d_SU_placesNotIn_76 rfl (lv_at hl 3 rfl) ?_
            refine ix_ialdN (i := a) hx hb hK hP 3 0 rfl rfl (by omega) (by decide) d_SU_placesNotIn_77 ?_
            refine lv_iadd hx hb d_SU_placesNotIn_78 ?_
            refine lv_topr (show _ = nI (lf' + (kp' a)) from nn_add _ _) ?_
            refine lv_iload hx hb d_SU_placesNotIn_79 (lv_at hl 5 rfl) ?_
            refine ix_icmp_eq (tgt := 87) hx hb (nI_tI (n := lf' + (kp' a)) (by omega)) (nI_tI (n := lf + kp i) (by omega)) d_SU_placesNotIn_81 (by decide) (fun c_81 => ?_) (fun c_81 => ?_)
            · refine lv_iinc (v := nI (i + 1)) (lv' := [(4, .int (nI (i + 1))), (0, .ref o), (1, .ref o'), (2, .int (nI ms)), (3, .int (nI a)), (5, .int (nI (lf + kp i)))]) hx hb d_SU_placesNotIn_87 hl (k := 4) rfl (n_incN i 1) (by decide) rfl (fun ls hl => ?_)
              refine lv_goto (tgt := 7) hx hb d_SU_placesNotIn_90 (by decide) ?_
              exact ih_out (i + 1) a (ms) (by omega) (by omega) ha (fun j hj hk => by have := hlo j hj; have := h3 i hk; omega) (by rw [cntNot_in (f := fun x => lf + kp x) (g := fun x => lf' + kp' x) (n := i) ⟨a, by omega, by show lf' + kp' a = lf + kp i; omega⟩]; exact hms) _ _ _ hP hS (lv_sub hl [1, 2, 3, 4, 0] rfl)
            refine lv_iinc (v := nI (ms + 1)) (lv' := [(2, .int (nI (ms + 1))), (0, .ref o), (1, .ref o'), (3, .int (nI a)), (4, .int (nI i)), (5, .int (nI (lf + kp i)))]) hx hb d_SU_placesNotIn_84 hl (k := 2) rfl (n_incN ms 1) (by decide) rfl (fun ls hl => ?_)
            refine lv_iinc (v := nI (i + 1)) (lv' := [(4, .int (nI (i + 1))), (2, .int (nI (ms + 1))), (0, .ref o), (1, .ref o'), (3, .int (nI a)), (5, .int (nI (lf + kp i)))]) hx hb d_SU_placesNotIn_87 hl (k := 4) rfl (n_incN i 1) (by decide) rfl (fun ls hl => ?_)
            refine lv_goto (tgt := 7) hx hb d_SU_placesNotIn_90 (by decide) ?_
            exact ih_out (i + 1) a (ms + 1) (by omega) (by omega) ha (fun j hj hk => by have := hlo j hj; have := h3 i hk; omega) (by rw [cntNot_out (f := fun x => lf + kp x) (g := fun x => lf' + kp' x) (n := i) (pn_out h4 hlo (by omega)), ← hms]) _ _ _ hP hS (lv_sub hl [2, 3, 1, 4, 0] rfl)
          have h6a := h6 a (by omega)
          refine lv_aload_n hx hb d_SU_placesNotIn_38 rfl (lv_at hl 1 rfl) ?_
          refine va_get (D := (dC, dI)) (ci := 4) (v := .int (nI lf')) (C := R_SU) (T := F_SU) (N := 11) hx hb hts in_SU hown hK hP 2 rfl rfl 4 (by decide) (hts _ m_191) (fun _ h9 => h9) rfl d_SU_placesNotIn_39 ?_
          refine lv_aload_n hx hb d_SU_placesNotIn_42 rfl (lv_at hl 1 rfl) ?_
          refine va_get (D := (dC, dI)) (ci := 4) (v := .ref ok') (C := R_SU) (T := F_SU) (N := 11) hx hb hts in_SU hown hK hP 2 rfl rfl 5 (by decide) (hts _ m_193) (fun _ h9 => h9) rfl d_SU_placesNotIn_43 ?_
          refine lv_iload_n hx hb d_SU_placesNotIn_46 rfl (lv_at hl 3 rfl) ?_
          refine ix_ialdN (i := a) hx hb hK hP 3 0 rfl rfl (by omega) (by decide) d_SU_placesNotIn_47 ?_
          refine lv_iadd hx hb d_SU_placesNotIn_48 ?_
          refine lv_topr (show _ = nI (lf' + (kp' a)) from nn_add _ _) ?_
          refine lv_iload hx hb d_SU_placesNotIn_49 (lv_at hl 5 rfl) ?_
          refine ix_icmp_ge (tgt := 60) hx hb (nI_tI (n := lf' + (kp' a)) (by omega)) (nI_tI (n := lf + kp i) (by omega)) d_SU_placesNotIn_51 (by decide) (fun c_51 => ?_) (fun c_51 => ?_)
          · refine lv_iload_n hx hb d_SU_placesNotIn_60 rfl (lv_at hl 3 rfl) ?_
            refine lv_aload_n hx hb d_SU_placesNotIn_61 rfl (lv_at hl 1 rfl) ?_
            refine va_get (D := (dC, dI)) (ci := 4) (v := .int (nI kc')) (C := R_SU) (T := F_SU) (N := 11) hx hb hts in_SU hown hK hP 2 rfl rfl 6 (by decide) (hts _ m_194) (fun _ h9 => h9) rfl d_SU_placesNotIn_62 ?_
            refine ix_icmp_ge (tgt := 84) hx hb (nI_tI (n := a) (by omega)) (nI_tI (n := kc') (by omega)) d_SU_placesNotIn_65 (by decide) (fun c_65 => ?_) (fun c_65 => ?_)
            · refine lv_iinc (v := nI (ms + 1)) (lv' := [(2, .int (nI (ms + 1))), (0, .ref o), (1, .ref o'), (3, .int (nI a)), (4, .int (nI i)), (5, .int (nI (lf + kp i)))]) hx hb d_SU_placesNotIn_84 hl (k := 2) rfl (n_incN ms 1) (by decide) rfl (fun ls hl => ?_)
              refine lv_iinc (v := nI (i + 1)) (lv' := [(4, .int (nI (i + 1))), (2, .int (nI (ms + 1))), (0, .ref o), (1, .ref o'), (3, .int (nI a)), (5, .int (nI (lf + kp i)))]) hx hb d_SU_placesNotIn_87 hl (k := 4) rfl (n_incN i 1) (by decide) rfl (fun ls hl => ?_)
              refine lv_goto (tgt := 7) hx hb d_SU_placesNotIn_90 (by decide) ?_
              exact ih_out (i + 1) a (ms + 1) (by omega) (by omega) ha (fun j hj hk => by have := hlo j hj; have := h3 i hk; omega) (by rw [cntNot_out (f := fun x => lf + kp x) (g := fun x => lf' + kp' x) (n := i) (pn_out h4 hlo (by omega)), ← hms]) _ _ _ hP hS (lv_sub hl [2, 3, 1, 4, 0] rfl)
            have h6b := h6 a (by omega)
            refine lv_aload_n hx hb d_SU_placesNotIn_68 rfl (lv_at hl 1 rfl) ?_
            refine va_get (D := (dC, dI)) (ci := 4) (v := .int (nI lf')) (C := R_SU) (T := F_SU) (N := 11) hx hb hts in_SU hown hK hP 2 rfl rfl 4 (by decide) (hts _ m_191) (fun _ h9 => h9) rfl d_SU_placesNotIn_69 ?_
            refine lv_aload_n hx hb d_SU_placesNotIn_72 rfl (lv_at hl 1 rfl) ?_
            refine va_get (D := (dC, dI)) (ci := 4) (v := .ref ok') (C := R_SU) (T := F_SU) (N := 11) hx hb hts in_SU hown hK hP 2 rfl rfl 5 (by decide) (hts _ m_193) (fun _ h9 => h9) rfl d_SU_placesNotIn_73 ?_
            refine lv_iload_n hx hb d_SU_placesNotIn_76 rfl (lv_at hl 3 rfl) ?_
            refine ix_ialdN (i := a) hx hb hK hP 3 0 rfl rfl (by omega) (by decide) d_SU_placesNotIn_77 ?_
            refine lv_iadd hx hb d_SU_placesNotIn_78 ?_
            refine lv_topr (show _ = nI (lf' + (kp' a)) from nn_add _ _) ?_
            refine lv_iload hx hb d_SU_placesNotIn_79 (lv_at hl 5 rfl) ?_
            refine ix_icmp_eq (tgt := 87) hx hb (nI_tI (n := lf' + (kp' a)) (by omega)) (nI_tI (n := lf + kp i) (by omega)) d_SU_placesNotIn_81 (by decide) (fun c_81 => ?_) (fun c_81 => ?_)
            · refine lv_iinc (v := nI (i + 1)) (lv' := [(4, .int (nI (i + 1))), (0, .ref o), (1, .ref o'), (2, .int (nI ms)), (3, .int (nI a)), (5, .int (nI (lf + kp i)))]) hx hb d_SU_placesNotIn_87 hl (k := 4) rfl (n_incN i 1) (by decide) rfl (fun ls hl => ?_)
              refine lv_goto (tgt := 7) hx hb d_SU_placesNotIn_90 (by decide) ?_
              exact ih_out (i + 1) a (ms) (by omega) (by omega) ha (fun j hj hk => by have := hlo j hj; have := h3 i hk; omega) (by rw [cntNot_in (f := fun x => lf + kp x) (g := fun x => lf' + kp' x) (n := i) ⟨a, by omega, by show lf' + kp' a = lf + kp i; omega⟩]; exact hms) _ _ _ hP hS (lv_sub hl [1, 2, 3, 4, 0] rfl)
            refine lv_iinc (v := nI (ms + 1)) (lv' := [(2, .int (nI (ms + 1))), (0, .ref o), (1, .ref o'), (3, .int (nI a)), (4, .int (nI i)), (5, .int (nI (lf + kp i)))]) hx hb d_SU_placesNotIn_84 hl (k := 2) rfl (n_incN ms 1) (by decide) rfl (fun ls hl => ?_)
            refine lv_iinc (v := nI (i + 1)) (lv' := [(4, .int (nI (i + 1))), (2, .int (nI (ms + 1))), (0, .ref o), (1, .ref o'), (3, .int (nI a)), (5, .int (nI (lf + kp i)))]) hx hb d_SU_placesNotIn_87 hl (k := 4) rfl (n_incN i 1) (by decide) rfl (fun ls hl => ?_)
            refine lv_goto (tgt := 7) hx hb d_SU_placesNotIn_90 (by decide) ?_
            exact ih_out (i + 1) a (ms + 1) (by omega) (by omega) ha (fun j hj hk => by have := hlo j hj; have := h3 i hk; omega) (by rw [cntNot_out (f := fun x => lf + kp x) (g := fun x => lf' + kp' x) (n := i) (pn_out h4 hlo (by omega)), ← hms]) _ _ _ hP hS (lv_sub hl [2, 3, 1, 4, 0] rfl)
          refine lv_iinc (v := nI (a + 1)) (lv' := [(3, .int (nI (a + 1))), (0, .ref o), (1, .ref o'), (2, .int (nI ms)), (4, .int (nI i)), (5, .int (nI (lf + kp i)))]) hx hb d_SU_placesNotIn_54 hl (k := 3) rfl (n_incN a 1) (by decide) rfl (fun ls hl => ?_)
          refine lv_goto (tgt := 30) hx hb d_SU_placesNotIn_57 (by decide) ?_
          exact ih_inn (a + 1) (by omega) (by omega) (lt_s hlo (by omega)) _ _ _ hP hS (lv_sub hl [1, 2, 3, 0, 4, 5] rfl)
      exact inn (kc' + 1) a (by omega) ha (fun j hj => hlo j hj hik) _ _ _ hP hS (lv_sub hl [1, 2, 3, 4, 5, 0] rfl)
  exact out (kc + 1) 0 0 0 (by omega) (by omega) (by omega) (fun j hj => absurd hj (Nat.not_lt_zero j)) rfl _ _ _ hP hS (lv_sub hl [3, 4, 2, 1, 0] rfl)
end
section
/-! shifting: strip k at left L meets defect d -/
def hit (bg en fr to : Nat → Nat) (L k d : Nat) : Prop := L + bg k < to d ∧ fr d < L + en k
def okL (bg en fr to : Nat → Nat) (sc dc L : Nat) : Prop := ∀ k, k < sc → ∀ d, d < dc → ¬ hit bg en fr to L k d
/-- how many pairs lie still ahead -/
def npas (bg to : Nat → Nat) (sc dc L : Nat) : Nat := sumN (fun k => sumN (fun d => if L + bg k < to d then 1 else 0) dc) sc
theorem sumN_le {f g : Nat → Nat} : ∀ {n : Nat}, (∀ j, j < n → f j ≤ g j) → sumN f n ≤ sumN g n
  | 0, _ => Nat.le_refl _
  | n + 1, h => by
    have := sumN_le (n := n) (fun j hj => h j (by omega))
    have := h n (by omega)
    rw [sumN, sumN]
    omega
theorem sumN_lt {f g : Nat → Nat} : ∀ {n : Nat}, (∀ j, j < n → f j ≤ g j) → ∀ k, k < n → f k < g k → sumN f n < sumN g n
  | 0, _, k, hk, _ => absurd hk (Nat.not_lt_zero k)
  | n + 1, h, k, hk, hl => by
    have h1 := h n (by omega)
    rw [sumN, sumN]
    by_cases e : k = n
    · subst e
      have := sumN_le (n := k) (fun j hj => h j (by omega))
      omega
    · have := sumN_lt (n := n) (fun j hj => h j (by omega)) k (by omega) hl
      omega
theorem npas_le {bg to : Nat → Nat} {sc dc L : Nat} : npas bg to sc dc L ≤ sc * dc := by
  have h1 : ∀ n, sumN (fun _ => dc) n = n * dc := by
    intro n
    induction n with
    | zero => simp [sumN]
    | succ n ih => rw [sumN, ih, Nat.succ_mul]
  have h2 : ∀ n, sumN (fun _ => 1) n = n := by
    intro n
    induction n with
    | zero => rfl
    | succ n ih => rw [sumN, ih]
  rw [← h1]
  refine sumN_le (fun k _ => ?_)
  show sumN (fun d => if L + bg k < to d then 1 else 0) dc ≤ dc
  have := sumN_le (f := fun d => if L + bg k < to d then 1 else 0) (g := fun _ => 1) (n := dc) (fun j _ => by split <;> omega)
  rw [h2] at this
  exact this
theorem npas_lt {bg to : Nat → Nat} {sc dc p p' k d : Nat} (hp : p ≤ p') (hk : k < sc) (hd : d < dc) (h1 : p + bg k < to d) (h2 : ¬ p' + bg k < to d) : npas bg to sc dc p' < npas bg to sc dc p := by
  refine sumN_lt (fun j _ => ?_) k hk ?_
  · refine sumN_le (fun i _ => ?_)
    skip
    split <;> split <;> omega
  · refine sumN_lt (fun i _ => ?_) d hd ?_
    · skip
      split <;> split <;> omega
    · skip
      rw [if_neg h2, if_pos h1]
      omega
/-- where leftPast stands: pairs ahead of (k, d) are seen, p is the left so far -/
def LPI (bg en fr to : Nat → Nat) (sc dc least k d p : Nat) : Prop := least ≤ p ∧ (p = least ∨ p ≤ 20000) ∧ (∀ L, least ≤ L → okL bg en fr to sc dc L → p ≤ L) ∧
  (p = least → ∀ k', k' < sc → ∀ d', d' < dc → (k' < k ∨ (k' = k ∧ d' < d)) → ¬ hit bg en fr to least k' d') ∧ (p ≠ least → npas bg to sc dc p < npas bg to sc dc least)
theorem LPI.init (bg en fr to : Nat → Nat) (sc dc least : Nat) : LPI bg en fr to sc dc least 0 0 least := ⟨Nat.le_refl _, Or.inl rfl, fun _ h _ => h, fun _ _ _ _ _ h => by omega, fun h => absurd rfl h⟩
theorem LPI.next {bg en fr to : Nat → Nat} {sc dc least k d p : Nat} (h : LPI bg en fr to sc dc least k d p) (hd : dc ≤ d) : LPI bg en fr to sc dc least (k + 1) 0 p := by
  obtain ⟨h1, h2, h3, h4, h5⟩ := h
  exact ⟨h1, h2, h3, fun e k' hk d' hd' h => h4 e k' hk d' hd' (by omega), h5⟩
theorem LPI.skip {bg en fr to : Nat → Nat} {sc dc least k d p : Nat} (h : LPI bg en fr to sc dc least k d p) (hh : ¬ hit bg en fr to p k d) : LPI bg en fr to sc dc least k (d + 1) p := by
  obtain ⟨h1, h2, h3, h4, h5⟩ := h
  refine ⟨h1, h2, h3, fun e k' hk d' hd' h => ?_, h5⟩
  by_cases e2 : k' = k ∧ d' = d
  · obtain ⟨rfl, rfl⟩ := e2
    rw [← e]
    exact hh
  · exact h4 e k' hk d' hd' (by omega)
theorem LPI.jump {bg en fr to : Nat → Nat} {sc dc least k d p : Nat} (h : LPI bg en fr to sc dc least k d p) (hk : k < sc) (hd : d < dc) (hto : to d ≤ 20000) (hh : hit bg en fr to p k d) : LPI bg en fr to sc dc least k (d + 1) (to d - bg k) := by
  obtain ⟨h1, h2, h3, h4, h5⟩ := h
  obtain ⟨g1, g2⟩ := hh
  have hn := npas_lt (sc := sc) (dc := dc) (bg := bg) (to := to) (p := p) (p' := to d - bg k) (by omega) hk hd g1 (by omega)
  refine ⟨by omega, Or.inr (by omega), fun L hL ok => ?_, fun e => by omega, fun _ => ?_⟩
  · have hp := h3 L hL ok
    have := ok k hk d hd
    unfold hit at this
    omega
  · by_cases e : p = least
    · rw [← e]
      exact hn
    · have := h5 e
      omega
/-- what leftPast answers -/
def LPa (bg en fr to : Nat → Nat) (sc dc least x : Nat) : Prop := least ≤ x ∧ (x = least ∨ x ≤ 20000) ∧ (∀ L, least ≤ L → okL bg en fr to sc dc L → x ≤ L) ∧ (x = least → okL bg en fr to sc dc least) ∧ (x ≠ least → npas bg to sc dc x < npas bg to sc dc least)
theorem LPI.done {bg en fr to : Nat → Nat} {sc dc least k d p : Nat} (h : LPI bg en fr to sc dc least k d p) (hk : sc ≤ k) : LPa bg en fr to sc dc least p := by
  obtain ⟨h1, h2, h3, h4, h5⟩ := h
  exact ⟨h1, h2, h3, fun e k' hk' d' hd' => h4 e k' hk' d' hd' (by omega), h5⟩
/-- the least left from tr to gr without a defect, or none -/
def SS (bg en fr to : Nat → Nat) (sc dc tr gr : Nat) (r : Int) : Prop := (∃ L : Nat, r = L ∧ tr ≤ L ∧ L ≤ gr ∧ okL bg en fr to sc dc L ∧ ∀ L', tr ≤ L' → okL bg en fr to sc dc L' → L ≤ L') ∨ (r = -1 ∧ ∀ L, tr ≤ L → L ≤ gr → ¬ okL bg en fr to sc dc L)
theorem SS.uniq {bg en fr to : Nat → Nat} {sc dc tr gr : Nat} {r r' : Int} (h : SS bg en fr to sc dc tr gr r) (h' : SS bg en fr to sc dc tr gr r') : r = r' := by
  rcases h with ⟨L, e, a, b, c, d⟩ | ⟨e, a⟩ <;> rcases h' with ⟨L', e', a', b', c', d'⟩ | ⟨e', a'⟩
  · have := d L' a' c'
    have := d' L a c
    omega
  · exact absurd c (a' L a b)
  · exact absurd c' (a L' a' b')
  · omega
end
section
set_option maxHeartbeats 4000000 in
set_option maxRecDepth 100000 in
/-- leftPast(defects, least) -/
theorem c_SU_leftPast (l : Launch) (dC : Nat → ClassId) (dI : Nat → Nat → Nat) (o on ob oe ok : Nat) (cI : ClassId) (bg en : Nat → Nat) (sc lf kc wd kg tr sp : Nat) (h hf ht : Nat) (fr to : Nat → Nat) (dc : Nat) (le : Nat) (hsc : sc ≤ 30) (hdc : dc ≤ 10) (hle : le < 1000000) (hb1 : ∀ k, k < sc → bg k < 1000000) (he1 : ∀ k, k < sc → en k < 1000000) (ht1 : ∀ d, d < dc → to d ≤ 20000) (hf1 : ∀ d, d < dc → fr d ≤ 20000) : Met l y_SU_leftPast w_SU_leftPast { frames := 0, cells := 0, slots := 0, locals := 0 } (ro_Pc (dC, dI) vwCl [(cI, .int)] [.ref o, .ref h, .int (nI le)] [(o, .inr (4, [.ref on, .ref ob, .ref oe, .int (nI sc), .int (nI lf), .ref ok, .int (nI kc), .int (nI wd), .int (nI kg), .int (nI tr), .int (nI sp)])), (ob, .inl (cI, 30, .inl (aN bg))), (oe, .inl (cI, 30, .inl (aN en))), (h, .inr (1, [.ref hf, .ref ht, .int (nI dc)])), (hf, .inl (cI, 10, .inl (aN fr))), (ht, .inl (cI, 10, .inl (aN to)))]) (ro_Qi (fun r => ∃ x, r = nI x ∧ LPa bg en fr to sc dc le x)) 0 0 ro_no := by
  refine Met.ofW (cc := b_SU_leftPast) (maxL := 6) (ret := (some .int)) (by decide) rfl ?_
  intro p e s m args below meth c s₁ B hml hv
  obtain ⟨rfl, hP, hK⟩ := hv
  have hx := B.exec
  have hb := B.bytes
  have hr := B.returns
  have hts := gw_h (atoms_spec (ws := w_SU_leftPast) B.pre)
  have hown : s.vm.findClass R_SU = some m.cls := findClass_of_methodNamed B.named
  have hlocks := B.notSynchronized
  have hS : va_S ro_no s.heap s.heap [] := va_S.rf
  have hP : va_P (dC, dI) vwCl [(o, .inr (4, [.ref on, .ref ob, .ref oe, .int (nI sc), .int (nI lf), .ref ok, .int (nI kc), .int (nI wd), .int (nI kg), .int (nI tr), .int (nI sp)])), (ob, .inl (cI, 30, .inl (aN bg))), (oe, .inl (cI, 30, .inl (aN en))), (h, .inr (1, [.ref hf, .ref ht, .int (nI dc)])), (hf, .inl (cI, 10, .inl (aN fr))), (ht, .inl (cI, 10, .inl (aN to)))] s.heap := hP
  have hl := lv_entry ([.ref o, .ref h, .int (nI le)]) (n := 6) (Nat.le_of_ble_eq_true rfl)
  rw [lg_entry_eq]
  generalize (lg_sl ([.ref o, .ref h, .int (nI le)]) ++ List.replicate (6 - (lg_sl ([.ref o, .ref h, .int (nI le)])).length) Slot.unset).toArray = ls at hl ⊢
  have hl : lv_has ls 6 [(0, .ref o), (1, .ref h), (2, .int (nI le))] := hl
  refine lv_iload_n hx hb d_SU_leftPast_0 rfl (lv_at hl 2 rfl) ?_
  refine lv_istore_n (lv' := [(3, .int (nI le)), (0, .ref o), (1, .ref h), (2, .int (nI le))]) hx hb d_SU_leftPast_1 rfl hl (by decide) rfl (fun ls hl => ?_)
  refine lv_iconst (v := nI 0) hx hb d_SU_leftPast_2 (by decide +kernel) ?_
  refine lv_istore (lv' := [(4, .int (nI 0)), (3, .int (nI le)), (0, .ref o), (1, .ref h), (2, .int (nI le))]) hx hb d_SU_leftPast_3 hl (by decide) rfl (fun ls hl => ?_)
  have out : ∀ (n_out : Nat) (k : Nat) (q : Nat), (sc + 1 ≤ k + n_out) → (k ≤ sc) → (LPI bg en fr to sc dc le k 0 q) → ∀ (H : Heap) (locs : List Loc) (ls : Array Slot), va_P (dC, dI) vwCl [(o, .inr (4, [.ref on, .ref ob, .ref oe, .int (nI sc), .int (nI lf), .ref ok, .int (nI kc), .int (nI wd), .int (nI kg), .int (nI tr), .int (nI sp)])), (ob, .inl (cI, 30, .inl (aN bg))), (oe, .inl (cI, 30, .inl (aN en))), (h, .inr (1, [.ref hf, .ref ht, .int (nI dc)])), (hf, .inl (cI, 10, .inl (aN fr))), (ht, .inl (cI, 10, .inl (aN to)))] H → va_S ro_no s.heap H locs → lv_has ls 6 [(0, .ref o), (1, .ref h), (2, .int (nI le)), (3, .int (nI q)), (4, .int (nI k))] → W p l e (headSpec w_SU_leftPast { frames := 0, cells := 0, slots := 0, locals := 0 }).room s m [.ref o, .ref h, .int (nI le)].toArray below meth c H locs 0 0 (MQ below (ro_Qi (fun r => ∃ x, r = nI x ∧ LPa bg en fr to sc dc le x)) [.ref o, .ref h, .int (nI le)].toArray s 0 0 ro_no) (F0 m 5 ls []) := by
    intro n_out
    induction n_out with
    | zero =>
      intro k q hm hk hI
      exact absurd hm (by omega)
    | succ n_out ih_out =>
      intro k q hm hk hI H locs ls hP hS hl
      refine lv_iload hx hb d_SU_leftPast_5 (lv_at hl 4 rfl) ?_
      refine lv_aload_n hx hb d_SU_leftPast_7 rfl (lv_at hl 0 rfl) ?_
      refine va_get (D := (dC, dI)) (ci := 4) (v := .int (nI sc)) (C := R_SU) (T := F_SU) (N := 11) hx hb hts in_SU hown hK hP 0 rfl rfl 3 (by decide) (hts _ m_189) (fun _ h9 => h9) rfl d_SU_leftPast_8 ?_
      refine ix_icmp_ge (tgt := 92) hx hb (nI_tI (n := k) (by omega)) (nI_tI (n := sc) (by omega)) d_SU_leftPast_11 (by decide) (fun c_11 => ?_) (fun c_11 => ?_)
      · refine lv_iload_n hx hb d_SU_leftPast_92 rfl (lv_at hl 3 rfl) ?_
        exact W.iret (v := nI q) hx hb hr (fun t ht hW => ⟨⟨nI q, (), rfl, ⟨_, rfl, hI.done (by omega)⟩, trivial⟩, hS.F ht⟩) hS.2.2 d_SU_leftPast_93
      refine lv_iconst (v := nI 0) hx hb d_SU_leftPast_14 (by decide +kernel) ?_
      refine lv_istore (lv' := [(5, .int (nI 0)), (0, .ref o), (1, .ref h), (2, .int (nI le)), (3, .int (nI q)), (4, .int (nI k))]) hx hb d_SU_leftPast_15 hl (by decide) rfl (fun ls hl => ?_)
      have hks : k < sc := by omega
      have hbk := hb1 k hks
      have hek := he1 k hks
      have inn : ∀ (n_inn : Nat) (d : Nat) (q : Nat), (dc + 1 ≤ d + n_inn) → (d ≤ dc) → (LPI bg en fr to sc dc le k d q) → ∀ (H : Heap) (locs : List Loc) (ls : Array Slot), va_P (dC, dI) vwCl [(o, .inr (4, [.ref on, .ref ob, .ref oe, .int (nI sc), .int (nI lf), .ref ok, .int (nI kc), .int (nI wd), .int (nI kg), .int (nI tr), .int (nI sp)])), (ob, .inl (cI, 30, .inl (aN bg))), (oe, .inl (cI, 30, .inl (aN en))), (h, .inr (1, [.ref hf, .ref ht, .int (nI dc)])), (hf, .inl (cI, 10, .inl (aN fr))), (ht, .inl (cI, 10, .inl (aN to)))] H → va_S ro_no s.heap H locs → lv_has ls 6 [(0, .ref o), (1, .ref h), (2, .int (nI le)), (3, .int (nI q)), (4, .int (nI k)), (5, .int (nI d))] → W p l e (headSpec w_SU_leftPast { frames := 0, cells := 0, slots := 0, locals := 0 }).room s m [.ref o, .ref h, .int (nI le)].toArray below meth c H locs 0 0 (MQ below (ro_Qi (fun r => ∃ x, r = nI x ∧ LPa bg en fr to sc dc le x)) [.ref o, .ref h, .int (nI le)].toArray s 0 0 ro_no) (F0 m 17 ls []) := by
        intro n_inn
        induction n_inn with
        | zero =>
          intro d q hm2 hd hI
          exact absurd hm2 (by omega)
        | succ n_inn ih_inn =>
          intro d q hm2 hd hI H locs ls hP hS hl
          refine lv_iload hx hb d_SU_leftPast_17 (lv_at hl 5 rfl) ?_
          refine lv_aload_n hx hb d_SU_leftPast_19 rfl (lv_at hl 1 rfl) ?_
          refine va_get (D := (dC, dI)) (ci := 1) (v := .int (nI dc)) (C := R_DE) (T := F_DE) (N := 3) hx hb hts in_DE hown hK hP 3 rfl rfl 2 (by decide) (hts _ m_142) (fun _ h9 => h9) rfl d_SU_leftPast_20 ?_
          refine ix_icmp_ge (tgt := 86) hx hb (nI_tI (n := d) (by omega)) (nI_tI (n := dc) (by omega)) d_SU_leftPast_23 (by decide) (fun c_23 => ?_) (fun c_23 => ?_)
          · refine lv_iinc (v := nI (k + 1)) (lv' := [(4, .int (nI (k + 1))), (0, .ref o), (1, .ref h), (2, .int (nI le)), (3, .int (nI q)), (5, .int (nI d))]) hx hb d_SU_leftPast_86 hl (k := 4) rfl (n_incN k 1) (by decide) rfl (fun ls hl => ?_)
            refine lv_goto (tgt := 5) hx hb d_SU_leftPast_89 (by decide) ?_
            exact ih_out (k + 1) q (by omega) (by omega) (hI.next (by omega)) _ _ _ hP hS (lv_sub hl [1, 2, 3, 4, 0] rfl)
          have hds : d < dc := by omega
          have htd := ht1 d hds
          have hfd := hf1 d hds
          have hq2 := hI.2.1
          refine lv_iload_n hx hb d_SU_leftPast_26 rfl (lv_at hl 3 rfl) ?_
          refine lv_aload_n hx hb d_SU_leftPast_27 rfl (lv_at hl 0 rfl) ?_
          refine va_get (D := (dC, dI)) (ci := 4) (v := .ref ob) (C := R_SU) (T := F_SU) (N := 11) hx hb hts in_SU hown hK hP 0 rfl rfl 1 (by decide) (hts _ m_185) (fun _ h9 => h9) rfl d_SU_leftPast_28 ?_
          refine lv_iload hx hb d_SU_leftPast_31 (lv_at hl 4 rfl) ?_
          refine ix_ialdN (i := k) hx hb hK hP 1 0 rfl rfl (by omega) (by decide) d_SU_leftPast_33 ?_
          refine lv_iadd hx hb d_SU_leftPast_34 ?_
          refine lv_topr (show _ = nI (q + (bg k)) from nn_add _ _) ?_
          refine lv_aload_n hx hb d_SU_leftPast_35 rfl (lv_at hl 1 rfl) ?_
          refine va_get (D := (dC, dI)) (ci := 1) (v := .ref ht) (C := R_DE) (T := F_DE) (N := 3) hx hb hts in_DE hown hK hP 3 rfl rfl 1 (by decide) (hts _ m_139) (fun _ h9 => h9) rfl d_SU_leftPast_36 ?_
          refine lv_iload hx hb d_SU_leftPast_39 (lv_at hl 5 rfl) ?_
          refine ix_ialdN (i := d) hx hb hK hP 5 0 rfl rfl (by omega) (by decide) d_SU_leftPast_41 ?_
          refine ix_icmp_ge (tgt := 80) hx hb (nI_tI (n := q + (bg k)) (by omega)) (nI_tI (n := to d) (by omega)) d_SU_leftPast_42 (by decide) (fun c_42 => ?_) (fun c_42 => ?_)
          · refine lv_iinc (v := nI (d + 1)) (lv' := [(5, .int (nI (d + 1))), (0, .ref o), (1, .ref h), (2, .int (nI le)), (3, .int (nI q)), (4, .int (nI k))]) hx hb d_SU_leftPast_80 hl (k := 5) rfl (n_incN d 1) (by decide) rfl (fun ls hl => ?_)
            refine lv_goto (tgt := 17) hx hb d_SU_leftPast_83 (by decide) ?_
            exact ih_inn (d + 1) q (by omega) (by omega) (hI.skip (by unfold hit; omega)) _ _ _ hP hS (lv_sub hl [1, 2, 3, 4, 5, 0] rfl)
          refine lv_aload_n hx hb d_SU_leftPast_45 rfl (lv_at hl 1 rfl) ?_
          refine va_get (D := (dC, dI)) (ci := 1) (v := .ref hf) (C := R_DE) (T := F_DE) (N := 3) hx hb hts in_DE hown hK hP 3 rfl rfl 0 (by decide) (hts _ m_136) (fun _ h9 => h9) rfl d_SU_leftPast_46 ?_
          refine lv_iload hx hb d_SU_leftPast_49 (lv_at hl 5 rfl) ?_
          refine ix_ialdN (i := d) hx hb hK hP 4 0 rfl rfl (by omega) (by decide) d_SU_leftPast_51 ?_
          refine lv_iload_n hx hb d_SU_leftPast_52 rfl (lv_at hl 3 rfl) ?_
          refine lv_aload_n hx hb d_SU_leftPast_53 rfl (lv_at hl 0 rfl) ?_
          refine va_get (D := (dC, dI)) (ci := 4) (v := .ref oe) (C := R_SU) (T := F_SU) (N := 11) hx hb hts in_SU hown hK hP 0 rfl rfl 2 (by decide) (hts _ m_187) (fun _ h9 => h9) rfl d_SU_leftPast_54 ?_
          refine lv_iload hx hb d_SU_leftPast_57 (lv_at hl 4 rfl) ?_
          refine ix_ialdN (i := k) hx hb hK hP 2 0 rfl rfl (by omega) (by decide) d_SU_leftPast_59 ?_
          refine lv_iadd hx hb d_SU_leftPast_60 ?_
          refine lv_topr (show _ = nI (q + (en k)) from nn_add _ _) ?_
          refine ix_icmp_ge (tgt := 80) hx hb (nI_tI (n := fr d) (by omega)) (nI_tI (n := q + (en k)) (by omega)) d_SU_leftPast_61 (by decide) (fun c_61 => ?_) (fun c_61 => ?_)
          · refine lv_iinc (v := nI (d + 1)) (lv' := [(5, .int (nI (d + 1))), (0, .ref o), (1, .ref h), (2, .int (nI le)), (3, .int (nI q)), (4, .int (nI k))]) hx hb d_SU_leftPast_80 hl (k := 5) rfl (n_incN d 1) (by decide) rfl (fun ls hl => ?_)
            refine lv_goto (tgt := 17) hx hb d_SU_leftPast_83 (by decide) ?_
            exact ih_inn (d + 1) q (by omega) (by omega) (hI.skip (by unfold hit; omega)) _ _ _ hP hS (lv_sub hl [1, 2, 3, 4, 5, 0] rfl)
          refine lv_aload_n hx hb d_SU_leftPast_64 rfl (lv_at hl 1 rfl) ?_
          refine va_get (D := (dC, dI)) (ci := 1) (v := .ref ht) (C := R_DE) (T := F_DE) (N := 3) hx hb hts in_DE hown hK hP 3 rfl rfl 1 (by decide) (hts _ m_139) (fun _ h9 => h9) rfl d_SU_leftPast_65 ?_
          refine lv_iload hx hb d_SU_leftPast_68 (lv_at hl 5 rfl) ?_
          refine ix_ialdN (i := d) hx hb hK hP 5 0 rfl rfl (by omega) (by decide) d_SU_leftPast_70 ?_
          refine lv_aload_n hx hb d_SU_leftPast_71 rfl (lv_at hl 0 rfl) ?_
          refine va_get (D := (dC, dI)) (ci := 4) (v := .ref ob) (C := R_SU) (T := F_SU) (N := 11) hx hb hts in_SU hown hK hP 0 rfl rfl 1 (by decide) (hts _ m_185) (fun _ h9 => h9) rfl d_SU_leftPast_72 ?_
          refine lv_iload hx hb d_SU_leftPast_75 (lv_at hl 4 rfl) ?_
          refine ix_ialdN (i := k) hx hb hK hP 1 0 rfl rfl (by omega) (by decide) d_SU_leftPast_77 ?_
          refine lv_isub hx hb d_SU_leftPast_78 ?_
          refine lv_topr (show _ = nI ((to d) - (bg k)) from nn_subN (by omega)) ?_
          refine lv_istore_n (lv' := [(3, .int (nI ((to d) - (bg k)))), (0, .ref o), (1, .ref h), (2, .int (nI le)), (4, .int (nI k)), (5, .int (nI d))]) hx hb d_SU_leftPast_79 rfl hl (by decide) rfl (fun ls hl => ?_)
          refine lv_iinc (v := nI (d + 1)) (lv' := [(5, .int (nI (d + 1))), (3, .int (nI ((to d) - (bg k)))), (0, .ref o), (1, .ref h), (2, .int (nI le)), (4, .int (nI k))]) hx hb d_SU_leftPast_80 hl (k := 5) rfl (n_incN d 1) (by decide) rfl (fun ls hl => ?_)
          refine lv_goto (tgt := 17) hx hb d_SU_leftPast_83 (by decide) ?_
          exact ih_inn (d + 1) ((to d) - (bg k)) (by omega) (by omega) (hI.jump hks hds htd (by unfold hit; omega)) _ _ _ hP hS (lv_sub hl [2, 3, 4, 1, 5, 0] rfl)
      exact inn (dc + 1) 0 q (by omega) (by omega) hI _ _ _ hP hS (lv_sub hl [1, 2, 3, 4, 5, 0] rfl)
  exact out (sc + 1) 0 le (by omega) (by omega) (LPI.init bg en fr to sc dc le) _ _ _ hP hS (lv_sub hl [2, 3, 4, 1, 0] rfl)
set_option maxHeartbeats 4000000 in
set_option maxRecDepth 100000 in
/-- leastSoundLeft(defects): the least left without a defect, or -1 -/
theorem c_SU_leastSoundLeft (l : Launch) (dC : Nat → ClassId) (dI : Nat → Nat → Nat) (o on ob oe ok : Nat) (cI : ClassId) (bg en : Nat → Nat) (sc lf kc wd kg tr sp : Nat) (h hf ht : Nat) (fr to : Nat → Nat) (dc : Nat) (hsc : sc ≤ 30) (hdc : dc ≤ 10) (hb1 : ∀ k, k < sc → bg k < 1000000) (he1 : ∀ k, k < sc → en k < 1000000) (ht1 : ∀ d, d < dc → to d ≤ 20000) (hf1 : ∀ d, d < dc → fr d ≤ 20000) (hw : tr + sp ≤ wd) (hw2 : wd ≤ 20000) : Met l y_SU_leastSoundLeft w_SU_leastSoundLeft { frames := 1, cells := 0, slots := 0, locals := 25 } (ro_Pc (dC, dI) vwCl [(cI, .int)] [.ref o, .ref h] [(o, .inr (4, [.ref on, .ref ob, .ref oe, .int (nI sc), .int (nI lf), .ref ok, .int (nI kc), .int (nI wd), .int (nI kg), .int (nI tr), .int (nI sp)])), (ob, .inl (cI, 30, .inl (aN bg))), (oe, .inl (cI, 30, .inl (aN en))), (h, .inr (1, [.ref hf, .ref ht, .int (nI dc)])), (hf, .inl (cI, 10, .inl (aN fr))), (ht, .inl (cI, 10, .inl (aN to)))]) (ro_Qi (fun r => ∃ z, r = zI z ∧ SS bg en fr to sc dc tr (wd - tr - sp) z)) 0 0 ro_no := by
  refine Met.ofW (cc := b_SU_leastSoundLeft) (maxL := 7) (ret := (some .int)) (by decide) rfl ?_
  intro p e s m args below meth c s₁ B hml hv
  obtain ⟨rfl, hP, hK⟩ := hv
  have hx := B.exec
  have hb := B.bytes
  have hr := B.returns
  have hts := gw_h (atoms_spec (ws := w_SU_leastSoundLeft) B.pre)
  have hown : s.vm.findClass R_SU = some m.cls := findClass_of_methodNamed B.named
  have hlocks := B.notSynchronized
  have hS : va_S ro_no s.heap s.heap [] := va_S.rf
  have hP : va_P (dC, dI) vwCl [(o, .inr (4, [.ref on, .ref ob, .ref oe, .int (nI sc), .int (nI lf), .ref ok, .int (nI kc), .int (nI wd), .int (nI kg), .int (nI tr), .int (nI sp)])), (ob, .inl (cI, 30, .inl (aN bg))), (oe, .inl (cI, 30, .inl (aN en))), (h, .inr (1, [.ref hf, .ref ht, .int (nI dc)])), (hf, .inl (cI, 10, .inl (aN fr))), (ht, .inl (cI, 10, .inl (aN to)))] s.heap := hP
  have hl := lv_entry ([.ref o, .ref h]) (n := 7) (Nat.le_of_ble_eq_true rfl)
  rw [lg_entry_eq]
  generalize (lg_sl ([.ref o, .ref h]) ++ List.replicate (7 - (lg_sl ([.ref o, .ref h])).length) Slot.unset).toArray = ls at hl ⊢
  have hl : lv_has ls 7 [(0, .ref o), (1, .ref h)] := hl
  have hpr : sc * dc ≤ 300 := Nat.le_trans (Nat.mul_le_mul hsc hdc) (by decide)
  refine lv_aload_n hx hb d_SU_leastSoundLeft_0 rfl (lv_at hl 0 rfl) ?_
  refine va_get (D := (dC, dI)) (ci := 4) (v := .int (nI wd)) (C := R_SU) (T := F_SU) (N := 11) hx hb hts in_SU hown hK hP 0 rfl rfl 7 (by decide) (hts _ m_195) (fun _ h9 => h9) rfl d_SU_leastSoundLeft_1 ?_
  refine lv_aload_n hx hb d_SU_leastSoundLeft_4 rfl (lv_at hl 0 rfl) ?_
  refine va_get (D := (dC, dI)) (ci := 4) (v := .int (nI tr)) (C := R_SU) (T := F_SU) (N := 11) hx hb hts in_SU hown hK hP 0 rfl rfl 9 (by decide) (hts _ m_197) (fun _ h9 => h9) rfl d_SU_leastSoundLeft_5 ?_
  refine lv_isub hx hb d_SU_leastSoundLeft_8 ?_
  refine lv_topr (show _ = nI (wd - tr) from nn_subN (by omega)) ?_
  refine lv_aload_n hx hb d_SU_leastSoundLeft_9 rfl (lv_at hl 0 rfl) ?_
  refine va_get (D := (dC, dI)) (ci := 4) (v := .int (nI sp)) (C := R_SU) (T := F_SU) (N := 11) hx hb hts in_SU hown hK hP 0 rfl rfl 10 (by decide) (hts _ m_198) (fun _ h9 => h9) rfl d_SU_leastSoundLeft_10 ?_
  refine lv_isub hx hb d_SU_leastSoundLeft_13 ?_
  refine lv_topr (show _ = nI ((wd - tr) - sp) from nn_subN (by omega)) ?_
  refine lv_istore_n (lv' := [(2, .int (nI ((wd - tr) - sp))), (0, .ref o), (1, .ref h)]) hx hb d_SU_leastSoundLeft_14 rfl hl (by decide) rfl (fun ls hl => ?_)
  refine lv_aload_n hx hb d_SU_leastSoundLeft_15 rfl (lv_at hl 1 rfl) ?_
  refine va_get (D := (dC, dI)) (ci := 4) (v := .int (nI sc)) (C := R_SU) (T := F_SU) (N := 11) hx hb hts in_SU hown hK hP 0 rfl rfl 3 (by decide) (hts _ m_189) (fun _ h9 => h9) rfl d_SU_leastSoundLeft_16 ?_
  refine lv_aload_n hx hb d_SU_leastSoundLeft_19 rfl (lv_at hl 2 rfl) ?_
  refine va_get (D := (dC, dI)) (ci := 1) (v := .int (nI dc)) (C := R_DE) (T := F_DE) (N := 3) hx hb hts in_DE hown hK hP 3 rfl rfl 2 (by decide) (hts _ m_142) (fun _ h9 => h9) rfl d_SU_leastSoundLeft_20 ?_
  refine lv_imul hx hb d_SU_leastSoundLeft_23 ?_
  refine lv_topr (show _ = nI (sc * dc) from nn_mul _ _) ?_
  refine lv_istore_n (lv' := [(3, .int (nI (sc * dc))), (2, .int (nI ((wd - tr) - sp))), (0, .ref o), (1, .ref h)]) hx hb d_SU_leastSoundLeft_24 rfl hl (by decide) rfl (fun ls hl => ?_)
  refine lv_aload_n hx hb d_SU_leastSoundLeft_25 rfl (lv_at hl 2 rfl) ?_
  refine va_get (D := (dC, dI)) (ci := 4) (v := .int (nI tr)) (C := R_SU) (T := F_SU) (N := 11) hx hb hts in_SU hown hK hP 0 rfl rfl 9 (by decide) (hts _ m_197) (fun _ h9 => h9) rfl d_SU_leastSoundLeft_26 ?_
  refine lv_istore (lv' := [(4, .int (nI tr)), (3, .int (nI (sc * dc))), (2, .int (nI ((wd - tr) - sp))), (0, .ref o), (1, .ref h)]) hx hb d_SU_leastSoundLeft_29 hl (by decide) rfl (fun ls hl => ?_)
  refine lv_iconst (v := nI 0) hx hb d_SU_leastSoundLeft_31 (by decide +kernel) ?_
  refine lv_istore (lv' := [(5, .int (nI 0)), (4, .int (nI tr)), (3, .int (nI (sc * dc))), (2, .int (nI ((wd - tr) - sp))), (0, .ref o), (1, .ref h)]) hx hb d_SU_leastSoundLeft_32 hl (by decide) rfl (fun ls hl => ?_)
  have out : ∀ (n_out : Nat) (cn : Nat) (q : Nat), (sc * dc + 2 ≤ cn + n_out) → (npas bg to sc dc q + cn ≤ sc * dc) → (tr ≤ q) → (q = tr ∨ q ≤ 20000) → (∀ L', tr ≤ L' → okL bg en fr to sc dc L' → q ≤ L') → ∀ (H : Heap) (locs : List Loc) (ls : Array Slot), va_P (dC, dI) vwCl [(o, .inr (4, [.ref on, .ref ob, .ref oe, .int (nI sc), .int (nI lf), .ref ok, .int (nI kc), .int (nI wd), .int (nI kg), .int (nI tr), .int (nI sp)])), (ob, .inl (cI, 30, .inl (aN bg))), (oe, .inl (cI, 30, .inl (aN en))), (h, .inr (1, [.ref hf, .ref ht, .int (nI dc)])), (hf, .inl (cI, 10, .inl (aN fr))), (ht, .inl (cI, 10, .inl (aN to)))] H → va_S ro_no s.heap H locs → lv_has ls 7 [(0, .ref o), (1, .ref h), (2, .int (nI (wd - tr - sp))), (3, .int (nI (sc * dc))), (4, .int (nI q)), (5, .int (nI cn))] → W p l e (headSpec w_SU_leastSoundLeft { frames := 1, cells := 0, slots := 0, locals := 25 }).room s m [.ref o, .ref h].toArray below meth c H locs 0 0 (MQ below (ro_Qi (fun r => ∃ z, r = zI z ∧ SS bg en fr to sc dc tr (wd - tr - sp) z)) [.ref o, .ref h].toArray s 0 0 ro_no) (F0 m 34 ls []) := by
    intro n_out
    induction n_out with
    | zero =>
      intro cn q hm hN hq hq2 hmin
      exact absurd hm (by omega)
    | succ n_out ih_out =>
      intro cn q hm hN hq hq2 hmin H locs ls hP hS hl
      refine lv_iload hx hb d_SU_leastSoundLeft_34 (lv_at hl 5 rfl) ?_
      refine lv_iload_n hx hb d_SU_leastSoundLeft_36 rfl (lv_at hl 3 rfl) ?_
      refine ix_icmp_gt (tgt := 75) hx hb (nI_tI (n := cn) (by omega)) (nI_tI (n := sc * dc) (by omega)) d_SU_leastSoundLeft_37 (by decide) (fun c_37 => absurd c_37 (by have := hN; omega)) (fun c_37 => ?_)
      refine lv_iload hx hb d_SU_leastSoundLeft_40 (lv_at hl 4 rfl) ?_
      refine lv_iload_n hx hb d_SU_leastSoundLeft_42 rfl (lv_at hl 2 rfl) ?_
      refine ix_icmp_gt (tgt := 75) hx hb (nI_tI (n := q) (by omega)) (nI_tI (n := wd - tr - sp) (by omega)) d_SU_leastSoundLeft_43 (by decide) (fun c_43 => ?_) (fun c_43 => ?_)
      · refine lv_iconst (v := zI (-1)) hx hb d_SU_leastSoundLeft_75 (by decide +kernel) ?_
        exact W.iret (v := zI (-1)) hx hb hr (fun t ht hW => ⟨⟨zI (-1), (), rfl, ⟨_, rfl, Or.inr ⟨rfl, fun L h1 h2 ok => by have := hmin L h1 ok; omega⟩⟩, trivial⟩, hS.F ht⟩) hS.2.2 d_SU_leastSoundLeft_76
      refine lv_aload_n hx hb d_SU_leastSoundLeft_46 rfl (lv_at hl 0 rfl) ?_
      refine lv_aload_n hx hb d_SU_leastSoundLeft_47 rfl (lv_at hl 1 rfl) ?_
      refine lv_iload hx hb d_SU_leastSoundLeft_48 (lv_at hl 4 rfl) ?_
      have hPc := hP.sub (ws' := [(o, .inr (4, [.ref on, .ref ob, .ref oe, .int (nI sc), .int (nI lf), .ref ok, .int (nI kc), .int (nI wd), .int (nI kg), .int (nI tr), .int (nI sp)])), (ob, .inl (cI, 30, .inl (aN bg))), (oe, .inl (cI, 30, .inl (aN en))), (h, .inr (1, [.ref hf, .ref ht, .int (nI dc)])), (hf, .inl (cI, 10, .inl (aN fr))), (ht, .inl (cI, 10, .inl (aN to)))]) [0, 1, 2, 3, 4, 5] rfl
      refine ro_calli (va_runV (As := [.ref h, .int (nI q)]) (rest := []) ⟨hx, hb, hml, hown, hts⟩ (c_SU_leftPast l dC dI o on ob oe ok cI bg en sc lf kc wd kg tr sp h hf ht fr to dc q hsc hdc (by omega) hb1 he1 ht1 hf1) (cwV 2 hts (gw_V m_561 m_563 s_15 m_7 m_564) rfl rfl rfl (by decide +kernel) ⟨Nat.le_of_ble_eq_true rfl, Nat.le_of_ble_eq_true rfl⟩) ⟨ro_blind, va_recv hK hPc (ci := 4) (q0 := 0) rfl rfl, fun U hU hW => ⟨rfl, by rw [hU]; exact hPc, va_K.moved hW.alike hK⟩⟩ rfl rfl hl.1 rfl (lv_room (Nat.le_of_ble_eq_true rfl)) d_SU_leastSoundLeft_50 ⟨Nat.le_of_ble_eq_true rfl, Nat.le_of_ble_eq_true rfl⟩) hS hP (fun r H locs er hP hS => ?_)
      obtain ⟨x, rfl, hLP⟩ := er
      have hx1 := hLP.1
      have hx2 := hLP.2.1
      refine lv_istore (lv' := [(6, .int (nI x)), (0, .ref o), (1, .ref h), (2, .int (nI (wd - tr - sp))), (3, .int (nI (sc * dc))), (4, .int (nI q)), (5, .int (nI cn))]) hx hb d_SU_leastSoundLeft_53 hl (by decide) rfl (fun ls hl => ?_)
      refine lv_iload hx hb d_SU_leastSoundLeft_55 (lv_at hl 0 rfl) ?_
      refine lv_iload hx hb d_SU_leastSoundLeft_57 (lv_at hl 5 rfl) ?_
      refine ix_icmp_ne (tgt := 65) hx hb (nI_tI (n := x) (by omega)) (nI_tI (n := q) (by omega)) d_SU_leastSoundLeft_59 (by decide) (fun c_59 => ?_) (fun c_59 => ?_)
      · refine lv_iload hx hb d_SU_leastSoundLeft_65 (lv_at hl 0 rfl) ?_
        refine lv_istore (lv' := [(4, .int (nI x)), (6, .int (nI x)), (0, .ref o), (1, .ref h), (2, .int (nI (wd - tr - sp))), (3, .int (nI (sc * dc))), (5, .int (nI cn))]) hx hb d_SU_leastSoundLeft_67 hl (by decide) rfl (fun ls hl => ?_)
        refine lv_iinc (v := nI (cn + 1)) (lv' := [(5, .int (nI (cn + 1))), (4, .int (nI x)), (6, .int (nI x)), (0, .ref o), (1, .ref h), (2, .int (nI (wd - tr - sp))), (3, .int (nI (sc * dc)))]) hx hb d_SU_leastSoundLeft_69 hl (k := 6) rfl (n_incN cn 1) (by decide) rfl (fun ls hl => ?_)
        refine lv_goto (tgt := 34) hx hb d_SU_leastSoundLeft_72 (by decide) ?_
        exact ih_out (cn + 1) x (by omega) (by have := hLP.2.2.2.2 (by omega); omega) (by omega) (by omega) (fun L' h1 h2 => hLP.2.2.1 L' (hmin L' h1 h2) h2) _ _ _ hP hS (lv_sub hl [3, 4, 5, 6, 1, 0] rfl)
      refine lv_iload hx hb d_SU_leastSoundLeft_62 (lv_at hl 5 rfl) ?_
      refine lv_topr (zI_n q) ?_
      exact W.iret (v := zI q) hx hb hr (fun t ht hW => ⟨⟨zI q, (), rfl, ⟨_, rfl, Or.inl ⟨q, rfl, hq, by omega, hLP.2.2.2.1 (by omega), hmin⟩⟩, trivial⟩, hS.F ht⟩) hS.2.2 d_SU_leastSoundLeft_64
  exact out (sc * dc + 2) 0 tr (by omega) (by rw [Nat.add_zero]; exact npas_le) (Nat.le_refl _) (Or.inl rfl) (fun _ h _ => h) _ _ _ hP hS (lv_sub hl [4, 5, 3, 2, 1, 0] rfl)
end
section
/-! the order of set-ups: sets are numbers below 512 -/
def bit (S b : Nat) : Nat := S / 2 ^ b % 2
def clr (S b : Nat) : Nat := if S / 2 ^ b % 2 = 1 then S - 2 ^ b else S
def sto (S b : Nat) : Nat := if S / 2 ^ b % 2 = 1 then S else S + 2 ^ b
set_option maxRecDepth 100000 in
theorem bt_bit : ∀ S, S < 512 → ∀ b, b < 9 → (nI S >>> (nI b &&& 31)) &&& nI 1 = nI (bit S b) := by decide +kernel
set_option maxRecDepth 100000 in
theorem bt_clr : ∀ S, S < 512 → ∀ b, b < 9 → nI S &&& ((nI 1 <<< (nI b &&& 31)) ^^^ zI (-1)) = nI (clr S b) := by decide +kernel
set_option maxRecDepth 100000 in
theorem bt_sto : ∀ S, S < 512 → ∀ b, b < 9 → nI S ||| (nI 1 <<< (nI b &&& 31)) = nI (sto S b) := by decide +kernel
theorem bt_pow : ∀ b, b < 10 → nI 1 <<< (nI b &&& 31) = nI (2 ^ b) := by decide +kernel
theorem clr_le (S b : Nat) : clr S b ≤ S := by
  unfold clr
  split
  · exact Nat.sub_le _ _
  · exact Nat.le_refl _
theorem bit_01 (S b : Nat) : bit S b = 0 ∨ bit S b = 1 := by unfold bit; omega
/-- the moves from la (none: -1) to x -/
def stp (sp : Nat → Nat) (la : Int) (x : Nat) : Nat := if la = -1 then 0 else sp (la.toNat * 9 + x)
/-- the moves by way of x -/
def thr (sp fw : Nat → Nat) (S : Nat) (la : Int) (x : Nat) : Nat := stp sp la x + fw (clr S x * 9 + x)
/-- the lowest of the set below n by way of which the moves are fewest, or -1 -/
def LN (f : Nat → Nat) (S n : Nat) (lo : Int) : Prop := (lo = -1 ∧ ∀ y, y < n → bit S y = 0) ∨ (∃ x : Nat, lo = x ∧ x < n ∧ bit S x = 1 ∧ ∀ y, y < n → bit S y = 1 → f x ≤ f y ∧ (y < x → f x < f y))
def LNI (f : Nat → Nat) (S n : Nat) (lo : Int) (le : Nat) : Prop := (lo = -1 ∧ ∀ y, y < n → bit S y = 0) ∨ (∃ x : Nat, lo = x ∧ le = f x ∧ x < n ∧ bit S x = 1 ∧ ∀ y, y < n → bit S y = 1 → f x ≤ f y ∧ (y < x → f x < f y))
theorem LNI.ln {f : Nat → Nat} {S n : Nat} {lo : Int} {le : Nat} (h : LNI f S n lo le) : LN f S n lo := by
  rcases h with h | ⟨x, h1, -, h2⟩
  · exact Or.inl h
  · exact Or.inr ⟨x, h1, h2⟩
theorem LNI.init (f : Nat → Nat) (S : Nat) (le : Nat) : LNI f S 0 (-1) le := Or.inl ⟨rfl, fun _ h => by omega⟩
theorem LNI.range {f : Nat → Nat} {S n : Nat} {lo : Int} {le : Nat} (h : LNI f S n lo le) : -1 ≤ lo ∧ lo < n := by
  rcases h with ⟨h, _⟩ | ⟨x, h1, _, h2, _⟩ <;> omega
theorem LNI.skip {f : Nat → Nat} {S n : Nat} {lo : Int} {le : Nat} (h : LNI f S n lo le) (hb : bit S n = 0) : LNI f S (n + 1) lo le := by
  rcases h with ⟨h, h2⟩ | ⟨x, h1, h0, h2, h3, h4⟩
  · exact Or.inl ⟨h, lt_s h2 hb⟩
  · exact Or.inr ⟨x, h1, h0, by omega, h3, lt_s h4 (fun g => by omega)⟩
theorem LNI.keep {f : Nat → Nat} {S n : Nat} {lo : Int} {le : Nat} (h : LNI f S n lo le) (h1 : ¬ lo = -1) (h2 : le ≤ f n) : LNI f S (n + 1) lo le := by
  rcases h with ⟨h, _⟩ | ⟨x, g1, g0, g2, g3, g4⟩
  · exact absurd h h1
  · exact Or.inr ⟨x, g1, g0, by omega, g3, lt_s g4 (fun _ => ⟨by omega, fun g => by omega⟩)⟩
theorem LNI.take {f : Nat → Nat} {S n : Nat} {lo : Int} {le : Nat} (h : LNI f S n lo le) (hb : bit S n = 1) (h1 : lo = -1 ∨ f n < le) : LNI f S (n + 1) (n : Int) (f n) := by
  refine Or.inr ⟨n, rfl, rfl, by omega, hb, lt_s (fun y hy hb2 => ?_) (fun _ => ⟨Nat.le_refl _, fun g => by omega⟩)⟩
  rcases h with ⟨h, h2⟩ | ⟨x, g1, g0, g2, g3, g4⟩
  · have := h2 y hy
    omega
  · have := (g4 y hy hb2).1
    rcases h1 with h1 | h1 <;> omega
theorem d_SQ_init_0 : decode b_SQ_init 0 = .ok (.aload_n 0, 1) := by decide +kernel
theorem d_SQ_init_1 : decode b_SQ_init 1 = .ok (.invokespecial 3, 3) := by decide +kernel
theorem d_SQ_init_4 : decode b_SQ_init 4 = .ok (.aload_n 0, 1) := by decide +kernel
theorem d_SQ_init_5 : decode b_SQ_init 5 = .ok (.bipush 9, 2) := by decide +kernel
theorem d_SQ_init_7 : decode b_SQ_init 7 = .ok (.newarray .int, 2) := by decide +kernel
theorem d_SQ_init_9 : decode b_SQ_init 9 = .ok (.putfield 9, 3) := by decide +kernel
theorem d_SQ_init_12 : decode b_SQ_init 12 = .ok (.aload_n 0, 1) := by decide +kernel
theorem d_SQ_init_13 : decode b_SQ_init 13 = .ok (.iconst 0, 1) := by decide +kernel
theorem d_SQ_init_14 : decode b_SQ_init 14 = .ok (.putfield 15, 3) := by decide +kernel
theorem d_SQ_init_17 : decode b_SQ_init 17 = .ok (.aload_n 0, 1) := by decide +kernel
theorem d_SQ_init_18 : decode b_SQ_init 18 = .ok (.iconst 0, 1) := by decide +kernel
theorem d_SQ_init_19 : decode b_SQ_init 19 = .ok (.putfield 19, 3) := by decide +kernel
theorem d_SQ_init_22 : decode b_SQ_init 22 = .ok (.aload_n 0, 1) := by decide +kernel
theorem d_SQ_init_23 : decode b_SQ_init 23 = .ok (.bipush 81, 2) := by decide +kernel
theorem d_SQ_init_25 : decode b_SQ_init 25 = .ok (.newarray .int, 2) := by decide +kernel
theorem d_SQ_init_27 : decode b_SQ_init 27 = .ok (.putfield 23, 3) := by decide +kernel
theorem d_SQ_init_30 : decode b_SQ_init 30 = .ok (.aload_n 0, 1) := by decide +kernel
theorem d_SQ_init_31 : decode b_SQ_init 31 = .ok (.sipush 4608, 3) := by decide +kernel
theorem d_SQ_init_34 : decode b_SQ_init 34 = .ok (.newarray .int, 2) := by decide +kernel
theorem d_SQ_init_36 : decode b_SQ_init 36 = .ok (.putfield 26, 3) := by decide +kernel
theorem d_SQ_init_39 : decode b_SQ_init 39 = .ok (.return_, 1) := by decide +kernel
theorem d_SQ_find_0 : decode b_SQ_find 0 = .ok (.aload_n 0, 1) := by decide +kernel
theorem d_SQ_find_1 : decode b_SQ_find 1 = .ok (.getfield 19, 3) := by decide +kernel
theorem d_SQ_find_4 : decode b_SQ_find 4 = .ok (.ifCond .eq (4), 3) := by decide +kernel
theorem d_SQ_find_7 : decode b_SQ_find 7 = .ok (.return_, 1) := by decide +kernel
theorem d_SQ_find_8 : decode b_SQ_find 8 = .ok (.aload_n 0, 1) := by decide +kernel
theorem d_SQ_find_9 : decode b_SQ_find 9 = .ok (.aload_n 1, 1) := by decide +kernel
theorem d_SQ_find_10 : decode b_SQ_find 10 = .ok (.iload_n 2, 1) := by decide +kernel
theorem d_SQ_find_11 : decode b_SQ_find 11 = .ok (.invokevirtual 29, 3) := by decide +kernel
theorem d_SQ_find_14 : decode b_SQ_find 14 = .ok (.aload_n 0, 1) := by decide +kernel
theorem d_SQ_find_15 : decode b_SQ_find 15 = .ok (.iload_n 2, 1) := by decide +kernel
theorem d_SQ_find_16 : decode b_SQ_find 16 = .ok (.invokevirtual 33, 3) := by decide +kernel
theorem d_SQ_find_19 : decode b_SQ_find 19 = .ok (.aload_n 0, 1) := by decide +kernel
theorem d_SQ_find_20 : decode b_SQ_find 20 = .ok (.iload_n 2, 1) := by decide +kernel
theorem d_SQ_find_21 : decode b_SQ_find 21 = .ok (.invokevirtual 37, 3) := by decide +kernel
theorem d_SQ_find_24 : decode b_SQ_find 24 = .ok (.aload_n 0, 1) := by decide +kernel
theorem d_SQ_find_25 : decode b_SQ_find 25 = .ok (.iconst 1, 1) := by decide +kernel
theorem d_SQ_find_26 : decode b_SQ_find 26 = .ok (.putfield 19, 3) := by decide +kernel
theorem d_SQ_find_29 : decode b_SQ_find 29 = .ok (.return_, 1) := by decide +kernel
theorem d_SQ_measureSteps_0 : decode b_SQ_measureSteps 0 = .ok (.iconst 0, 1) := by decide +kernel
theorem d_SQ_measureSteps_1 : decode b_SQ_measureSteps 1 = .ok (.istore_n 3, 1) := by decide +kernel
theorem d_SQ_measureSteps_2 : decode b_SQ_measureSteps 2 = .ok (.iload_n 3, 1) := by decide +kernel
theorem d_SQ_measureSteps_3 : decode b_SQ_measureSteps 3 = .ok (.iload_n 2, 1) := by decide +kernel
theorem d_SQ_measureSteps_4 : decode b_SQ_measureSteps 4 = .ok (.if_icmp .ge (46), 3) := by decide +kernel
theorem d_SQ_measureSteps_7 : decode b_SQ_measureSteps 7 = .ok (.iconst 0, 1) := by decide +kernel
theorem d_SQ_measureSteps_8 : decode b_SQ_measureSteps 8 = .ok (.istore 4, 2) := by decide +kernel
theorem d_SQ_measureSteps_10 : decode b_SQ_measureSteps 10 = .ok (.iload 4, 2) := by decide +kernel
theorem d_SQ_measureSteps_12 : decode b_SQ_measureSteps 12 = .ok (.iload_n 2, 1) := by decide +kernel
theorem d_SQ_measureSteps_13 : decode b_SQ_measureSteps 13 = .ok (.if_icmp .ge (31), 3) := by decide +kernel
theorem d_SQ_measureSteps_16 : decode b_SQ_measureSteps 16 = .ok (.aload_n 0, 1) := by decide +kernel
theorem d_SQ_measureSteps_17 : decode b_SQ_measureSteps 17 = .ok (.getfield 23, 3) := by decide +kernel
theorem d_SQ_measureSteps_20 : decode b_SQ_measureSteps 20 = .ok (.iload_n 3, 1) := by decide +kernel
theorem d_SQ_measureSteps_21 : decode b_SQ_measureSteps 21 = .ok (.bipush 9, 2) := by decide +kernel
theorem d_SQ_measureSteps_23 : decode b_SQ_measureSteps 23 = .ok (.imul, 1) := by decide +kernel
theorem d_SQ_measureSteps_24 : decode b_SQ_measureSteps 24 = .ok (.iload 4, 2) := by decide +kernel
theorem d_SQ_measureSteps_26 : decode b_SQ_measureSteps 26 = .ok (.iadd, 1) := by decide +kernel
theorem d_SQ_measureSteps_27 : decode b_SQ_measureSteps 27 = .ok (.aload_n 1, 1) := by decide +kernel
theorem d_SQ_measureSteps_28 : decode b_SQ_measureSteps 28 = .ok (.iload 4, 2) := by decide +kernel
theorem d_SQ_measureSteps_30 : decode b_SQ_measureSteps 30 = .ok (.aaload, 1) := by decide +kernel
theorem d_SQ_measureSteps_31 : decode b_SQ_measureSteps 31 = .ok (.aload_n 1, 1) := by decide +kernel
theorem d_SQ_measureSteps_32 : decode b_SQ_measureSteps 32 = .ok (.iload_n 3, 1) := by decide +kernel
theorem d_SQ_measureSteps_33 : decode b_SQ_measureSteps 33 = .ok (.aaload, 1) := by decide +kernel
theorem d_SQ_measureSteps_34 : decode b_SQ_measureSteps 34 = .ok (.invokevirtual 40, 3) := by decide +kernel
theorem d_SQ_measureSteps_37 : decode b_SQ_measureSteps 37 = .ok (.iastore, 1) := by decide +kernel
theorem d_SQ_measureSteps_38 : decode b_SQ_measureSteps 38 = .ok (.iinc 4 1, 3) := by decide +kernel
theorem d_SQ_measureSteps_41 : decode b_SQ_measureSteps 41 = .ok (.goto (-31), 3) := by decide +kernel
theorem d_SQ_measureSteps_44 : decode b_SQ_measureSteps 44 = .ok (.iinc 3 1, 3) := by decide +kernel
theorem d_SQ_measureSteps_47 : decode b_SQ_measureSteps 47 = .ok (.goto (-45), 3) := by decide +kernel
theorem d_SQ_measureSteps_50 : decode b_SQ_measureSteps 50 = .ok (.return_, 1) := by decide +kernel
theorem d_SQ_measureSets_0 : decode b_SQ_measureSets 0 = .ok (.iconst 0, 1) := by decide +kernel
theorem d_SQ_measureSets_1 : decode b_SQ_measureSets 1 = .ok (.istore_n 2, 1) := by decide +kernel
theorem d_SQ_measureSets_2 : decode b_SQ_measureSets 2 = .ok (.iload_n 2, 1) := by decide +kernel
theorem d_SQ_measureSets_3 : decode b_SQ_measureSets 3 = .ok (.iconst 1, 1) := by decide +kernel
theorem d_SQ_measureSets_4 : decode b_SQ_measureSets 4 = .ok (.iload_n 1, 1) := by decide +kernel
theorem d_SQ_measureSets_5 : decode b_SQ_measureSets 5 = .ok (.ishl, 1) := by decide +kernel
theorem d_SQ_measureSets_6 : decode b_SQ_measureSets 6 = .ok (.if_icmp .ge (68), 3) := by decide +kernel
theorem d_SQ_measureSets_9 : decode b_SQ_measureSets 9 = .ok (.iconst 0, 1) := by decide +kernel
theorem d_SQ_measureSets_10 : decode b_SQ_measureSets 10 = .ok (.istore_n 3, 1) := by decide +kernel
theorem d_SQ_measureSets_11 : decode b_SQ_measureSets 11 = .ok (.iload_n 3, 1) := by decide +kernel
theorem d_SQ_measureSets_12 : decode b_SQ_measureSets 12 = .ok (.iload_n 1, 1) := by decide +kernel
theorem d_SQ_measureSets_13 : decode b_SQ_measureSets 13 = .ok (.if_icmp .ge (55), 3) := by decide +kernel
theorem d_SQ_measureSets_16 : decode b_SQ_measureSets 16 = .ok (.iload_n 2, 1) := by decide +kernel
theorem d_SQ_measureSets_17 : decode b_SQ_measureSets 17 = .ok (.iload_n 3, 1) := by decide +kernel
theorem d_SQ_measureSets_18 : decode b_SQ_measureSets 18 = .ok (.ishr, 1) := by decide +kernel
theorem d_SQ_measureSets_19 : decode b_SQ_measureSets 19 = .ok (.iconst 1, 1) := by decide +kernel
theorem d_SQ_measureSets_20 : decode b_SQ_measureSets 20 = .ok (.iand, 1) := by decide +kernel
theorem d_SQ_measureSets_21 : decode b_SQ_measureSets 21 = .ok (.ifCond .ne (41), 3) := by decide +kernel
theorem d_SQ_measureSets_24 : decode b_SQ_measureSets 24 = .ok (.aload_n 0, 1) := by decide +kernel
theorem d_SQ_measureSets_25 : decode b_SQ_measureSets 25 = .ok (.iload_n 2, 1) := by decide +kernel
theorem d_SQ_measureSets_26 : decode b_SQ_measureSets 26 = .ok (.iload_n 3, 1) := by decide +kernel
theorem d_SQ_measureSets_27 : decode b_SQ_measureSets 27 = .ok (.iload_n 1, 1) := by decide +kernel
theorem d_SQ_measureSets_28 : decode b_SQ_measureSets 28 = .ok (.invokevirtual 46, 3) := by decide +kernel
theorem d_SQ_measureSets_31 : decode b_SQ_measureSets 31 = .ok (.istore 4, 2) := by decide +kernel
theorem d_SQ_measureSets_33 : decode b_SQ_measureSets 33 = .ok (.aload_n 0, 1) := by decide +kernel
theorem d_SQ_measureSets_34 : decode b_SQ_measureSets 34 = .ok (.getfield 26, 3) := by decide +kernel
theorem d_SQ_measureSets_37 : decode b_SQ_measureSets 37 = .ok (.iload_n 2, 1) := by decide +kernel
theorem d_SQ_measureSets_38 : decode b_SQ_measureSets 38 = .ok (.bipush 9, 2) := by decide +kernel
theorem d_SQ_measureSets_40 : decode b_SQ_measureSets 40 = .ok (.imul, 1) := by decide +kernel
theorem d_SQ_measureSets_41 : decode b_SQ_measureSets 41 = .ok (.iload_n 3, 1) := by decide +kernel
theorem d_SQ_measureSets_42 : decode b_SQ_measureSets 42 = .ok (.iadd, 1) := by decide +kernel
theorem d_SQ_measureSets_43 : decode b_SQ_measureSets 43 = .ok (.iload 4, 2) := by decide +kernel
theorem d_SQ_measureSets_45 : decode b_SQ_measureSets 45 = .ok (.iconst (-1), 1) := by decide +kernel
theorem d_SQ_measureSets_46 : decode b_SQ_measureSets 46 = .ok (.if_icmp .ne (7), 3) := by decide +kernel
theorem d_SQ_measureSets_49 : decode b_SQ_measureSets 49 = .ok (.iconst 0, 1) := by decide +kernel
theorem d_SQ_measureSets_50 : decode b_SQ_measureSets 50 = .ok (.goto (11), 3) := by decide +kernel
theorem d_SQ_measureSets_53 : decode b_SQ_measureSets 53 = .ok (.aload_n 0, 1) := by decide +kernel
theorem d_SQ_measureSets_54 : decode b_SQ_measureSets 54 = .ok (.iload_n 2, 1) := by decide +kernel
theorem d_SQ_measureSets_55 : decode b_SQ_measureSets 55 = .ok (.iload_n 3, 1) := by decide +kernel
theorem d_SQ_measureSets_56 : decode b_SQ_measureSets 56 = .ok (.iload 4, 2) := by decide +kernel
theorem d_SQ_measureSets_58 : decode b_SQ_measureSets 58 = .ok (.invokevirtual 50, 3) := by decide +kernel
theorem d_SQ_measureSets_61 : decode b_SQ_measureSets 61 = .ok (.iastore, 1) := by decide +kernel
theorem d_SQ_measureSets_62 : decode b_SQ_measureSets 62 = .ok (.iinc 3 1, 3) := by decide +kernel
theorem d_SQ_measureSets_65 : decode b_SQ_measureSets 65 = .ok (.goto (-54), 3) := by decide +kernel
theorem d_SQ_measureSets_68 : decode b_SQ_measureSets 68 = .ok (.iinc 2 1, 3) := by decide +kernel
theorem d_SQ_measureSets_71 : decode b_SQ_measureSets 71 = .ok (.goto (-69), 3) := by decide +kernel
theorem d_SQ_measureSets_74 : decode b_SQ_measureSets 74 = .ok (.return_, 1) := by decide +kernel
theorem d_SQ_choose_0 : decode b_SQ_choose 0 = .ok (.aload_n 0, 1) := by decide +kernel
theorem d_SQ_choose_1 : decode b_SQ_choose 1 = .ok (.iconst 0, 1) := by decide +kernel
theorem d_SQ_choose_2 : decode b_SQ_choose 2 = .ok (.putfield 15, 3) := by decide +kernel
theorem d_SQ_choose_5 : decode b_SQ_choose 5 = .ok (.iconst 1, 1) := by decide +kernel
theorem d_SQ_choose_6 : decode b_SQ_choose 6 = .ok (.iload_n 1, 1) := by decide +kernel
theorem d_SQ_choose_7 : decode b_SQ_choose 7 = .ok (.ishl, 1) := by decide +kernel
theorem d_SQ_choose_8 : decode b_SQ_choose 8 = .ok (.iconst 1, 1) := by decide +kernel
theorem d_SQ_choose_9 : decode b_SQ_choose 9 = .ok (.isub, 1) := by decide +kernel
theorem d_SQ_choose_10 : decode b_SQ_choose 10 = .ok (.istore_n 2, 1) := by decide +kernel
theorem d_SQ_choose_11 : decode b_SQ_choose 11 = .ok (.iconst (-1), 1) := by decide +kernel
theorem d_SQ_choose_12 : decode b_SQ_choose 12 = .ok (.istore_n 3, 1) := by decide +kernel
theorem d_SQ_choose_13 : decode b_SQ_choose 13 = .ok (.iconst 0, 1) := by decide +kernel
theorem d_SQ_choose_14 : decode b_SQ_choose 14 = .ok (.istore 4, 2) := by decide +kernel
theorem d_SQ_choose_16 : decode b_SQ_choose 16 = .ok (.iload 4, 2) := by decide +kernel
theorem d_SQ_choose_18 : decode b_SQ_choose 18 = .ok (.iload_n 1, 1) := by decide +kernel
theorem d_SQ_choose_19 : decode b_SQ_choose 19 = .ok (.if_icmp .ge (62), 3) := by decide +kernel
theorem d_SQ_choose_22 : decode b_SQ_choose 22 = .ok (.aload_n 0, 1) := by decide +kernel
theorem d_SQ_choose_23 : decode b_SQ_choose 23 = .ok (.iload_n 2, 1) := by decide +kernel
theorem d_SQ_choose_24 : decode b_SQ_choose 24 = .ok (.iload_n 3, 1) := by decide +kernel
theorem d_SQ_choose_25 : decode b_SQ_choose 25 = .ok (.iload_n 1, 1) := by decide +kernel
theorem d_SQ_choose_26 : decode b_SQ_choose 26 = .ok (.invokevirtual 46, 3) := by decide +kernel
theorem d_SQ_choose_29 : decode b_SQ_choose 29 = .ok (.istore 5, 2) := by decide +kernel
theorem d_SQ_choose_31 : decode b_SQ_choose 31 = .ok (.iload 5, 2) := by decide +kernel
theorem d_SQ_choose_33 : decode b_SQ_choose 33 = .ok (.iconst (-1), 1) := by decide +kernel
theorem d_SQ_choose_34 : decode b_SQ_choose 34 = .ok (.if_icmp .ne (4), 3) := by decide +kernel
theorem d_SQ_choose_37 : decode b_SQ_choose 37 = .ok (.return_, 1) := by decide +kernel
theorem d_SQ_choose_38 : decode b_SQ_choose 38 = .ok (.aload_n 0, 1) := by decide +kernel
theorem d_SQ_choose_39 : decode b_SQ_choose 39 = .ok (.dup, 1) := by decide +kernel
theorem d_SQ_choose_40 : decode b_SQ_choose 40 = .ok (.getfield 15, 3) := by decide +kernel
theorem d_SQ_choose_43 : decode b_SQ_choose 43 = .ok (.aload_n 0, 1) := by decide +kernel
theorem d_SQ_choose_44 : decode b_SQ_choose 44 = .ok (.iload_n 3, 1) := by decide +kernel
theorem d_SQ_choose_45 : decode b_SQ_choose 45 = .ok (.iload 5, 2) := by decide +kernel
theorem d_SQ_choose_47 : decode b_SQ_choose 47 = .ok (.invokevirtual 53, 3) := by decide +kernel
theorem d_SQ_choose_50 : decode b_SQ_choose 50 = .ok (.iadd, 1) := by decide +kernel
theorem d_SQ_choose_51 : decode b_SQ_choose 51 = .ok (.putfield 15, 3) := by decide +kernel
theorem d_SQ_choose_54 : decode b_SQ_choose 54 = .ok (.aload_n 0, 1) := by decide +kernel
theorem d_SQ_choose_55 : decode b_SQ_choose 55 = .ok (.getfield 9, 3) := by decide +kernel
theorem d_SQ_choose_58 : decode b_SQ_choose 58 = .ok (.iload 4, 2) := by decide +kernel
theorem d_SQ_choose_60 : decode b_SQ_choose 60 = .ok (.iload 5, 2) := by decide +kernel
theorem d_SQ_choose_62 : decode b_SQ_choose 62 = .ok (.iastore, 1) := by decide +kernel
theorem d_SQ_choose_63 : decode b_SQ_choose 63 = .ok (.iload_n 2, 1) := by decide +kernel
theorem d_SQ_choose_64 : decode b_SQ_choose 64 = .ok (.iconst 1, 1) := by decide +kernel
theorem d_SQ_choose_65 : decode b_SQ_choose 65 = .ok (.iload 5, 2) := by decide +kernel
theorem d_SQ_choose_67 : decode b_SQ_choose 67 = .ok (.ishl, 1) := by decide +kernel
theorem d_SQ_choose_68 : decode b_SQ_choose 68 = .ok (.iconst (-1), 1) := by decide +kernel
theorem d_SQ_choose_69 : decode b_SQ_choose 69 = .ok (.ixor, 1) := by decide +kernel
theorem d_SQ_choose_70 : decode b_SQ_choose 70 = .ok (.iand, 1) := by decide +kernel
theorem d_SQ_choose_71 : decode b_SQ_choose 71 = .ok (.istore_n 2, 1) := by decide +kernel
theorem d_SQ_choose_72 : decode b_SQ_choose 72 = .ok (.iload 5, 2) := by decide +kernel
theorem d_SQ_choose_74 : decode b_SQ_choose 74 = .ok (.istore_n 3, 1) := by decide +kernel
theorem d_SQ_choose_75 : decode b_SQ_choose 75 = .ok (.iinc 4 1, 3) := by decide +kernel
theorem d_SQ_choose_78 : decode b_SQ_choose 78 = .ok (.goto (-62), 3) := by decide +kernel
theorem d_SQ_choose_81 : decode b_SQ_choose 81 = .ok (.return_, 1) := by decide +kernel
theorem d_SQ_lowestNext_0 : decode b_SQ_lowestNext 0 = .ok (.iconst (-1), 1) := by decide +kernel
theorem d_SQ_lowestNext_1 : decode b_SQ_lowestNext 1 = .ok (.istore 4, 2) := by decide +kernel
theorem d_SQ_lowestNext_3 : decode b_SQ_lowestNext 3 = .ok (.iconst 0, 1) := by decide +kernel
theorem d_SQ_lowestNext_4 : decode b_SQ_lowestNext 4 = .ok (.istore 5, 2) := by decide +kernel
theorem d_SQ_lowestNext_6 : decode b_SQ_lowestNext 6 = .ok (.iconst 0, 1) := by decide +kernel
theorem d_SQ_lowestNext_7 : decode b_SQ_lowestNext 7 = .ok (.istore 6, 2) := by decide +kernel
theorem d_SQ_lowestNext_9 : decode b_SQ_lowestNext 9 = .ok (.iload 6, 2) := by decide +kernel
theorem d_SQ_lowestNext_11 : decode b_SQ_lowestNext 11 = .ok (.iload_n 3, 1) := by decide +kernel
theorem d_SQ_lowestNext_12 : decode b_SQ_lowestNext 12 = .ok (.if_icmp .ge (49), 3) := by decide +kernel
theorem d_SQ_lowestNext_15 : decode b_SQ_lowestNext 15 = .ok (.iload_n 1, 1) := by decide +kernel
theorem d_SQ_lowestNext_16 : decode b_SQ_lowestNext 16 = .ok (.iload 6, 2) := by decide +kernel
theorem d_SQ_lowestNext_18 : decode b_SQ_lowestNext 18 = .ok (.ishr, 1) := by decide +kernel
theorem d_SQ_lowestNext_19 : decode b_SQ_lowestNext 19 = .ok (.iconst 1, 1) := by decide +kernel
theorem d_SQ_lowestNext_20 : decode b_SQ_lowestNext 20 = .ok (.iand, 1) := by decide +kernel
theorem d_SQ_lowestNext_21 : decode b_SQ_lowestNext 21 = .ok (.ifCond .eq (34), 3) := by decide +kernel
theorem d_SQ_lowestNext_24 : decode b_SQ_lowestNext 24 = .ok (.aload_n 0, 1) := by decide +kernel
theorem d_SQ_lowestNext_25 : decode b_SQ_lowestNext 25 = .ok (.iload_n 1, 1) := by decide +kernel
theorem d_SQ_lowestNext_26 : decode b_SQ_lowestNext 26 = .ok (.iload_n 2, 1) := by decide +kernel
theorem d_SQ_lowestNext_27 : decode b_SQ_lowestNext 27 = .ok (.iload 6, 2) := by decide +kernel
theorem d_SQ_lowestNext_29 : decode b_SQ_lowestNext 29 = .ok (.invokevirtual 50, 3) := by decide +kernel
theorem d_SQ_lowestNext_32 : decode b_SQ_lowestNext 32 = .ok (.istore 7, 2) := by decide +kernel
theorem d_SQ_lowestNext_34 : decode b_SQ_lowestNext 34 = .ok (.iload 4, 2) := by decide +kernel
theorem d_SQ_lowestNext_36 : decode b_SQ_lowestNext 36 = .ok (.iconst (-1), 1) := by decide +kernel
theorem d_SQ_lowestNext_37 : decode b_SQ_lowestNext 37 = .ok (.if_icmp .eq (10), 3) := by decide +kernel
theorem d_SQ_lowestNext_40 : decode b_SQ_lowestNext 40 = .ok (.iload 7, 2) := by decide +kernel
theorem d_SQ_lowestNext_42 : decode b_SQ_lowestNext 42 = .ok (.iload 5, 2) := by decide +kernel
theorem d_SQ_lowestNext_44 : decode b_SQ_lowestNext 44 = .ok (.if_icmp .ge (11), 3) := by decide +kernel
theorem d_SQ_lowestNext_47 : decode b_SQ_lowestNext 47 = .ok (.iload 6, 2) := by decide +kernel
theorem d_SQ_lowestNext_49 : decode b_SQ_lowestNext 49 = .ok (.istore 4, 2) := by decide +kernel
theorem d_SQ_lowestNext_51 : decode b_SQ_lowestNext 51 = .ok (.iload 7, 2) := by decide +kernel
theorem d_SQ_lowestNext_53 : decode b_SQ_lowestNext 53 = .ok (.istore 5, 2) := by decide +kernel
theorem d_SQ_lowestNext_55 : decode b_SQ_lowestNext 55 = .ok (.iinc 6 1, 3) := by decide +kernel
theorem d_SQ_lowestNext_58 : decode b_SQ_lowestNext 58 = .ok (.goto (-49), 3) := by decide +kernel
theorem d_SQ_lowestNext_61 : decode b_SQ_lowestNext 61 = .ok (.iload 4, 2) := by decide +kernel
theorem d_SQ_lowestNext_63 : decode b_SQ_lowestNext 63 = .ok (.ireturn, 1) := by decide +kernel
theorem d_SQ_through_0 : decode b_SQ_through 0 = .ok (.aload_n 0, 1) := by decide +kernel
theorem d_SQ_through_1 : decode b_SQ_through 1 = .ok (.iload_n 2, 1) := by decide +kernel
theorem d_SQ_through_2 : decode b_SQ_through 2 = .ok (.iload_n 3, 1) := by decide +kernel
theorem d_SQ_through_3 : decode b_SQ_through 3 = .ok (.invokevirtual 53, 3) := by decide +kernel
theorem d_SQ_through_6 : decode b_SQ_through 6 = .ok (.aload_n 0, 1) := by decide +kernel
theorem d_SQ_through_7 : decode b_SQ_through 7 = .ok (.getfield 26, 3) := by decide +kernel
theorem d_SQ_through_10 : decode b_SQ_through 10 = .ok (.iload_n 1, 1) := by decide +kernel
theorem d_SQ_through_11 : decode b_SQ_through 11 = .ok (.iconst 1, 1) := by decide +kernel
theorem d_SQ_through_12 : decode b_SQ_through 12 = .ok (.iload_n 3, 1) := by decide +kernel
theorem d_SQ_through_13 : decode b_SQ_through 13 = .ok (.ishl, 1) := by decide +kernel
theorem d_SQ_through_14 : decode b_SQ_through 14 = .ok (.iconst (-1), 1) := by decide +kernel
theorem d_SQ_through_15 : decode b_SQ_through 15 = .ok (.ixor, 1) := by decide +kernel
theorem d_SQ_through_16 : decode b_SQ_through 16 = .ok (.iand, 1) := by decide +kernel
theorem d_SQ_through_17 : decode b_SQ_through 17 = .ok (.bipush 9, 2) := by decide +kernel
theorem d_SQ_through_19 : decode b_SQ_through 19 = .ok (.imul, 1) := by decide +kernel
theorem d_SQ_through_20 : decode b_SQ_through 20 = .ok (.iload_n 3, 1) := by decide +kernel
theorem d_SQ_through_21 : decode b_SQ_through 21 = .ok (.iadd, 1) := by decide +kernel
theorem d_SQ_through_22 : decode b_SQ_through 22 = .ok (.iaload, 1) := by decide +kernel
theorem d_SQ_through_23 : decode b_SQ_through 23 = .ok (.iadd, 1) := by decide +kernel
theorem d_SQ_through_24 : decode b_SQ_through 24 = .ok (.ireturn, 1) := by decide +kernel
theorem d_SQ_step_0 : decode b_SQ_step 0 = .ok (.iload_n 1, 1) := by decide +kernel
theorem d_SQ_step_1 : decode b_SQ_step 1 = .ok (.iconst (-1), 1) := by decide +kernel
theorem d_SQ_step_2 : decode b_SQ_step 2 = .ok (.if_icmp .ne (7), 3) := by decide +kernel
theorem d_SQ_step_5 : decode b_SQ_step 5 = .ok (.iconst 0, 1) := by decide +kernel
theorem d_SQ_step_6 : decode b_SQ_step 6 = .ok (.goto (14), 3) := by decide +kernel
theorem d_SQ_step_9 : decode b_SQ_step 9 = .ok (.aload_n 0, 1) := by decide +kernel
theorem d_SQ_step_10 : decode b_SQ_step 10 = .ok (.getfield 23, 3) := by decide +kernel
theorem d_SQ_step_13 : decode b_SQ_step 13 = .ok (.iload_n 1, 1) := by decide +kernel
theorem d_SQ_step_14 : decode b_SQ_step 14 = .ok (.bipush 9, 2) := by decide +kernel
theorem d_SQ_step_16 : decode b_SQ_step 16 = .ok (.imul, 1) := by decide +kernel
theorem d_SQ_step_17 : decode b_SQ_step 17 = .ok (.iload_n 2, 1) := by decide +kernel
theorem d_SQ_step_18 : decode b_SQ_step 18 = .ok (.iadd, 1) := by decide +kernel
theorem d_SQ_step_19 : decode b_SQ_step 19 = .ok (.iaload, 1) := by decide +kernel
theorem d_SQ_step_20 : decode b_SQ_step 20 = .ok (.ireturn, 1) := by decide +kernel
end
section
set_option maxHeartbeats 4000000 in
set_option maxRecDepth 100000 in
/-- step(last, next) -/
theorem c_SQ_step (l : Launch) (dC : Nat → ClassId) (dI : Nat → Nat → Nat) (q qn qs qf : Nat) (cI : ClassId) (sp : Nat → Nat) (tt kn : Nat) (la : Int) (nx : Nat) (h1 : la = -1 ∨ (0 ≤ la ∧ la < 9)) (h2 : nx < 9) : Met l y_SQ_step w_SQ_step { frames := 0, cells := 0, slots := 0, locals := 0 } (ro_Pc (dC, dI) vwCl [(cI, .int)] [.ref q, .int (zI la), .int (nI nx)] [(q, .inr (3, [.ref qn, .int (nI tt), .int (nI kn), .ref qs, .ref qf])), (qs, .inl (cI, 81, .inl (aN sp)))]) (ro_Qi (fun r => r = nI (stp sp la nx))) 0 0 ro_no := by
  refine Met.ofW (cc := b_SQ_step) (maxL := 3) (ret := (some .int)) (by decide) rfl ?_
  intro p e s m args below meth c s₁ B hml hv
  obtain ⟨rfl, hP, hK⟩ := hv
  have hx := B.exec
  have hb := B.bytes
  have hr := B.returns
  have hts := gw_h (atoms_spec (ws := w_SQ_step) B.pre)
  have hown : s.vm.findClass R_SQ = some m.cls := findClass_of_methodNamed B.named
  have hlocks := B.notSynchronized
  have hS : va_S ro_no s.heap s.heap [] := va_S.rf
  have hP : va_P (dC, dI) vwCl [(q, .inr (3, [.ref qn, .int (nI tt), .int (nI kn), .ref qs, .ref qf])), (qs, .inl (cI, 81, .inl (aN sp)))] s.heap := hP
  have hl := lv_entry ([.ref q, .int (zI la), .int (nI nx)]) (n := 3) (Nat.le_of_ble_eq_true rfl)
  rw [lg_entry_eq]
  generalize (lg_sl ([.ref q, .int (zI la), .int (nI nx)]) ++ List.replicate (3 - (lg_sl ([.ref q, .int (zI la), .int (nI nx)])).length) Slot.unset).toArray = ls at hl ⊢
  have hl : lv_has ls 3 [(0, .ref q), (1, .int (zI la)), (2, .int (nI nx))] := hl
  refine lv_iload_n hx hb d_SQ_step_0 rfl (lv_at hl 1 rfl) ?_
  refine lv_iconst (v := zI (-1)) hx hb d_SQ_step_1 (by decide +kernel) ?_
  refine ix_icmp_ne (tgt := 9) hx hb (zI_toInt (z := la) (by omega) (by omega)) (zI_toInt (z := -1) (by omega) (by omega)) d_SQ_step_2 (by decide) (fun c_2 => ?_) (fun c_2 => ?_)
  · refine lv_aload_n hx hb d_SQ_step_9 rfl (lv_at hl 0 rfl) ?_
    refine va_get (D := (dC, dI)) (ci := 3) (v := .ref qs) (C := R_SQ) (T := F_SQ) (N := 5) hx hb hts in_SQ hown hK hP 0 rfl rfl 3 (by decide) (hts _ m_163) (fun _ h9 => h9) rfl d_SQ_step_10 ?_
    refine lv_iload_n hx hb d_SQ_step_13 rfl (lv_at hl 1 rfl) ?_
    refine lv_bipush (v := nI 9) hx hb d_SQ_step_14 (by decide +kernel) ?_
    refine lv_imul hx hb d_SQ_step_16 ?_
    refine lv_topr (show _ = zI (la * ((9 : Nat) : Int)) from zn_mul _ _) ?_
    refine lv_iload_n hx hb d_SQ_step_17 rfl (lv_at hl 2 rfl) ?_
    refine lv_iadd hx hb d_SQ_step_18 ?_
    refine lv_topr (show _ = zI ((la * ((9 : Nat) : Int)) + ((nx : Nat) : Int)) from zn_add _ _) ?_
    refine lv_topr (show _ = nI (la.toNat * 9 + nx) from z_toN (by omega)) ?_
    refine ix_ialdN (i := la.toNat * 9 + nx) hx hb hK hP 1 0 rfl rfl (by omega) (by decide) d_SQ_step_19 ?_
    exact W.iret (v := nI (sp (la.toNat * 9 + nx))) hx hb hr (fun t ht hW => ⟨⟨nI (sp (la.toNat * 9 + nx)), (), rfl, by unfold stp; rw [if_neg (by omega)], trivial⟩, hS.F ht⟩) hS.2.2 d_SQ_step_20
  refine lv_iconst (v := nI 0) hx hb d_SQ_step_5 (by decide +kernel) ?_
  refine lv_goto (tgt := 20) hx hb d_SQ_step_6 (by decide) ?_
  exact W.iret (v := nI 0) hx hb hr (fun t ht hW => ⟨⟨nI 0, (), rfl, by unfold stp; rw [if_pos (by omega)], trivial⟩, hS.F ht⟩) hS.2.2 d_SQ_step_20
set_option maxHeartbeats 4000000 in
set_option maxRecDepth 100000 in
/-- through(set, last, next) -/
theorem c_SQ_through (l : Launch) (dC : Nat → ClassId) (dI : Nat → Nat → Nat) (q qn qs qf : Nat) (cI : ClassId) (sp fw : Nat → Nat) (tt kn S : Nat) (la : Int) (nx : Nat) (h1 : la = -1 ∨ (0 ≤ la ∧ la < 9)) (h2 : nx < 9) (h3 : S < 512) : Met l y_SQ_through w_SQ_through { frames := 1, cells := 0, slots := 0, locals := 22 } (ro_Pc (dC, dI) vwCl [(cI, .int)] [.ref q, .int (nI S), .int (zI la), .int (nI nx)] [(q, .inr (3, [.ref qn, .int (nI tt), .int (nI kn), .ref qs, .ref qf])), (qs, .inl (cI, 81, .inl (aN sp))), (qf, .inl (cI, 4608, .inl (aN fw)))]) (ro_Qi (fun r => r = nI (thr sp fw S la nx))) 0 0 ro_no := by
  refine Met.ofW (cc := b_SQ_through) (maxL := 4) (ret := (some .int)) (by decide) rfl ?_
  intro p e s m args below meth c s₁ B hml hv
  obtain ⟨rfl, hP, hK⟩ := hv
  have hx := B.exec
  have hb := B.bytes
  have hr := B.returns
  have hts := gw_h (atoms_spec (ws := w_SQ_through) B.pre)
  have hown : s.vm.findClass R_SQ = some m.cls := findClass_of_methodNamed B.named
  have hlocks := B.notSynchronized
  have hS : va_S ro_no s.heap s.heap [] := va_S.rf
  have hP : va_P (dC, dI) vwCl [(q, .inr (3, [.ref qn, .int (nI tt), .int (nI kn), .ref qs, .ref qf])), (qs, .inl (cI, 81, .inl (aN sp))), (qf, .inl (cI, 4608, .inl (aN fw)))] s.heap := hP
  have hl := lv_entry ([.ref q, .int (nI S), .int (zI la), .int (nI nx)]) (n := 4) (Nat.le_of_ble_eq_true rfl)
  rw [lg_entry_eq]
  generalize (lg_sl ([.ref q, .int (nI S), .int (zI la), .int (nI nx)]) ++ List.replicate (4 - (lg_sl ([.ref q, .int (nI S), .int (zI la), .int (nI nx)])).length) Slot.unset).toArray = ls at hl ⊢
  have hl : lv_has ls 4 [(0, .ref q), (1, .int (nI S)), (2, .int (zI la)), (3, .int (nI nx))] := hl
  have hc := clr_le S nx
  refine lv_aload_n hx hb d_SQ_through_0 rfl (lv_at hl 0 rfl) ?_
  refine lv_iload_n hx hb d_SQ_through_1 rfl (lv_at hl 2 rfl) ?_
  refine lv_iload_n hx hb d_SQ_through_2 rfl (lv_at hl 3 rfl) ?_
  have hPc := hP.sub (ws' := [(q, .inr (3, [.ref qn, .int (nI tt), .int (nI kn), .ref qs, .ref qf])), (qs, .inl (cI, 81, .inl (aN sp)))]) [0, 1] rfl
  refine ro_calli (va_runV (As := [.int (zI la), .int (nI nx)]) (rest := []) ⟨hx, hb, hml, hown, hts⟩ (c_SQ_step l dC dI q qn qs qf cI sp tt kn la nx h1 h2) (cwV 2 hts (gw_V m_298 m_300 s_7 m_6 m_301) rfl rfl rfl (by decide +kernel) ⟨Nat.le_of_ble_eq_true rfl, Nat.le_of_ble_eq_true rfl⟩) ⟨ro_blind, va_recv hK hPc (ci := 3) (q0 := 0) rfl rfl, fun U hU hW => ⟨rfl, by rw [hU]; exact hPc, va_K.moved hW.alike hK⟩⟩ rfl rfl hl.1 rfl (lv_room (Nat.le_of_ble_eq_true rfl)) d_SQ_through_3 ⟨Nat.le_of_ble_eq_true rfl, Nat.le_of_ble_eq_true rfl⟩) hS hP (fun r H locs er hP hS => ?_)
  subst er
  refine lv_aload_n hx hb d_SQ_through_6 rfl (lv_at hl 0 rfl) ?_
  refine va_get (D := (dC, dI)) (ci := 3) (v := .ref qf) (C := R_SQ) (T := F_SQ) (N := 5) hx hb hts in_SQ hown hK hP 0 rfl rfl 4 (by decide) (hts _ m_164) (fun _ h9 => h9) rfl d_SQ_through_7 ?_
  refine lv_iload_n hx hb d_SQ_through_10 rfl (lv_at hl 1 rfl) ?_
  refine lv_iconst (v := nI 1) hx hb d_SQ_through_11 (by decide +kernel) ?_
  refine lv_iload_n hx hb d_SQ_through_12 rfl (lv_at hl 3 rfl) ?_
  refine lv_ishl hx hb d_SQ_through_13 ?_
  refine lv_iconst (v := zI (-1)) hx hb d_SQ_through_14 (by decide +kernel) ?_
  refine lv_ixor hx hb d_SQ_through_15 ?_
  refine lv_iand hx hb d_SQ_through_16 ?_
  refine lv_topr (show _ = nI (clr S nx) from bt_clr S h3 nx h2) ?_
  refine lv_bipush (v := nI 9) hx hb d_SQ_through_17 (by decide +kernel) ?_
  refine lv_imul hx hb d_SQ_through_19 ?_
  refine lv_topr (show _ = nI ((clr S nx) * 9) from nn_mul _ _) ?_
  refine lv_iload_n hx hb d_SQ_through_20 rfl (lv_at hl 3 rfl) ?_
  refine lv_iadd hx hb d_SQ_through_21 ?_
  refine lv_topr (show _ = nI (((clr S nx) * 9) + nx) from nn_add _ _) ?_
  refine ix_ialdN (i := ((clr S nx) * 9) + nx) hx hb hK hP 2 0 rfl rfl (by omega) (by decide) d_SQ_through_22 ?_
  refine lv_iadd hx hb d_SQ_through_23 ?_
  refine lv_topr (show _ = nI ((stp sp la nx) + (fw (((clr S nx) * 9) + nx))) from nn_add _ _) ?_
  exact W.iret (v := nI ((stp sp la nx) + (fw (((clr S nx) * 9) + nx)))) hx hb hr (fun t ht hW => ⟨⟨nI ((stp sp la nx) + (fw (((clr S nx) * 9) + nx))), (), rfl, rfl, trivial⟩, hS.F ht⟩) hS.2.2 d_SQ_through_24
set_option maxHeartbeats 4000000 in
set_option maxRecDepth 100000 in
/-- lowestNext(set, last, count) -/
theorem c_SQ_lowestNext (l : Launch) (dC : Nat → ClassId) (dI : Nat → Nat → Nat) (q qn qs qf : Nat) (cI : ClassId) (sp fw : Nat → Nat) (tt kn S : Nat) (la : Int) (n : Nat) (h1 : la = -1 ∨ (0 ≤ la ∧ la < 9)) (h2 : n ≤ 9) (h3 : S < 512) (h4 : ∀ x, x < n → bit S x = 1 → thr sp fw S la x < 2147483648) : Met l y_SQ_lowestNext w_SQ_lowestNext { frames := 2, cells := 0, slots := 0, locals := 45 } (ro_Pc (dC, dI) vwCl [(cI, .int)] [.ref q, .int (nI S), .int (zI la), .int (nI n)] [(q, .inr (3, [.ref qn, .int (nI tt), .int (nI kn), .ref qs, .ref qf])), (qs, .inl (cI, 81, .inl (aN sp))), (qf, .inl (cI, 4608, .inl (aN fw)))]) (ro_Qi (fun r => ∃ z, r = zI z ∧ LN (thr sp fw S la) S n z)) 0 0 ro_no := by
  refine Met.ofW (cc := b_SQ_lowestNext) (maxL := 8) (ret := (some .int)) (by decide) rfl ?_
  intro p e s m args below meth c s₁ B hml hv
  obtain ⟨rfl, hP, hK⟩ := hv
  have hx := B.exec
  have hb := B.bytes
  have hr := B.returns
  have hts := gw_h (atoms_spec (ws := w_SQ_lowestNext) B.pre)
  have hown : s.vm.findClass R_SQ = some m.cls := findClass_of_methodNamed B.named
  have hlocks := B.notSynchronized
  have hS : va_S ro_no s.heap s.heap [] := va_S.rf
  have hP : va_P (dC, dI) vwCl [(q, .inr (3, [.ref qn, .int (nI tt), .int (nI kn), .ref qs, .ref qf])), (qs, .inl (cI, 81, .inl (aN sp))), (qf, .inl (cI, 4608, .inl (aN fw)))] s.heap := hP
  have hl := lv_entry ([.ref q, .int (nI S), .int (zI la), .int (nI n)]) (n := 8) (Nat.le_of_ble_eq_true rfl)
  rw [lg_entry_eq]
  generalize (lg_sl ([.ref q, .int (nI S), .int (zI la), .int (nI n)]) ++ List.replicate (8 - (lg_sl ([.ref q, .int (nI S), .int (zI la), .int (nI n)])).length) Slot.unset).toArray = ls at hl ⊢
  have hl : lv_has ls 8 [(0, .ref q), (1, .int (nI S)), (2, .int (zI la)), (3, .int (nI n))] := hl
  refine lv_iconst (v := zI (-1)) hx hb d_SQ_lowestNext_0 (by decide +kernel) ?_
  refine lv_istore (lv' := [(4, .int (zI (-1))), (0, .ref q), (1, .int (nI S)), (2, .int (zI la)), (3, .int (nI n))]) hx hb d_SQ_lowestNext_1 hl (by decide) rfl (fun ls hl => ?_)
  refine lv_iconst (v := nI 0) hx hb d_SQ_lowestNext_3 (by decide +kernel) ?_
  refine lv_istore (lv' := [(5, .int (nI 0)), (4, .int (zI (-1))), (0, .ref q), (1, .int (nI S)), (2, .int (zI la)), (3, .int (nI n))]) hx hb d_SQ_lowestNext_4 hl (by decide) rfl (fun ls hl => ?_)
  refine lv_iconst (v := nI 0) hx hb d_SQ_lowestNext_6 (by decide +kernel) ?_
  refine lv_istore (lv' := [(6, .int (nI 0)), (5, .int (nI 0)), (4, .int (zI (-1))), (0, .ref q), (1, .int (nI S)), (2, .int (zI la)), (3, .int (nI n))]) hx hb d_SQ_lowestNext_7 hl (by decide) rfl (fun ls hl => ?_)
  have out : ∀ (n_out : Nat) (b : Nat) (lo : Int) (le : Nat), (n + 1 ≤ b + n_out) → (b ≤ n) → (LNI (thr sp fw S la) S b lo le) → (le < 2147483648) → ∀ (H : Heap) (locs : List Loc) (ls : Array Slot), va_P (dC, dI) vwCl [(q, .inr (3, [.ref qn, .int (nI tt), .int (nI kn), .ref qs, .ref qf])), (qs, .inl (cI, 81, .inl (aN sp))), (qf, .inl (cI, 4608, .inl (aN fw)))] H → va_S ro_no s.heap H locs → lv_has ls 8 [(0, .ref q), (1, .int (nI S)), (2, .int (zI la)), (3, .int (nI n)), (4, .int (zI lo)), (5, .int (nI le)), (6, .int (nI b))] → W p l e (headSpec w_SQ_lowestNext { frames := 2, cells := 0, slots := 0, locals := 45 }).room s m [.ref q, .int (nI S), .int (zI la), .int (nI n)].toArray below meth c H locs 0 0 (MQ below (ro_Qi (fun r => ∃ z, r = zI z ∧ LN (thr sp fw S la) S n z)) [.ref q, .int (nI S), .int (zI la), .int (nI n)].toArray s 0 0 ro_no) (F0 m 9 ls []) := by
    intro n_out
    induction n_out with
    | zero =>
      intro b lo le hm hbn hI hle
      exact absurd hm (by omega)
    | succ n_out ih_out =>
      intro b lo le hm hbn hI hle H locs ls hP hS hl
      refine lv_iload hx hb d_SQ_lowestNext_9 (lv_at hl 6 rfl) ?_
      refine lv_iload_n hx hb d_SQ_lowestNext_11 rfl (lv_at hl 3 rfl) ?_
      refine ix_icmp_ge (tgt := 61) hx hb (nI_tI (n := b) (by omega)) (nI_tI (n := n) (by omega)) d_SQ_lowestNext_12 (by decide) (fun c_12 => ?_) (fun c_12 => ?_)
      · refine lv_iload hx hb d_SQ_lowestNext_61 (lv_at hl 4 rfl) ?_
        have hbe : b = n := by omega
        exact W.iret (v := zI lo) hx hb hr (fun t ht hW => ⟨⟨zI lo, (), rfl, ⟨_, rfl, hbe ▸ hI.ln⟩, trivial⟩, hS.F ht⟩) hS.2.2 d_SQ_lowestNext_63
      refine lv_iload_n hx hb d_SQ_lowestNext_15 rfl (lv_at hl 1 rfl) ?_
      refine lv_iload hx hb d_SQ_lowestNext_16 (lv_at hl 6 rfl) ?_
      refine lv_ishr hx hb d_SQ_lowestNext_18 ?_
      refine lv_iconst (v := nI 1) hx hb d_SQ_lowestNext_19 (by decide +kernel) ?_
      refine lv_iand hx hb d_SQ_lowestNext_20 ?_
      have hb01 := bit_01 S b
      refine lv_topr (show _ = nI (bit S b) from bt_bit S h3 b (by omega)) ?_
      refine ix_if_eq (tgt := 55) hx hb (nI_tI (n := bit S b) (by omega)) d_SQ_lowestNext_21 (by decide) (fun c_21 => ?_) (fun c_21 => ?_)
      · refine lv_iinc (v := nI (b + 1)) (lv' := [(6, .int (nI (b + 1))), (0, .ref q), (1, .int (nI S)), (2, .int (zI la)), (3, .int (nI n)), (4, .int (zI lo)), (5, .int (nI le))]) hx hb d_SQ_lowestNext_55 hl (k := 6) rfl (n_incN b 1) (by decide) rfl (fun ls hl => ?_)
        refine lv_goto (tgt := 9) hx hb d_SQ_lowestNext_58 (by decide) ?_
        exact ih_out (b + 1) lo le (by omega) (by omega) (hI.skip (by omega)) hle _ _ _ hP hS (lv_sub hl [1, 2, 3, 4, 5, 6, 0] rfl)
      have hb1 : bit S b = 1 := by omega
      have hth := h4 b (by omega) hb1
      have hrg := hI.range
      refine lv_aload_n hx hb d_SQ_lowestNext_24 rfl (lv_at hl 0 rfl) ?_
      refine lv_iload_n hx hb d_SQ_lowestNext_25 rfl (lv_at hl 1 rfl) ?_
      refine lv_iload_n hx hb d_SQ_lowestNext_26 rfl (lv_at hl 2 rfl) ?_
      refine lv_iload hx hb d_SQ_lowestNext_27 (lv_at hl 6 rfl) ?_
      have hPc := hP.sub (ws' := [(q, .inr (3, [.ref qn, .int (nI tt), .int (nI kn), .ref qs, .ref qf])), (qs, .inl (cI, 81, .inl (aN sp))), (qf, .inl (cI, 4608, .inl (aN fw)))]) [0, 1, 2] rfl
      refine ro_calli (va_runV (As := [.int (nI S), .int (zI la), .int (nI b)]) (rest := []) ⟨hx, hb, hml, hown, hts⟩ (c_SQ_through l dC dI q qn qs qf cI sp fw tt kn S la b h1 (by omega) h3) (cwV 3 hts (gw_V m_294 m_296 s_6 m_6 m_297) rfl rfl rfl (by decide +kernel) ⟨Nat.le_of_ble_eq_true rfl, Nat.le_of_ble_eq_true rfl⟩) ⟨ro_blind, va_recv hK hPc (ci := 3) (q0 := 0) rfl rfl, fun U hU hW => ⟨rfl, by rw [hU]; exact hPc, va_K.moved hW.alike hK⟩⟩ rfl rfl hl.1 rfl (lv_room (Nat.le_of_ble_eq_true rfl)) d_SQ_lowestNext_29 ⟨Nat.le_of_ble_eq_true rfl, Nat.le_of_ble_eq_true rfl⟩) hS hP (fun r H locs er hP hS => ?_)
      subst er
      refine lv_istore (lv' := [(7, .int (nI (thr sp fw S la b))), (0, .ref q), (1, .int (nI S)), (2, .int (zI la)), (3, .int (nI n)), (4, .int (zI lo)), (5, .int (nI le)), (6, .int (nI b))]) hx hb d_SQ_lowestNext_32 hl (by decide) rfl (fun ls hl => ?_)
      refine lv_iload hx hb d_SQ_lowestNext_34 (lv_at hl 5 rfl) ?_
      refine lv_iconst (v := zI (-1)) hx hb d_SQ_lowestNext_36 (by decide +kernel) ?_
      refine ix_icmp_eq (tgt := 47) hx hb (zI_toInt (z := lo) (by omega) (by omega)) (zI_toInt (z := -1) (by omega) (by omega)) d_SQ_lowestNext_37 (by decide) (fun c_37 => ?_) (fun c_37 => ?_)
      · refine lv_iload hx hb d_SQ_lowestNext_47 (lv_at hl 7 rfl) ?_
        refine lv_topr (show _ = zI (b : Int) from zI_n b) ?_
        refine lv_istore (lv' := [(4, .int (zI (b : Int))), (7, .int (nI (thr sp fw S la b))), (0, .ref q), (1, .int (nI S)), (2, .int (zI la)), (3, .int (nI n)), (5, .int (nI le)), (6, .int (nI b))]) hx hb d_SQ_lowestNext_49 hl (by decide) rfl (fun ls hl => ?_)
        refine lv_iload hx hb d_SQ_lowestNext_51 (lv_at hl 1 rfl) ?_
        refine lv_istore (lv' := [(5, .int (nI (thr sp fw S la b))), (4, .int (zI (b : Int))), (7, .int (nI (thr sp fw S la b))), (0, .ref q), (1, .int (nI S)), (2, .int (zI la)), (3, .int (nI n)), (6, .int (nI b))]) hx hb d_SQ_lowestNext_53 hl (by decide) rfl (fun ls hl => ?_)
        refine lv_iinc (v := nI (b + 1)) (lv' := [(6, .int (nI (b + 1))), (5, .int (nI (thr sp fw S la b))), (4, .int (zI (b : Int))), (7, .int (nI (thr sp fw S la b))), (0, .ref q), (1, .int (nI S)), (2, .int (zI la)), (3, .int (nI n))]) hx hb d_SQ_lowestNext_55 hl (k := 7) rfl (n_incN b 1) (by decide) rfl (fun ls hl => ?_)
        refine lv_goto (tgt := 9) hx hb d_SQ_lowestNext_58 (by decide) ?_
        exact ih_out (b + 1) (b : Int) (thr sp fw S la b) (by omega) (by omega) (hI.take hb1 (by omega)) hth _ _ _ hP hS (lv_sub hl [4, 5, 6, 7, 2, 1, 0] rfl)
      refine lv_iload hx hb d_SQ_lowestNext_40 (lv_at hl 0 rfl) ?_
      refine lv_iload hx hb d_SQ_lowestNext_42 (lv_at hl 6 rfl) ?_
      refine ix_icmp_ge (tgt := 55) hx hb (nI_tI (n := thr sp fw S la b) (by omega)) (nI_tI (n := le) (by omega)) d_SQ_lowestNext_44 (by decide) (fun c_44 => ?_) (fun c_44 => ?_)
      · refine lv_iinc (v := nI (b + 1)) (lv' := [(6, .int (nI (b + 1))), (7, .int (nI (thr sp fw S la b))), (0, .ref q), (1, .int (nI S)), (2, .int (zI la)), (3, .int (nI n)), (4, .int (zI lo)), (5, .int (nI le))]) hx hb d_SQ_lowestNext_55 hl (k := 7) rfl (n_incN b 1) (by decide) rfl (fun ls hl => ?_)
        refine lv_goto (tgt := 9) hx hb d_SQ_lowestNext_58 (by decide) ?_
        exact ih_out (b + 1) lo le (by omega) (by omega) (hI.keep (by omega) (by omega)) hle _ _ _ hP hS (lv_sub hl [2, 3, 4, 5, 6, 7, 0] rfl)
      refine lv_iload hx hb d_SQ_lowestNext_47 (lv_at hl 7 rfl) ?_
      refine lv_topr (show _ = zI (b : Int) from zI_n b) ?_
      refine lv_istore (lv' := [(4, .int (zI (b : Int))), (7, .int (nI (thr sp fw S la b))), (0, .ref q), (1, .int (nI S)), (2, .int (zI la)), (3, .int (nI n)), (5, .int (nI le)), (6, .int (nI b))]) hx hb d_SQ_lowestNext_49 hl (by decide) rfl (fun ls hl => ?_)
      refine lv_iload hx hb d_SQ_lowestNext_51 (lv_at hl 1 rfl) ?_
      refine lv_istore (lv' := [(5, .int (nI (thr sp fw S la b))), (4, .int (zI (b : Int))), (7, .int (nI (thr sp fw S la b))), (0, .ref q), (1, .int (nI S)), (2, .int (zI la)), (3, .int (nI n)), (6, .int (nI b))]) hx hb d_SQ_lowestNext_53 hl (by decide) rfl (fun ls hl => ?_)
      refine lv_iinc (v := nI (b + 1)) (lv' := [(6, .int (nI (b + 1))), (5, .int (nI (thr sp fw S la b))), (4, .int (zI (b : Int))), (7, .int (nI (thr sp fw S la b))), (0, .ref q), (1, .int (nI S)), (2, .int (zI la)), (3, .int (nI n))]) hx hb d_SQ_lowestNext_55 hl (k := 7) rfl (n_incN b 1) (by decide) rfl (fun ls hl => ?_)
      refine lv_goto (tgt := 9) hx hb d_SQ_lowestNext_58 (by decide) ?_
      exact ih_out (b + 1) (b : Int) (thr sp fw S la b) (by omega) (by omega) (hI.take hb1 (by omega)) hth _ _ _ hP hS (lv_sub hl [4, 5, 6, 7, 2, 1, 0] rfl)
  exact out (n + 1) 0 (-1) 0 (by omega) (by omega) (LNI.init _ S 0) (by decide) _ _ _ hP hS (lv_sub hl [3, 4, 5, 6, 2, 1, 0] rfl)
end
section
set_option maxRecDepth 100000 in
theorem bit_clr : ∀ S, S < 512 → ∀ x, x < 9 → ∀ y, y < 9 → bit S x = 1 → bit (clr S x) y = if y = x then 0 else bit S y := by decide +kernel
set_option maxRecDepth 100000 in
theorem clr_lt : ∀ S, S < 512 → ∀ x, x < 9 → bit S x = 1 → clr S x < S := by decide +kernel
theorem bit_full : ∀ n, n < 10 → ∀ y, y < n → bit (2 ^ n - 1) y = 1 := by decide +kernel
/-- the table's value at S behind l: the fewest moves by way of one of S, 0 where S is empty -/
def TA (sp fw : Nat → Nat) (n S l : Nat) : Prop := ((∀ y, y < n → bit S y = 0) ∧ fw (S * 9 + l) = 0) ∨ (∃ x, x < n ∧ bit S x = 1 ∧ fw (S * 9 + l) = thr sp fw S l x ∧ ∀ y, y < n → bit S y = 1 → thr sp fw S l x ≤ thr sp fw S l y)
def MI (sp fw : Nat → Nat) (n S l : Nat) : Prop := ∀ S' l', l' < n → bit S' l' = 0 → (S' < S ∨ (S' = S ∧ l' < l)) → TA sp fw n S' l' ∧ fw (S' * 9 + l') ≤ 60 * S'
theorem MI.init (sp fw : Nat → Nat) (n : Nat) : MI sp fw n 0 0 := fun _ _ _ _ h => by omega
theorem MI.skip {sp fw : Nat → Nat} {n S l : Nat} (h : MI sp fw n S l) (hb : ¬ bit S l = 0) : MI sp fw n S (l + 1) := fun S' l' h1 h2 h3 => h S' l' h1 h2 (by
  by_cases e : S' = S ∧ l' = l
  · obtain ⟨rfl, rfl⟩ := e
    exact absurd h2 hb
  · omega)
theorem MI.nextS {sp fw : Nat → Nat} {n S l : Nat} (h : MI sp fw n S l) (hl : n ≤ l) : MI sp fw n (S + 1) 0 := fun S' l' h1 h2 h3 => h S' l' h1 h2 (by omega)
theorem thr_le {sp fw : Nat → Nat} {n S l : Nat} (h : MI sp fw n S l) (hn : n ≤ 9) (hS : S < 512) (hc : ∀ x, x < n → sp (l * 9 + x) ≤ 60) {x : Nat} (hx : x < n) (hb : bit S x = 1) : thr sp fw S l x ≤ 60 * S := by
  have h1 := clr_lt S hS x (by omega) hb
  have h2 := bit_clr S hS x (by omega) x (by omega) hb
  rw [if_pos rfl] at h2
  have h3 := (h (clr S x) x hx h2 (Or.inl h1)).2
  have h4 := hc x hx
  unfold thr stp
  rw [if_neg (by omega), Int.toNat_natCast]
  omega
/-- the value that comes into the table -/
def tv (sp fw : Nat → Nat) (S l : Nat) (z : Int) : Nat := if z = -1 then 0 else thr sp fw S l z.toNat
theorem thr_up {sp fw : Nat → Nat} {S l v S' : Nat} {la : Int} {x : Nat} (hS : S < 512) (hS' : S' ≤ S) (hx : x < 9) (hl : l < 9) (hb : bit S' x = 1) : thr sp (up fw (S * 9 + l) v) S' la x = thr sp fw S' la x := by
  have h1 := clr_lt S' (by omega) x hx hb
  unfold thr
  rw [up_n _ _ (by omega)]
theorem MI.put {sp fw : Nat → Nat} {n S l : Nat} {z : Int} (h : MI sp fw n S l) (hn : n ≤ 9) (hS : S < 512) (hl : l < n) (hc : ∀ x, x < n → sp (l * 9 + x) ≤ 60) (hz : LN (thr sp fw S l) S n z) : MI sp (up fw (S * 9 + l) (tv sp fw S l z)) n S (l + 1) := by
  intro S' l' h1 h2 h3
  by_cases e : S' = S ∧ l' = l
  · obtain ⟨rfl, rfl⟩ := e
    unfold TA
    rw [up_s]
    rcases hz with ⟨hz, hno⟩ | ⟨x, hz, hxn, hxb, hmin⟩
    · unfold tv
      rw [if_pos hz]
      exact ⟨Or.inl ⟨hno, rfl⟩, Nat.zero_le _⟩
    · have ez : tv sp fw S' l' z = thr sp fw S' l' x := by
        unfold tv
        rw [if_neg (by omega), hz, Int.toNat_natCast]
      rw [ez]
      refine ⟨Or.inr ⟨x, hxn, hxb, ?_, ?_⟩, thr_le h hn hS hc hxn hxb⟩
      · rw [thr_up hS (Nat.le_refl _) (by omega) (by omega) hxb]
      · intro y hy hyb
        rw [thr_up hS (Nat.le_refl _) (by omega) (by omega) hxb, thr_up hS (Nat.le_refl _) (by omega) (by omega) hyb]
        exact (hmin y hy hyb).1
  · obtain ⟨g1, g2⟩ := h S' l' h1 h2 (by omega)
    have hne : S' * 9 + l' ≠ S * 9 + l := by omega
    unfold TA
    rw [up_n _ _ hne]
    refine ⟨?_, g2⟩
    rcases g1 with ⟨a, b⟩ | ⟨x, a, b, d, f⟩
    · exact Or.inl ⟨a, b⟩
    · refine Or.inr ⟨x, a, b, ?_, ?_⟩
      · rw [thr_up hS (by omega) (by omega) (by omega) b]; exact d
      · intro y hy hyb
        rw [thr_up hS (by omega) (by omega) (by omega) b, thr_up hS (by omega) (by omega) (by omega) hyb]
        exact f y hy hyb
/-! the order read off the table -/
def stS (n : Nat) (num : Nat → Nat) : Nat → Nat
  | 0 => 2 ^ n - 1
  | k + 1 => clr (stS n num k) (num k)
def laS (num : Nat → Nat) : Nat → Int
  | 0 => -1
  | k + 1 => (num k : Int)
def GR (sp fw : Nat → Nat) (n : Nat) (num : Nat → Nat) (k : Nat) : Prop := ∀ j, j < k → LN (thr sp fw (stS n num j) (laS num j)) (stS n num j) n (num j)
def tot (sp : Nat → Nat) (num : Nat → Nat) (k : Nat) : Nat := sumN (fun j => stp sp (laS num j) (num j)) k
theorem stS_congr {n : Nat} {a b : Nat → Nat} : ∀ {k : Nat}, (∀ j, j < k → a j = b j) → stS n a k = stS n b k
  | 0, _ => rfl
  | k + 1, h => by rw [stS, stS, stS_congr (fun j hj => h j (by omega)), h k (by omega)]
theorem laS_congr {a b : Nat → Nat} {k : Nat} (h : ∀ j, j < k → a j = b j) : laS a k = laS b k := by
  cases k with
  | zero => rfl
  | succ k => rw [laS, laS, h k (by omega)]
theorem stS_le (n : Nat) (num : Nat → Nat) : ∀ k, stS n num k ≤ 2 ^ n - 1
  | 0 => Nat.le_refl _
  | k + 1 => Nat.le_trans (clr_le _ _) (stS_le n num k)
theorem GR.congr {sp fw : Nat → Nat} {n k : Nat} {a b : Nat → Nat} (h : GR sp fw n a k) (e : ∀ j, j < k → a j = b j) : GR sp fw n b k := fun j hj => by
  have h1 : stS n a j = stS n b j := stS_congr (fun i hi => e i (by omega))
  have h2 : laS a j = laS b j := laS_congr (fun i hi => e i (by omega))
  rw [← h1, ← h2, ← e j hj]
  exact h j hj
theorem tot_congr {sp : Nat → Nat} {k : Nat} {a b : Nat → Nat} (e : ∀ j, j < k → a j = b j) : tot sp a k = tot sp b k := sumN_congr (fun j hj => by
  rw [laS_congr (k := j) (fun i hi => e i (by omega)), e j hj])
/-- of the full set's n so many are left -/
theorem bits_left {sp fw : Nat → Nat} {n : Nat} (hn : n ≤ 9) {num : Nat → Nat} : ∀ {k : Nat}, GR sp fw n num k → (∀ j, j < k → num j < n) → sumN (bit (stS n num k)) n + k = n := by
  have h512 : 2 ^ n ≤ 512 := (Nat.pow_le_pow_right (by decide) hn : 2 ^ n ≤ 2 ^ 9)
  intro k
  induction k with
  | zero =>
    intro _ _
    have h1 : ∀ m, m ≤ n → sumN (bit (2 ^ n - 1)) m = m := by
      intro m
      induction m with
      | zero => intro _; rfl
      | succ m ih =>
        intro hm
        rw [sumN, ih (by omega), bit_full n (by omega) m (by omega)]
    show sumN (bit (2 ^ n - 1)) n + 0 = n
    rw [h1 n (Nat.le_refl _)]
    rfl
  | succ k ih =>
    intro hg hb
    have h1 := ih (fun j hj => hg j (by omega)) (fun j hj => hb j (by omega))
    have hs := stS_le n num k
    have hnk := hb k (by omega)
    have hbit : bit (stS n num k) (num k) = 1 := by
      rcases hg k (by omega) with ⟨h, _⟩ | ⟨x, h, _, h2, _⟩
      · omega
      · have : x = num k := by omega
        rw [← this]
        exact h2
    have h2 : ∀ m, m ≤ n → sumN (bit (stS n num (k + 1))) m + (if num k < m then 1 else 0) = sumN (bit (stS n num k)) m := by
      intro m
      induction m with
      | zero => intro _; simp [sumN]
      | succ m ih2 =>
        intro hm
        have h3 := ih2 (by omega)
        have h4 := bit_clr (stS n num k) (by omega) (num k) (by omega) m (by omega) hbit
        rw [sumN, sumN]
        show _ + bit (clr (stS n num k) (num k)) m + _ = _
        rw [h4]
        by_cases e : m = num k
        · rw [if_pos e, if_pos (by omega)]
          rw [if_neg (by omega)] at h3
          rw [e, hbit]
          rw [e] at h3
          omega
        · rw [if_neg e]
          by_cases e2 : num k < m
          · rw [if_pos (by omega)]
            rw [if_pos e2] at h3
            omega
          · rw [if_neg (by omega)]
            rw [if_neg e2] at h3
            omega
    have h3 := h2 n (Nat.le_refl _)
    rw [if_pos hnk] at h3
    omega
theorem GR.push {sp fw : Nat → Nat} {n k : Nat} {num : Nat → Nat} {x : Nat} (h : GR sp fw n num k) (hx : LN (thr sp fw (stS n num k) (laS num k)) (stS n num k) n x) : GR sp fw n (up num k x) (k + 1) := by
  have e : ∀ j, j < k → num j = up num k x j := fun j hj => (up_n _ _ (by omega)).symm
  refine lt_s (h.congr e) ?_
  show LN (thr sp fw (stS n (up num k x) k) (laS (up num k x) k)) (stS n (up num k x) k) n ((up num k x k : Nat) : Int)
  rw [up_s, ← stS_congr e, ← laS_congr e]
  exact hx
theorem tot_push {sp : Nat → Nat} {k : Nat} {num : Nat → Nat} {x : Nat} : tot sp (up num k x) (k + 1) = tot sp num k + stp sp (laS num k) x := by
  have e : ∀ j, j < k → num j = up num k x j := fun j hj => (up_n _ _ (by omega)).symm
  show sumN _ k + stp sp (laS (up num k x) k) (up num k x k) = _
  rw [up_s, ← laS_congr e]
  show tot sp (up num k x) k + _ = _
  rw [← tot_congr e]
theorem num_push {nm : Nat → Nat} {n k x : Nat} (h : ∀ j, j < k → nm j < n) (hx : x < n) : ∀ j, j < k + 1 → up nm k x j < n := fun j hj => by
  by_cases e : j = k
  · subst e
    rw [up_s]
    exact hx
  · rw [up_n _ _ e]
    exact h j (by omega)
theorem tv_0 {sp fw : Nat → Nat} {S l : Nat} {z : Int} (h : z = -1) : tv sp fw S l z = 0 := if_pos h
theorem tv_1 {sp fw : Nat → Nat} {S l : Nat} {z : Int} (h : ¬ z = -1) : tv sp fw S l z = thr sp fw S l z.toNat := if_neg h
end
section
set_option maxHeartbeats 4000000 in
set_option maxRecDepth 100000 in
/-- measureSets(count): the table of all sets -/
theorem c_SQ_measureSets (l : Launch) (dC : Nat → ClassId) (dI : Nat → Nat → Nat) (sz : Nat) (q qn qs qf : Nat) (cI : ClassId) (sp fw : Nat → Nat) (tt kn n : Nat) (hn : n ≤ 9) (hc : ∀ a, a < n → ∀ b, b < n → sp (a * 9 + b) ≤ 60) : Met l y_SQ_measureSets w_SQ_measureSets { frames := 3, cells := 0, slots := 0, locals := 72 } (rw_Pc (dC, dI) vwCl [(cI, .int)] sz [.ref q, .int (nI n)] [(q, .inr (3, [.ref qn, .int (nI tt), .int (nI kn), .ref qs, .ref qf])), (qs, .inl (cI, 81, .inl (aN sp))), (qf, .inl (cI, 4608, .inl (aN fw)))]) (va_Qv (fun (u : (Nat → Nat)) => MI sp u n (2 ^ n) 0) (rw_B (dC, dI) vwCl [(cI, .int)] (va_A [(q, .inr (3, [.ref qn, .int (nI tt), .int (nI kn), .ref qs, .ref qf])), (qs, .inl (cI, 81, .inl (aN sp))), (qf, .inl (cI, 4608, .inl (aN fw)))] sz) (fun u : (Nat → Nat) => [(q, .inr (3, [.ref qn, .int (nI tt), .int (nI kn), .ref qs, .ref qf])), (qs, .inl (cI, 81, .inl (aN sp))), (qf, .inl (cI, 4608, .inl (aN u)))])) (va_A [(q, .inr (3, [.ref qn, .int (nI tt), .int (nI kn), .ref qs, .ref qf])), (qs, .inl (cI, 81, .inl (aN sp))), (qf, .inl (cI, 4608, .inl (aN fw)))] sz)) 0 0 (va_A [(q, .inr (3, [.ref qn, .int (nI tt), .int (nI kn), .ref qs, .ref qf])), (qs, .inl (cI, 81, .inl (aN sp))), (qf, .inl (cI, 4608, .inl (aN fw)))] sz) := by
  refine Met.ofW (cc := b_SQ_measureSets) (maxL := 5) (ret := none) (by decide) rfl ?_
  intro p e s m args below meth c s₁ B hml hv
  obtain ⟨rfl, hsz, hP, hK, hD0⟩ := hv
  have hx := B.exec
  have hb := B.bytes
  have hr := B.returns
  have hts := gw_h (atoms_spec (ws := w_SQ_measureSets) B.pre)
  have hown : s.vm.findClass R_SQ = some m.cls := findClass_of_methodNamed B.named
  have hlocks := B.notSynchronized
  subst hsz
  have hD := hD0.self (sz := s.heap.size)
  generalize hAe : va_A [(q, .inr (3, [.ref qn, .int (nI tt), .int (nI kn), .ref qs, .ref qf])), (qs, .inl (cI, 81, .inl (aN sp))), (qf, .inl (cI, 4608, .inl (aN fw)))] s.heap.size = A at hD ⊢
  have hA : ∀ q : Nat, s.heap.size ≤ q → A q := fun q h => by rw [← hAe]; exact Or.inr h
  have hS : va_S A s.heap s.heap [] := va_S.rf
  have hP : va_P (dC, dI) vwCl [(q, .inr (3, [.ref qn, .int (nI tt), .int (nI kn), .ref qs, .ref qf])), (qs, .inl (cI, 81, .inl (aN sp))), (qf, .inl (cI, 4608, .inl (aN fw)))] s.heap := hP
  have hl := lv_entry ([.ref q, .int (nI n)]) (n := 5) (Nat.le_of_ble_eq_true rfl)
  rw [lg_entry_eq]
  generalize (lg_sl ([.ref q, .int (nI n)]) ++ List.replicate (5 - (lg_sl ([.ref q, .int (nI n)])).length) Slot.unset).toArray = ls at hl ⊢
  have hl : lv_has ls 5 [(0, .ref q), (1, .int (nI n))] := hl
  have h512 : 2 ^ n ≤ 512 := (Nat.pow_le_pow_right (by decide) hn : 2 ^ n ≤ 2 ^ 9)
  have h1p : 1 ≤ 2 ^ n := Nat.pos_of_ne_zero (by simp)
  refine lv_iconst (v := nI 0) hx hb d_SQ_measureSets_0 (by decide +kernel) ?_
  refine lv_istore_n (lv' := [(2, .int (nI 0)), (0, .ref q), (1, .int (nI n))]) hx hb d_SQ_measureSets_1 rfl hl (by decide) rfl (fun ls hl => ?_)
  have out : ∀ (n_out : Nat) (S : Nat) (fw : Nat → Nat), (2 ^ n + 1 ≤ S + n_out) → (S ≤ 2 ^ n) → (MI sp fw n S 0) → ∀ (H : Heap) (locs : List Loc) (ls : Array Slot), va_P (dC, dI) vwCl [(q, .inr (3, [.ref qn, .int (nI tt), .int (nI kn), .ref qs, .ref qf])), (qs, .inl (cI, 81, .inl (aN sp))), (qf, .inl (cI, 4608, .inl (aN fw)))] H → va_D A [(q, .inr (3, [.ref qn, .int (nI tt), .int (nI kn), .ref qs, .ref qf])), (qs, .inl (cI, 81, .inl (aN sp))), (qf, .inl (cI, 4608, .inl (aN fw)))] → va_S A s.heap H locs → lv_has ls 5 [(0, .ref q), (1, .int (nI n)), (2, .int (nI S))] → W p l e (headSpec w_SQ_measureSets { frames := 3, cells := 0, slots := 0, locals := 72 }).room s m [.ref q, .int (nI n)].toArray below meth c H locs 0 0 (MQ below (va_Qv (fun (u : (Nat → Nat)) => MI sp u n (2 ^ n) 0) (rw_B (dC, dI) vwCl [(cI, .int)] A (fun u : (Nat → Nat) => [(q, .inr (3, [.ref qn, .int (nI tt), .int (nI kn), .ref qs, .ref qf])), (qs, .inl (cI, 81, .inl (aN sp))), (qf, .inl (cI, 4608, .inl (aN u)))])) A) [.ref q, .int (nI n)].toArray s 0 0 A) (F0 m 2 ls []) := by
    intro n_out
    induction n_out with
    | zero =>
      intro S fw hm hSn hI
      exact absurd hm (by omega)
    | succ n_out ih_out =>
      intro S fw hm hSn hI H locs ls hP hD hS hl
      refine lv_iload_n hx hb d_SQ_measureSets_2 rfl (lv_at hl 2 rfl) ?_
      refine lv_iconst (v := nI 1) hx hb d_SQ_measureSets_3 (by decide +kernel) ?_
      refine lv_iload_n hx hb d_SQ_measureSets_4 rfl (lv_at hl 1 rfl) ?_
      refine lv_ishl hx hb d_SQ_measureSets_5 ?_
      refine lv_topr (show _ = nI (2 ^ n) from bt_pow n (by omega)) ?_
      refine ix_icmp_ge (tgt := 74) hx hb (nI_tI (n := S) (by omega)) (nI_tI (n := 2 ^ n) (by omega)) d_SQ_measureSets_6 (by decide) (fun c_6 => ?_) (fun c_6 => ?_)
      · exact W.vret hx hb hr (fun t ht hW => ⟨⟨fw, rfl, by rw [show 2 ^ n = S by omega]; exact hI, by rw [ht]; exact hP, va_K.moved hW.alike hK, hD⟩, hS.F ht⟩) hS.2.2 d_SQ_measureSets_74
      refine lv_iconst (v := nI 0) hx hb d_SQ_measureSets_9 (by decide +kernel) ?_
      refine lv_istore_n (lv' := [(3, .int (nI 0)), (0, .ref q), (1, .int (nI n)), (2, .int (nI S))]) hx hb d_SQ_measureSets_10 rfl hl (by decide) rfl (fun ls hl => ?_)
      have inn : ∀ (n_inn : Nat) (l9 : Nat) (fw : Nat → Nat), (n + 1 ≤ l9 + n_inn) → (l9 ≤ n) → (MI sp fw n S l9) → ∀ (H : Heap) (locs : List Loc) (ls : Array Slot), va_P (dC, dI) vwCl [(q, .inr (3, [.ref qn, .int (nI tt), .int (nI kn), .ref qs, .ref qf])), (qs, .inl (cI, 81, .inl (aN sp))), (qf, .inl (cI, 4608, .inl (aN fw)))] H → va_D A [(q, .inr (3, [.ref qn, .int (nI tt), .int (nI kn), .ref qs, .ref qf])), (qs, .inl (cI, 81, .inl (aN sp))), (qf, .inl (cI, 4608, .inl (aN fw)))] → va_S A s.heap H locs → lv_has ls 5 [(0, .ref q), (1, .int (nI n)), (2, .int (nI S)), (3, .int (nI l9))] → W p l e (headSpec w_SQ_measureSets { frames := 3, cells := 0, slots := 0, locals := 72 }).room s m [.ref q, .int (nI n)].toArray below meth c H locs 0 0 (MQ below (va_Qv (fun (u : (Nat → Nat)) => MI sp u n (2 ^ n) 0) (rw_B (dC, dI) vwCl [(cI, .int)] A (fun u : (Nat → Nat) => [(q, .inr (3, [.ref qn, .int (nI tt), .int (nI kn), .ref qs, .ref qf])), (qs, .inl (cI, 81, .inl (aN sp))), (qf, .inl (cI, 4608, .inl (aN u)))])) A) [.ref q, .int (nI n)].toArray s 0 0 A) (F0 m 11 ls []) := by
        intro n_inn
        induction n_inn with
        | zero =>
          intro l9 fw hm2 hl9 hI
          exact absurd hm2 (by omega)
        | succ n_inn ih_inn =>
          intro l9 fw hm2 hl9 hI H locs ls hP hD hS hl
          refine lv_iload_n hx hb d_SQ_measureSets_11 rfl (lv_at hl 3 rfl) ?_
          refine lv_iload_n hx hb d_SQ_measureSets_12 rfl (lv_at hl 1 rfl) ?_
          refine ix_icmp_ge (tgt := 68) hx hb (nI_tI (n := l9) (by omega)) (nI_tI (n := n) (by omega)) d_SQ_measureSets_13 (by decide) (fun c_13 => ?_) (fun c_13 => ?_)
          · refine lv_iinc (v := nI (S + 1)) (lv' := [(2, .int (nI (S + 1))), (0, .ref q), (1, .int (nI n)), (3, .int (nI l9))]) hx hb d_SQ_measureSets_68 hl (k := 2) rfl (n_incN S 1) (by decide) rfl (fun ls hl => ?_)
            refine lv_goto (tgt := 2) hx hb d_SQ_measureSets_71 (by decide) ?_
            exact ih_out (S + 1) fw (by omega) (by omega) (hI.nextS (by omega)) _ _ _ hP hD hS (lv_sub hl [1, 2, 0] rfl)
          refine lv_iload_n hx hb d_SQ_measureSets_16 rfl (lv_at hl 2 rfl) ?_
          refine lv_iload_n hx hb d_SQ_measureSets_17 rfl (lv_at hl 3 rfl) ?_
          refine lv_ishr hx hb d_SQ_measureSets_18 ?_
          refine lv_iconst (v := nI 1) hx hb d_SQ_measureSets_19 (by decide +kernel) ?_
          refine lv_iand hx hb d_SQ_measureSets_20 ?_
          have hb01 := bit_01 S l9
          refine lv_topr (show _ = nI (bit S l9) from bt_bit S (by omega) l9 (by omega)) ?_
          refine ix_if_ne (tgt := 62) hx hb (nI_tI (n := bit S l9) (by omega)) d_SQ_measureSets_21 (by decide) (fun c_21 => ?_) (fun c_21 => ?_)
          · refine lv_iinc (v := nI (l9 + 1)) (lv' := [(3, .int (nI (l9 + 1))), (0, .ref q), (1, .int (nI n)), (2, .int (nI S))]) hx hb d_SQ_measureSets_62 hl (k := 3) rfl (n_incN l9 1) (by decide) rfl (fun ls hl => ?_)
            refine lv_goto (tgt := 11) hx hb d_SQ_measureSets_65 (by decide) ?_
            exact ih_inn (l9 + 1) fw (by omega) (by omega) (hI.skip (by omega)) _ _ _ hP hD hS (lv_sub hl [1, 2, 3, 0] rfl)
          refine lv_aload_n hx hb d_SQ_measureSets_24 rfl (lv_at hl 0 rfl) ?_
          refine lv_iload_n hx hb d_SQ_measureSets_25 rfl (lv_at hl 2 rfl) ?_
          refine lv_iload_n hx hb d_SQ_measureSets_26 rfl (lv_at hl 3 rfl) ?_
          refine lv_topr (show _ = zI (l9 : Int) from zI_n l9) ?_
          refine lv_iload_n hx hb d_SQ_measureSets_27 rfl (lv_at hl 1 rfl) ?_
          have hPc := hP.sub (ws' := [(q, .inr (3, [.ref qn, .int (nI tt), .int (nI kn), .ref qs, .ref qf])), (qs, .inl (cI, 81, .inl (aN sp))), (qf, .inl (cI, 4608, .inl (aN fw)))]) [0, 1, 2] rfl
          refine ro_calli (va_runV (As := [.int (nI S), .int (zI (l9 : Int)), .int (nI n)]) (rest := []) ⟨hx, hb, hml, hown, hts⟩ (c_SQ_lowestNext l dC dI q qn qs qf cI sp fw tt kn S (l9 : Int) n (by omega) hn (by omega) (fun x hx hb => Nat.lt_of_le_of_lt (thr_le hI hn (by omega) (fun y hy => hc l9 (by omega) y hy) hx hb) (by omega))) (cwV 3 hts (gw_V m_290 m_292 s_5 m_6 m_293) rfl rfl rfl (by decide +kernel) ⟨Nat.le_of_ble_eq_true rfl, Nat.le_of_ble_eq_true rfl⟩) ⟨ro_blind, va_recv hK hPc (ci := 3) (q0 := 0) rfl rfl, fun U hU hW => ⟨rfl, by rw [hU]; exact hPc, va_K.moved hW.alike hK⟩⟩ rfl rfl hl.1 rfl (lv_room (Nat.le_of_ble_eq_true rfl)) d_SQ_measureSets_28 ⟨Nat.le_of_ble_eq_true rfl, Nat.le_of_ble_eq_true rfl⟩) hS hP (fun r H locs er hP hS => ?_)
          obtain ⟨z, rfl, hLN⟩ := er
          have hzr : -1 ≤ z ∧ z < n := by rcases hLN with ⟨h, _⟩ | ⟨x, h, h2, _⟩ <;> omega
          refine lv_istore (lv' := [(4, .int (zI z)), (0, .ref q), (1, .int (nI n)), (2, .int (nI S)), (3, .int (nI l9))]) hx hb d_SQ_measureSets_31 hl (by decide) rfl (fun ls hl => ?_)
          refine lv_aload_n hx hb d_SQ_measureSets_33 rfl (lv_at hl 1 rfl) ?_
          refine va_get (D := (dC, dI)) (ci := 3) (v := .ref qf) (C := R_SQ) (T := F_SQ) (N := 5) hx hb hts in_SQ hown hK hP 0 rfl rfl 4 (by decide) (hts _ m_164) (fun _ h9 => h9) rfl d_SQ_measureSets_34 ?_
          refine lv_iload_n hx hb d_SQ_measureSets_37 rfl (lv_at hl 3 rfl) ?_
          refine lv_bipush (v := nI 9) hx hb d_SQ_measureSets_38 (by decide +kernel) ?_
          refine lv_imul hx hb d_SQ_measureSets_40 ?_
          refine lv_topr (show _ = nI (S * 9) from nn_mul _ _) ?_
          refine lv_iload_n hx hb d_SQ_measureSets_41 rfl (lv_at hl 4 rfl) ?_
          refine lv_iadd hx hb d_SQ_measureSets_42 ?_
          refine lv_topr (show _ = nI ((S * 9) + l9) from nn_add _ _) ?_
          refine lv_iload hx hb d_SQ_measureSets_43 (lv_at hl 0 rfl) ?_
          refine lv_iconst (v := zI (-1)) hx hb d_SQ_measureSets_45 (by decide +kernel) ?_
          refine ix_icmp_ne (tgt := 53) hx hb (zI_toInt (z := z) (by omega) (by omega)) (zI_toInt (z := -1) (by omega) (by omega)) d_SQ_measureSets_46 (by decide) (fun c_46 => ?_) (fun c_46 => ?_)
          · refine lv_aload_n hx hb d_SQ_measureSets_53 rfl (lv_at hl 1 rfl) ?_
            refine lv_iload_n hx hb d_SQ_measureSets_54 rfl (lv_at hl 3 rfl) ?_
            refine lv_iload_n hx hb d_SQ_measureSets_55 rfl (lv_at hl 4 rfl) ?_
            refine lv_topr (show _ = zI (l9 : Int) from zI_n l9) ?_
            refine lv_iload hx hb d_SQ_measureSets_56 (lv_at hl 0 rfl) ?_
            refine lv_topr (show _ = nI z.toNat from z_toN (by omega)) ?_
            have hPc := hP.sub (ws' := [(q, .inr (3, [.ref qn, .int (nI tt), .int (nI kn), .ref qs, .ref qf])), (qs, .inl (cI, 81, .inl (aN sp))), (qf, .inl (cI, 4608, .inl (aN fw)))]) [0, 1, 2] rfl
            refine ro_calli (va_runV (As := [.int (nI S), .int (zI (l9 : Int)), .int (nI z.toNat)]) (rest := [.int (nI ((S * 9) + l9)), .ref qf]) ⟨hx, hb, hml, hown, hts⟩ (c_SQ_through l dC dI q qn qs qf cI sp fw tt kn S (l9 : Int) z.toNat (by omega) (by omega) (by omega)) (cwV 3 hts (gw_V m_294 m_296 s_6 m_6 m_297) rfl rfl rfl (by decide +kernel) ⟨Nat.le_of_ble_eq_true rfl, Nat.le_of_ble_eq_true rfl⟩) ⟨ro_blind, va_recv hK hPc (ci := 3) (q0 := 0) rfl rfl, fun U hU hW => ⟨rfl, by rw [hU]; exact hPc, va_K.moved hW.alike hK⟩⟩ rfl rfl hl.1 rfl (lv_room (Nat.le_of_ble_eq_true rfl)) d_SQ_measureSets_58 ⟨Nat.le_of_ble_eq_true rfl, Nat.le_of_ble_eq_true rfl⟩) hS hP (fun r H locs er hP hS => ?_)
            subst er
            refine ix_iast (i := (S * 9) + l9) hx hb hK hP hD hS 2 0 rfl rfl (by omega) (by decide) d_SQ_measureSets_61 (fun H locs hP hD hS => ?_)
            have hP : va_P (dC, dI) vwCl [(q, .inr (3, [.ref qn, .int (nI tt), .int (nI kn), .ref qs, .ref qf])), (qs, .inl (cI, 81, .inl (aN sp))), (qf, .inl (cI, 4608, .inl (aN (up fw ((S * 9) + l9) (thr sp fw S (l9 : Int) z.toNat)))))] H := hP
            have hD : va_D A [(q, .inr (3, [.ref qn, .int (nI tt), .int (nI kn), .ref qs, .ref qf])), (qs, .inl (cI, 81, .inl (aN sp))), (qf, .inl (cI, 4608, .inl (aN (up fw ((S * 9) + l9) (thr sp fw S (l9 : Int) z.toNat)))))] := hD
            refine lv_iinc (v := nI (l9 + 1)) (lv' := [(3, .int (nI (l9 + 1))), (4, .int (zI z)), (0, .ref q), (1, .int (nI n)), (2, .int (nI S))]) hx hb d_SQ_measureSets_62 hl (k := 4) rfl (n_incN l9 1) (by decide) rfl (fun ls hl => ?_)
            refine lv_goto (tgt := 11) hx hb d_SQ_measureSets_65 (by decide) ?_
            exact ih_inn (l9 + 1) (up fw ((S * 9) + l9) (thr sp fw S (l9 : Int) z.toNat)) (by omega) (by omega) (by have := hI.put hn (by omega) (by omega) (fun y hy => hc l9 (by omega) y hy) hLN; rw [tv_1 (by omega)] at this; exact this) _ _ _ hP hD hS (lv_sub hl [2, 3, 4, 0] rfl)
          refine lv_iconst (v := nI 0) hx hb d_SQ_measureSets_49 (by decide +kernel) ?_
          refine lv_goto (tgt := 61) hx hb d_SQ_measureSets_50 (by decide) ?_
          refine ix_iast (i := (S * 9) + l9) hx hb hK hP hD hS 2 0 rfl rfl (by omega) (by decide) d_SQ_measureSets_61 (fun H locs hP hD hS => ?_)
          have hP : va_P (dC, dI) vwCl [(q, .inr (3, [.ref qn, .int (nI tt), .int (nI kn), .ref qs, .ref qf])), (qs, .inl (cI, 81, .inl (aN sp))), (qf, .inl (cI, 4608, .inl (aN (up fw ((S * 9) + l9) 0))))] H := hP
          have hD : va_D A [(q, .inr (3, [.ref qn, .int (nI tt), .int (nI kn), .ref qs, .ref qf])), (qs, .inl (cI, 81, .inl (aN sp))), (qf, .inl (cI, 4608, .inl (aN (up fw ((S * 9) + l9) 0))))] := hD
          refine lv_iinc (v := nI (l9 + 1)) (lv' := [(3, .int (nI (l9 + 1))), (4, .int (zI z)), (0, .ref q), (1, .int (nI n)), (2, .int (nI S))]) hx hb d_SQ_measureSets_62 hl (k := 4) rfl (n_incN l9 1) (by decide) rfl (fun ls hl => ?_)
          refine lv_goto (tgt := 11) hx hb d_SQ_measureSets_65 (by decide) ?_
          exact ih_inn (l9 + 1) (up fw ((S * 9) + l9) 0) (by omega) (by omega) (by have := hI.put hn (by omega) (by omega) (fun y hy => hc l9 (by omega) y hy) hLN; rw [tv_0 (by omega)] at this; exact this) _ _ _ hP hD hS (lv_sub hl [2, 3, 4, 0] rfl)
      exact inn (n + 1) 0 fw (by omega) (by omega) hI _ _ _ hP hD hS (lv_sub hl [1, 2, 3, 0] rfl)
  exact out (2 ^ n + 1) 0 fw (by omega) (by omega) (MI.init sp fw n) _ _ _ hP hD hS (lv_sub hl [1, 2, 0] rfl)
set_option maxHeartbeats 4000000 in
set_option maxRecDepth 100000 in
/-- choose(count): the order, by the table -/
theorem c_SQ_choose (l : Launch) (dC : Nat → ClassId) (dI : Nat → Nat → Nat) (sz : Nat) (q qn qs qf : Nat) (cI : ClassId) (nm sp fw : Nat → Nat) (tt kn n : Nat) (hn : n ≤ 9) (hth : ∀ S (la : Int), S < 2 ^ n → (la = -1 ∨ (0 ≤ la ∧ la < 9)) → ∀ x, x < n → bit S x = 1 → thr sp fw S la x < 2147483648) : Met l y_SQ_choose w_SQ_choose { frames := 3, cells := 0, slots := 0, locals := 72 } (rw_Pc (dC, dI) vwCl [(cI, .int)] sz [.ref q, .int (nI n)] [(q, .inr (3, [.ref qn, .int (nI tt), .int (nI kn), .ref qs, .ref qf])), (qn, .inl (cI, 9, .inl (aN nm))), (qs, .inl (cI, 81, .inl (aN sp))), (qf, .inl (cI, 4608, .inl (aN fw)))]) (va_Qv (fun (u : Nat × (Nat → Nat)) => GR sp fw n u.2 n ∧ (∀ j, j < n → u.2 j < n) ∧ u.1 = tot sp u.2 n) (rw_B (dC, dI) vwCl [(cI, .int)] (va_A [(q, .inr (3, [.ref qn, .int (nI tt), .int (nI kn), .ref qs, .ref qf])), (qn, .inl (cI, 9, .inl (aN nm))), (qs, .inl (cI, 81, .inl (aN sp))), (qf, .inl (cI, 4608, .inl (aN fw)))] sz) (fun u : Nat × (Nat → Nat) => [(q, .inr (3, [.ref qn, .int (nI u.1), .int (nI kn), .ref qs, .ref qf])), (qn, .inl (cI, 9, .inl (aN u.2))), (qs, .inl (cI, 81, .inl (aN sp))), (qf, .inl (cI, 4608, .inl (aN fw)))])) (va_A [(q, .inr (3, [.ref qn, .int (nI tt), .int (nI kn), .ref qs, .ref qf])), (qn, .inl (cI, 9, .inl (aN nm))), (qs, .inl (cI, 81, .inl (aN sp))), (qf, .inl (cI, 4608, .inl (aN fw)))] sz)) 0 0 (va_A [(q, .inr (3, [.ref qn, .int (nI tt), .int (nI kn), .ref qs, .ref qf])), (qn, .inl (cI, 9, .inl (aN nm))), (qs, .inl (cI, 81, .inl (aN sp))), (qf, .inl (cI, 4608, .inl (aN fw)))] sz) := by
  refine Met.ofW (cc := b_SQ_choose) (maxL := 6) (ret := none) (by decide) rfl ?_
  intro p e s m args below meth c s₁ B hml hv
  obtain ⟨rfl, hsz, hP, hK, hD0⟩ := hv
  have hx := B.exec
  have hb := B.bytes
  have hr := B.returns
  have hts := gw_h (atoms_spec (ws := w_SQ_choose) B.pre)
  have hown : s.vm.findClass R_SQ = some m.cls := findClass_of_methodNamed B.named
  have hlocks := B.notSynchronized
  subst hsz
  have hD := hD0.self (sz := s.heap.size)
  generalize hAe : va_A [(q, .inr (3, [.ref qn, .int (nI tt), .int (nI kn), .ref qs, .ref qf])), (qn, .inl (cI, 9, .inl (aN nm))), (qs, .inl (cI, 81, .inl (aN sp))), (qf, .inl (cI, 4608, .inl (aN fw)))] s.heap.size = A at hD ⊢
  have hA : ∀ q : Nat, s.heap.size ≤ q → A q := fun q h => by rw [← hAe]; exact Or.inr h
  have hS : va_S A s.heap s.heap [] := va_S.rf
  have hP : va_P (dC, dI) vwCl [(q, .inr (3, [.ref qn, .int (nI tt), .int (nI kn), .ref qs, .ref qf])), (qn, .inl (cI, 9, .inl (aN nm))), (qs, .inl (cI, 81, .inl (aN sp))), (qf, .inl (cI, 4608, .inl (aN fw)))] s.heap := hP
  have hl := lv_entry ([.ref q, .int (nI n)]) (n := 6) (Nat.le_of_ble_eq_true rfl)
  rw [lg_entry_eq]
  generalize (lg_sl ([.ref q, .int (nI n)]) ++ List.replicate (6 - (lg_sl ([.ref q, .int (nI n)])).length) Slot.unset).toArray = ls at hl ⊢
  have hl : lv_has ls 6 [(0, .ref q), (1, .int (nI n))] := hl
  have h512 : 2 ^ n ≤ 512 := (Nat.pow_le_pow_right (by decide) hn : 2 ^ n ≤ 2 ^ 9)
  have h1p : 1 ≤ 2 ^ n := Nat.pos_of_ne_zero (by simp)
  refine lv_aload_n hx hb d_SQ_choose_0 rfl (lv_at hl 0 rfl) ?_
  refine lv_iconst (v := nI 0) hx hb d_SQ_choose_1 (by decide +kernel) ?_
  refine va_put (D := (dC, dI)) (ci := 3) (v := .int (nI 0)) (ty := .int) (C := R_SQ) (T := F_SQ) (N := 5) hx hb hts in_SQ t_SQ t_SQ_ok n_SQ hown hK hP hD hS 0 rfl rfl 1 (by decide) (hts _ m_159) (fun _ h9 => h9) rfl (by decide +kernel) rfl rfl (Nat.le_of_ble_eq_true rfl) d_SQ_choose_2 (fun H locs hP hD hS => ?_)
  have hP : va_P (dC, dI) vwCl [(q, .inr (3, [.ref qn, .int (nI 0), .int (nI kn), .ref qs, .ref qf])), (qn, .inl (cI, 9, .inl (aN nm))), (qs, .inl (cI, 81, .inl (aN sp))), (qf, .inl (cI, 4608, .inl (aN fw)))] H := hP
  have hD : va_D A [(q, .inr (3, [.ref qn, .int (nI 0), .int (nI kn), .ref qs, .ref qf])), (qn, .inl (cI, 9, .inl (aN nm))), (qs, .inl (cI, 81, .inl (aN sp))), (qf, .inl (cI, 4608, .inl (aN fw)))] := hD
  refine lv_iconst (v := nI 1) hx hb d_SQ_choose_5 (by decide +kernel) ?_
  refine lv_iload_n hx hb d_SQ_choose_6 rfl (lv_at hl 1 rfl) ?_
  refine lv_ishl hx hb d_SQ_choose_7 ?_
  refine lv_topr (show _ = nI (2 ^ n) from bt_pow n (by omega)) ?_
  refine lv_iconst (v := nI 1) hx hb d_SQ_choose_8 (by decide +kernel) ?_
  refine lv_isub hx hb d_SQ_choose_9 ?_
  refine lv_topr (show _ = nI ((2 ^ n) - 1) from nn_subN (by omega)) ?_
  refine lv_istore_n (lv' := [(2, .int (nI ((2 ^ n) - 1))), (0, .ref q), (1, .int (nI n))]) hx hb d_SQ_choose_10 rfl hl (by decide) rfl (fun ls hl => ?_)
  refine lv_iconst (v := zI (-1)) hx hb d_SQ_choose_11 (by decide +kernel) ?_
  refine lv_istore_n (lv' := [(3, .int (zI (-1))), (2, .int (nI ((2 ^ n) - 1))), (0, .ref q), (1, .int (nI n))]) hx hb d_SQ_choose_12 rfl hl (by decide) rfl (fun ls hl => ?_)
  refine lv_iconst (v := nI 0) hx hb d_SQ_choose_13 (by decide +kernel) ?_
  refine lv_istore (lv' := [(4, .int (nI 0)), (3, .int (zI (-1))), (2, .int (nI ((2 ^ n) - 1))), (0, .ref q), (1, .int (nI n))]) hx hb d_SQ_choose_14 hl (by decide) rfl (fun ls hl => ?_)
  have out : ∀ (n_out : Nat) (k : Nat) (S : Nat) (la : Int) (tt : Nat) (nm : Nat → Nat), (n + 1 ≤ k + n_out) → (k ≤ n) → (S < 2 ^ n) → (la = -1 ∨ (0 ≤ la ∧ la < 9)) → (GR sp fw n nm k) → (∀ j, j < k → nm j < n) → (tt = tot sp nm k) → (S = stS n nm k) → (la = laS nm k) → ∀ (H : Heap) (locs : List Loc) (ls : Array Slot), va_P (dC, dI) vwCl [(q, .inr (3, [.ref qn, .int (nI tt), .int (nI kn), .ref qs, .ref qf])), (qn, .inl (cI, 9, .inl (aN nm))), (qs, .inl (cI, 81, .inl (aN sp))), (qf, .inl (cI, 4608, .inl (aN fw)))] H → va_D A [(q, .inr (3, [.ref qn, .int (nI tt), .int (nI kn), .ref qs, .ref qf])), (qn, .inl (cI, 9, .inl (aN nm))), (qs, .inl (cI, 81, .inl (aN sp))), (qf, .inl (cI, 4608, .inl (aN fw)))] → va_S A s.heap H locs → lv_has ls 6 [(0, .ref q), (1, .int (nI n)), (2, .int (nI S)), (3, .int (zI la)), (4, .int (nI k))] → W p l e (headSpec w_SQ_choose { frames := 3, cells := 0, slots := 0, locals := 72 }).room s m [.ref q, .int (nI n)].toArray below meth c H locs 0 0 (MQ below (va_Qv (fun (u : Nat × (Nat → Nat)) => GR sp fw n u.2 n ∧ (∀ j, j < n → u.2 j < n) ∧ u.1 = tot sp u.2 n) (rw_B (dC, dI) vwCl [(cI, .int)] A (fun u : Nat × (Nat → Nat) => [(q, .inr (3, [.ref qn, .int (nI u.1), .int (nI kn), .ref qs, .ref qf])), (qn, .inl (cI, 9, .inl (aN u.2))), (qs, .inl (cI, 81, .inl (aN sp))), (qf, .inl (cI, 4608, .inl (aN fw)))])) A) [.ref q, .int (nI n)].toArray s 0 0 A) (F0 m 16 ls []) := by
    intro n_out
    induction n_out with
    | zero =>
      intro k S la tt nm hm hk hSn hla hG hnum htt hS9 hla9
      exact absurd hm (by omega)
    | succ n_out ih_out =>
      intro k S la tt nm hm hk hSn hla hG hnum htt hS9 hla9 H locs ls hP hD hS hl
      refine lv_iload hx hb d_SQ_choose_16 (lv_at hl 4 rfl) ?_
      refine lv_iload_n hx hb d_SQ_choose_18 rfl (lv_at hl 1 rfl) ?_
      refine ix_icmp_ge (tgt := 81) hx hb (nI_tI (n := k) (by omega)) (nI_tI (n := n) (by omega)) d_SQ_choose_19 (by decide) (fun c_19 => ?_) (fun c_19 => ?_)
      · have e9 : k = n := by omega
        rw [e9] at hG hnum htt
        exact W.vret hx hb hr (fun t ht hW => ⟨⟨(tt, nm), rfl, ⟨hG, hnum, htt⟩, by rw [ht]; exact hP, va_K.moved hW.alike hK, hD⟩, hS.F ht⟩) hS.2.2 d_SQ_choose_81
      refine lv_aload_n hx hb d_SQ_choose_22 rfl (lv_at hl 0 rfl) ?_
      refine lv_iload_n hx hb d_SQ_choose_23 rfl (lv_at hl 2 rfl) ?_
      refine lv_iload_n hx hb d_SQ_choose_24 rfl (lv_at hl 3 rfl) ?_
      refine lv_iload_n hx hb d_SQ_choose_25 rfl (lv_at hl 1 rfl) ?_
      have hPc := hP.sub (ws' := [(q, .inr (3, [.ref qn, .int (nI tt), .int (nI kn), .ref qs, .ref qf])), (qs, .inl (cI, 81, .inl (aN sp))), (qf, .inl (cI, 4608, .inl (aN fw)))]) [0, 2, 3] rfl
      refine ro_calli (va_runV (As := [.int (nI S), .int (zI la), .int (nI n)]) (rest := []) ⟨hx, hb, hml, hown, hts⟩ (c_SQ_lowestNext l dC dI q qn qs qf cI sp fw tt kn S la n hla hn (by omega) (fun x hx hb => hth S la (by omega) hla x hx hb)) (cwV 3 hts (gw_V m_290 m_292 s_5 m_6 m_293) rfl rfl rfl (by decide +kernel) ⟨Nat.le_of_ble_eq_true rfl, Nat.le_of_ble_eq_true rfl⟩) ⟨ro_blind, va_recv hK hPc (ci := 3) (q0 := 0) rfl rfl, fun U hU hW => ⟨rfl, by rw [hU]; exact hPc, va_K.moved hW.alike hK⟩⟩ rfl rfl hl.1 rfl (lv_room (Nat.le_of_ble_eq_true rfl)) d_SQ_choose_26 ⟨Nat.le_of_ble_eq_true rfl, Nat.le_of_ble_eq_true rfl⟩) hS hP (fun r H locs er hP hS => ?_)
      obtain ⟨z, rfl, hLN⟩ := er
      have hzr : -1 ≤ z ∧ z < n := by rcases hLN with ⟨h, _⟩ | ⟨x, h, h2, _⟩ <;> omega
      have hz0 : ¬ z = -1 := by
        intro hz
        rcases hLN with ⟨_, h⟩ | ⟨x, h, _⟩
        · have h1 := bits_left hn hG hnum
          rw [← hS9, sumN_zeros h] at h1
          omega
        · omega
      refine lv_istore (lv' := [(5, .int (zI z)), (0, .ref q), (1, .int (nI n)), (2, .int (nI S)), (3, .int (zI la)), (4, .int (nI k))]) hx hb d_SQ_choose_29 hl (by decide) rfl (fun ls hl => ?_)
      refine lv_iload hx hb d_SQ_choose_31 (lv_at hl 0 rfl) ?_
      refine lv_iconst (v := zI (-1)) hx hb d_SQ_choose_33 (by decide +kernel) ?_
      refine ix_icmp_ne (tgt := 38) hx hb (zI_toInt (z := z) (by omega) (by omega)) (zI_toInt (z := -1) (by omega) (by omega)) d_SQ_choose_34 (by decide) (fun c_34 => ?_) (fun c_34 => absurd c_34 (by omega))
      refine lv_aload_n hx hb d_SQ_choose_38 rfl (lv_at hl 1 rfl) ?_
      refine lv_dup hx hb d_SQ_choose_39 rfl ?_
      refine va_get (D := (dC, dI)) (ci := 3) (v := .int (nI tt)) (C := R_SQ) (T := F_SQ) (N := 5) hx hb hts in_SQ hown hK hP 0 rfl rfl 1 (by decide) (hts _ m_159) (fun _ h9 => h9) rfl d_SQ_choose_40 ?_
      refine lv_aload_n hx hb d_SQ_choose_43 rfl (lv_at hl 1 rfl) ?_
      refine lv_iload_n hx hb d_SQ_choose_44 rfl (lv_at hl 4 rfl) ?_
      refine lv_iload hx hb d_SQ_choose_45 (lv_at hl 0 rfl) ?_
      refine lv_topr (show _ = nI z.toNat from z_toN (by omega)) ?_
      have hPc := hP.sub (ws' := [(q, .inr (3, [.ref qn, .int (nI tt), .int (nI kn), .ref qs, .ref qf])), (qs, .inl (cI, 81, .inl (aN sp)))]) [0, 2] rfl
      refine ro_calli (va_runV (As := [.int (zI la), .int (nI z.toNat)]) (rest := [.int (nI tt), .ref q]) ⟨hx, hb, hml, hown, hts⟩ (c_SQ_step l dC dI q qn qs qf cI sp tt kn la z.toNat hla (by omega)) (cwV 2 hts (gw_V m_298 m_300 s_7 m_6 m_301) rfl rfl rfl (by decide +kernel) ⟨Nat.le_of_ble_eq_true rfl, Nat.le_of_ble_eq_true rfl⟩) ⟨ro_blind, va_recv hK hPc (ci := 3) (q0 := 0) rfl rfl, fun U hU hW => ⟨rfl, by rw [hU]; exact hPc, va_K.moved hW.alike hK⟩⟩ rfl rfl hl.1 rfl (lv_room (Nat.le_of_ble_eq_true rfl)) d_SQ_choose_47 ⟨Nat.le_of_ble_eq_true rfl, Nat.le_of_ble_eq_true rfl⟩) hS hP (fun r H locs er hP hS => ?_)
      subst er
      refine lv_iadd hx hb d_SQ_choose_50 ?_
      refine lv_topr (show _ = nI (tt + (stp sp la z.toNat)) from nn_add _ _) ?_
      refine va_put (D := (dC, dI)) (ci := 3) (v := .int (nI (tt + (stp sp la z.toNat)))) (ty := .int) (C := R_SQ) (T := F_SQ) (N := 5) hx hb hts in_SQ t_SQ t_SQ_ok n_SQ hown hK hP hD hS 0 rfl rfl 1 (by decide) (hts _ m_159) (fun _ h9 => h9) rfl (by decide +kernel) rfl rfl (Nat.le_of_ble_eq_true rfl) d_SQ_choose_51 (fun H locs hP hD hS => ?_)
      have hP : va_P (dC, dI) vwCl [(q, .inr (3, [.ref qn, .int (nI (tt + (stp sp la z.toNat))), .int (nI kn), .ref qs, .ref qf])), (qn, .inl (cI, 9, .inl (aN nm))), (qs, .inl (cI, 81, .inl (aN sp))), (qf, .inl (cI, 4608, .inl (aN fw)))] H := hP
      have hD : va_D A [(q, .inr (3, [.ref qn, .int (nI (tt + (stp sp la z.toNat))), .int (nI kn), .ref qs, .ref qf])), (qn, .inl (cI, 9, .inl (aN nm))), (qs, .inl (cI, 81, .inl (aN sp))), (qf, .inl (cI, 4608, .inl (aN fw)))] := hD
      refine lv_aload_n hx hb d_SQ_choose_54 rfl (lv_at hl 1 rfl) ?_
      refine va_get (D := (dC, dI)) (ci := 3) (v := .ref qn) (C := R_SQ) (T := F_SQ) (N := 5) hx hb hts in_SQ hown hK hP 0 rfl rfl 0 (by decide) (hts _ m_157) (fun _ h9 => h9) rfl d_SQ_choose_55 ?_
      refine lv_iload hx hb d_SQ_choose_58 (lv_at hl 5 rfl) ?_
      refine lv_iload hx hb d_SQ_choose_60 (lv_at hl 0 rfl) ?_
      refine lv_topr (show _ = nI z.toNat from z_toN (by omega)) ?_
      refine ix_iast (i := k) hx hb hK hP hD hS 1 0 rfl rfl (by omega) (by decide) d_SQ_choose_62 (fun H locs hP hD hS => ?_)
      have hP : va_P (dC, dI) vwCl [(q, .inr (3, [.ref qn, .int (nI (tt + (stp sp la z.toNat))), .int (nI kn), .ref qs, .ref qf])), (qn, .inl (cI, 9, .inl (aN (up nm k z.toNat)))), (qs, .inl (cI, 81, .inl (aN sp))), (qf, .inl (cI, 4608, .inl (aN fw)))] H := hP
      have hD : va_D A [(q, .inr (3, [.ref qn, .int (nI (tt + (stp sp la z.toNat))), .int (nI kn), .ref qs, .ref qf])), (qn, .inl (cI, 9, .inl (aN (up nm k z.toNat)))), (qs, .inl (cI, 81, .inl (aN sp))), (qf, .inl (cI, 4608, .inl (aN fw)))] := hD
      refine lv_iload_n hx hb d_SQ_choose_63 rfl (lv_at hl 3 rfl) ?_
      refine lv_iconst (v := nI 1) hx hb d_SQ_choose_64 (by decide +kernel) ?_
      refine lv_iload hx hb d_SQ_choose_65 (lv_at hl 0 rfl) ?_
      refine lv_topr (show _ = nI z.toNat from z_toN (by omega)) ?_
      refine lv_ishl hx hb d_SQ_choose_67 ?_
      refine lv_iconst (v := zI (-1)) hx hb d_SQ_choose_68 (by decide +kernel) ?_
      refine lv_ixor hx hb d_SQ_choose_69 ?_
      refine lv_iand hx hb d_SQ_choose_70 ?_
      refine lv_topr (show _ = nI (clr S z.toNat) from bt_clr S (by omega) z.toNat (by omega)) ?_
      refine lv_istore_n (lv' := [(2, .int (nI (clr S z.toNat))), (5, .int (zI z)), (0, .ref q), (1, .int (nI n)), (3, .int (zI la)), (4, .int (nI k))]) hx hb d_SQ_choose_71 rfl hl (by decide) rfl (fun ls hl => ?_)
      refine lv_iload hx hb d_SQ_choose_72 (lv_at hl 1 rfl) ?_
      refine lv_istore_n (lv' := [(3, .int (zI z)), (2, .int (nI (clr S z.toNat))), (5, .int (zI z)), (0, .ref q), (1, .int (nI n)), (4, .int (nI k))]) hx hb d_SQ_choose_74 rfl hl (by decide) rfl (fun ls hl => ?_)
      refine lv_iinc (v := nI (k + 1)) (lv' := [(4, .int (nI (k + 1))), (3, .int (zI z)), (2, .int (nI (clr S z.toNat))), (5, .int (zI z)), (0, .ref q), (1, .int (nI n))]) hx hb d_SQ_choose_75 hl (k := 5) rfl (n_incN k 1) (by decide) rfl (fun ls hl => ?_)
      refine lv_goto (tgt := 16) hx hb d_SQ_choose_78 (by decide) ?_
      exact ih_out (k + 1) (clr S z.toNat) z (tt + (stp sp la z.toNat)) (up nm k z.toNat) (by omega) (by omega) (by have := clr_le S z.toNat; omega) (by omega) (hG.push (by rw [← hS9, ← hla9, show ((z.toNat : Nat) : Int) = z by omega]; exact hLN)) (num_push hnum (by omega)) (by rw [tot_push, ← htt, ← hla9]) (by show _ = clr (stS n (up nm k z.toNat) k) (up nm k z.toNat k); rw [up_s, ← stS_congr (fun j hj => (up_n nm z.toNat (show j ≠ k by omega)).symm), ← hS9]) (by show z = ((up nm k z.toNat k : Nat) : Int); rw [up_s]; omega) _ _ _ hP hD hS (lv_sub hl [4, 5, 2, 1, 0] rfl)
  exact out (n + 1) 0 (2 ^ n - 1) (-1) 0 nm (by omega) (by omega) (by omega) (Or.inl rfl) (fun _ h => absurd h (Nat.not_lt_zero _)) (fun _ h => absurd h (Nat.not_lt_zero _)) rfl rfl rfl _ _ _ hP hD hS (lv_sub hl [3, 4, 2, 1, 0] rfl)
end
section
theorem cpy5_eq (f g : Nat → Nat) : va_cpy (aN f) (aN g) (nI 0).toNatClampNeg (nI 0).toNatClampNeg (nI 5).toNatClampNeg = aN (cpy5 f g) := by
  have e0 : (nI 0).toNatClampNeg = 0 := by decide +kernel
  have e5 : (nI 5).toNatClampNeg = 5 := by decide +kernel
  rw [e0, e5]
  funext j
  by_cases h : j < 5
  · simp [va_cpy, aN, cpy5, h]
  · simp [va_cpy, aN, cpy5, h]
/-- the rest of a loop that counts down -/
def dn (f : Nat → PS → PS) (z : Int) (q : PS) : PS := if z < 0 then q else downP f z.toNat q
theorem dn_neg {f : Nat → PS → PS} {z : Int} {q : PS} (h : z < 0) : dn f z q = q := if_pos h
theorem dn_step {f : Nat → PS → PS} {z : Int} {q : PS} (h : 0 ≤ z) : dn f z q = dn f (z - 1) (f z.toNat q) := by
  unfold dn
  rw [if_neg (by omega)]
  obtain ⟨n, rfl⟩ : ∃ n : Nat, z = n := ⟨z.toNat, by omega⟩
  cases n with
  | zero => rw [if_pos (by omega)]; rfl
  | succ n =>
    rw [if_neg (by omega), show ((n + 1 : Nat) : Int) - 1 = (n : Int) by omega, Int.toNat_natCast, Int.toNat_natCast]
    rfl
def tcB (pi st pf : Nat → Nat) (room : Int) (most k w sum strips : Nat) : Nat → PS → PS := fun n q => if ((sum + n * pi w : Nat) : Int) ≤ room ∧ strips + n ≤ most then tcP pi st pf room most k (w + 1) (sum + n * pi w) (strips + n) (q.1, q.2.1, q.2.2.1, up q.2.2.2 w n) else q
theorem tcP_0 {pi st pf : Nat → Nat} {room : Int} {most w sum strips : Nat} {q : PS} : tcP pi st pf room most 0 w sum strips q = keepP sum strips q := by rw [tcP]
theorem tcP_cut {pi st pf : Nat → Nat} {room : Int} {most k w sum strips : Nat} {q : PS} (h : sum + pf w < q.1) : tcP pi st pf room most (k + 1) w sum strips q = q := by rw [tcP, if_pos h]
theorem tcP_S {pi st pf : Nat → Nat} {room : Int} {most k w sum strips : Nat} {q : PS} (h : ¬ sum + pf w < q.1) : tcP pi st pf room most (k + 1) w sum strips q = dn (tcB pi st pf room most k w sum strips) (st w : Int) q := by
  rw [tcP, if_neg h]
  unfold dn
  rw [if_neg (by omega), Int.toNat_natCast]
  rfl
theorem tcP_le {pi st pf : Nat → Nat} {room : Int} {most B M : Nat} (hr : room ≤ B) (hM : most ≤ M) : ∀ (k w sum strips : Nat) (q : PS), sum ≤ B → strips ≤ M → q.1 ≤ B → q.2.1 ≤ M → (tcP pi st pf room most k w sum strips q).1 ≤ B ∧ (tcP pi st pf room most k w sum strips q).2.1 ≤ M := by
  intro k
  induction k with
  | zero =>
    intro w sum strips q h1 h2 h3 h4
    rw [tcP]
    unfold keepP
    split
    · exact ⟨h1, h2⟩
    · exact ⟨h3, h4⟩
  | succ k ih =>
    intro w sum strips q h1 h2 h3 h4
    rw [tcP]
    split
    · exact ⟨h3, h4⟩
    · exact downP_ind (P := fun _ q => q.1 ≤ B ∧ q.2.1 ≤ M) (fun n q hq => by
        split
        · rename_i hif
          exact ih _ _ _ _ (by omega) (by omega) hq.1 hq.2
        · exact hq) _ _ ⟨h3, h4⟩
theorem keepP_eq {s n : Nat} {q : PS} (h : q.1 < s ∨ (s = q.1 ∧ n < q.2.1)) : keepP s n q = (s, n, cpy5 q.2.2.2 q.2.2.1, q.2.2.2) := if_pos h
theorem keepP_ne {s n : Nat} {q : PS} (h : ¬ (q.1 < s ∨ (s = q.1 ∧ n < q.2.1))) : keepP s n q = q := if_neg h
theorem d_PS_init_0 : decode b_PS_init 0 = .ok (.aload_n 0, 1) := by decide +kernel
theorem d_PS_init_1 : decode b_PS_init 1 = .ok (.invokespecial 3, 3) := by decide +kernel
theorem d_PS_init_4 : decode b_PS_init 4 = .ok (.aload_n 0, 1) := by decide +kernel
theorem d_PS_init_5 : decode b_PS_init 5 = .ok (.iconst 5, 1) := by decide +kernel
theorem d_PS_init_6 : decode b_PS_init 6 = .ok (.newarray .int, 2) := by decide +kernel
theorem d_PS_init_8 : decode b_PS_init 8 = .ok (.putfield 9, 3) := by decide +kernel
theorem d_PS_init_11 : decode b_PS_init 11 = .ok (.aload_n 0, 1) := by decide +kernel
theorem d_PS_init_12 : decode b_PS_init 12 = .ok (.iconst 0, 1) := by decide +kernel
theorem d_PS_init_13 : decode b_PS_init 13 = .ok (.putfield 15, 3) := by decide +kernel
theorem d_PS_init_16 : decode b_PS_init 16 = .ok (.aload_n 0, 1) := by decide +kernel
theorem d_PS_init_17 : decode b_PS_init 17 = .ok (.iconst 0, 1) := by decide +kernel
theorem d_PS_init_18 : decode b_PS_init 18 = .ok (.putfield 19, 3) := by decide +kernel
theorem d_PS_init_21 : decode b_PS_init 21 = .ok (.aload_n 0, 1) := by decide +kernel
theorem d_PS_init_22 : decode b_PS_init 22 = .ok (.iconst 0, 1) := by decide +kernel
theorem d_PS_init_23 : decode b_PS_init 23 = .ok (.putfield 22, 3) := by decide +kernel
theorem d_PS_init_26 : decode b_PS_init 26 = .ok (.aload_n 0, 1) := by decide +kernel
theorem d_PS_init_27 : decode b_PS_init 27 = .ok (.iconst 5, 1) := by decide +kernel
theorem d_PS_init_28 : decode b_PS_init 28 = .ok (.newarray .int, 2) := by decide +kernel
theorem d_PS_init_30 : decode b_PS_init 30 = .ok (.putfield 26, 3) := by decide +kernel
theorem d_PS_init_33 : decode b_PS_init 33 = .ok (.aload_n 0, 1) := by decide +kernel
theorem d_PS_init_34 : decode b_PS_init 34 = .ok (.bipush 6, 2) := by decide +kernel
theorem d_PS_init_36 : decode b_PS_init 36 = .ok (.newarray .int, 2) := by decide +kernel
theorem d_PS_init_38 : decode b_PS_init 38 = .ok (.putfield 29, 3) := by decide +kernel
theorem d_PS_init_41 : decode b_PS_init 41 = .ok (.aload_n 0, 1) := by decide +kernel
theorem d_PS_init_42 : decode b_PS_init 42 = .ok (.iconst 5, 1) := by decide +kernel
theorem d_PS_init_43 : decode b_PS_init 43 = .ok (.newarray .int, 2) := by decide +kernel
theorem d_PS_init_45 : decode b_PS_init 45 = .ok (.putfield 32, 3) := by decide +kernel
theorem d_PS_init_48 : decode b_PS_init 48 = .ok (.aload_n 0, 1) := by decide +kernel
theorem d_PS_init_49 : decode b_PS_init 49 = .ok (.iconst 0, 1) := by decide +kernel
theorem d_PS_init_50 : decode b_PS_init 50 = .ok (.putfield 35, 3) := by decide +kernel
theorem d_PS_init_53 : decode b_PS_init 53 = .ok (.aload_n 0, 1) := by decide +kernel
theorem d_PS_init_54 : decode b_PS_init 54 = .ok (.iconst 0, 1) := by decide +kernel
theorem d_PS_init_55 : decode b_PS_init 55 = .ok (.putfield 38, 3) := by decide +kernel
theorem d_PS_init_58 : decode b_PS_init 58 = .ok (.aload_n 0, 1) := by decide +kernel
theorem d_PS_init_59 : decode b_PS_init 59 = .ok (.iconst 0, 1) := by decide +kernel
theorem d_PS_init_60 : decode b_PS_init 60 = .ok (.putfield 41, 3) := by decide +kernel
theorem d_PS_init_63 : decode b_PS_init 63 = .ok (.return_, 1) := by decide +kernel
theorem d_PS_find_0 : decode b_PS_find 0 = .ok (.aload_n 0, 1) := by decide +kernel
theorem d_PS_find_1 : decode b_PS_find 1 = .ok (.getfield 22, 3) := by decide +kernel
theorem d_PS_find_4 : decode b_PS_find 4 = .ok (.ifCond .eq (4), 3) := by decide +kernel
theorem d_PS_find_7 : decode b_PS_find 7 = .ok (.return_, 1) := by decide +kernel
theorem d_PS_find_8 : decode b_PS_find 8 = .ok (.aload_n 0, 1) := by decide +kernel
theorem d_PS_find_9 : decode b_PS_find 9 = .ok (.getfield 9, 3) := by decide +kernel
theorem d_PS_find_12 : decode b_PS_find 12 = .ok (.iconst 0, 1) := by decide +kernel
theorem d_PS_find_13 : decode b_PS_find 13 = .ok (.invokestatic 44, 3) := by decide +kernel
theorem d_PS_find_16 : decode b_PS_find 16 = .ok (.aload_n 0, 1) := by decide +kernel
theorem d_PS_find_17 : decode b_PS_find 17 = .ok (.iconst 0, 1) := by decide +kernel
theorem d_PS_find_18 : decode b_PS_find 18 = .ok (.putfield 15, 3) := by decide +kernel
theorem d_PS_find_21 : decode b_PS_find 21 = .ok (.aload_n 0, 1) := by decide +kernel
theorem d_PS_find_22 : decode b_PS_find 22 = .ok (.iconst 0, 1) := by decide +kernel
theorem d_PS_find_23 : decode b_PS_find 23 = .ok (.putfield 41, 3) := by decide +kernel
theorem d_PS_find_26 : decode b_PS_find 26 = .ok (.aload_n 0, 1) := by decide +kernel
theorem d_PS_find_27 : decode b_PS_find 27 = .ok (.aload_n 1, 1) := by decide +kernel
theorem d_PS_find_28 : decode b_PS_find 28 = .ok (.getfield 50, 3) := by decide +kernel
theorem d_PS_find_31 : decode b_PS_find 31 = .ok (.iconst 2, 1) := by decide +kernel
theorem d_PS_find_32 : decode b_PS_find 32 = .ok (.aload_n 1, 1) := by decide +kernel
theorem d_PS_find_33 : decode b_PS_find 33 = .ok (.getfield 55, 3) := by decide +kernel
theorem d_PS_find_36 : decode b_PS_find 36 = .ok (.imul, 1) := by decide +kernel
theorem d_PS_find_37 : decode b_PS_find 37 = .ok (.isub, 1) := by decide +kernel
theorem d_PS_find_38 : decode b_PS_find 38 = .ok (.aload_n 1, 1) := by decide +kernel
theorem d_PS_find_39 : decode b_PS_find 39 = .ok (.getfield 58, 3) := by decide +kernel
theorem d_PS_find_42 : decode b_PS_find 42 = .ok (.iadd, 1) := by decide +kernel
theorem d_PS_find_43 : decode b_PS_find 43 = .ok (.putfield 35, 3) := by decide +kernel
theorem d_PS_find_46 : decode b_PS_find 46 = .ok (.aload_n 0, 1) := by decide +kernel
theorem d_PS_find_47 : decode b_PS_find 47 = .ok (.aload_n 1, 1) := by decide +kernel
theorem d_PS_find_48 : decode b_PS_find 48 = .ok (.getfield 61, 3) := by decide +kernel
theorem d_PS_find_51 : decode b_PS_find 51 = .ok (.iconst 1, 1) := by decide +kernel
theorem d_PS_find_52 : decode b_PS_find 52 = .ok (.isub, 1) := by decide +kernel
theorem d_PS_find_53 : decode b_PS_find 53 = .ok (.putfield 38, 3) := by decide +kernel
theorem d_PS_find_56 : decode b_PS_find 56 = .ok (.aload_n 0, 1) := by decide +kernel
theorem d_PS_find_57 : decode b_PS_find 57 = .ok (.aload_n 1, 1) := by decide +kernel
theorem d_PS_find_58 : decode b_PS_find 58 = .ok (.aload_n 2, 1) := by decide +kernel
theorem d_PS_find_59 : decode b_PS_find 59 = .ok (.invokevirtual 64, 3) := by decide +kernel
theorem d_PS_find_62 : decode b_PS_find 62 = .ok (.aload_n 0, 1) := by decide +kernel
theorem d_PS_find_63 : decode b_PS_find 63 = .ok (.aload_n 2, 1) := by decide +kernel
theorem d_PS_find_64 : decode b_PS_find 64 = .ok (.iconst 0, 1) := by decide +kernel
theorem d_PS_find_65 : decode b_PS_find 65 = .ok (.iconst 0, 1) := by decide +kernel
theorem d_PS_find_66 : decode b_PS_find 66 = .ok (.iconst 0, 1) := by decide +kernel
theorem d_PS_find_67 : decode b_PS_find 67 = .ok (.invokevirtual 68, 3) := by decide +kernel
theorem d_PS_find_70 : decode b_PS_find 70 = .ok (.aload_n 0, 1) := by decide +kernel
theorem d_PS_find_71 : decode b_PS_find 71 = .ok (.aload_n 0, 1) := by decide +kernel
theorem d_PS_find_72 : decode b_PS_find 72 = .ok (.getfield 15, 3) := by decide +kernel
theorem d_PS_find_75 : decode b_PS_find 75 = .ok (.ifCond .ne (7), 3) := by decide +kernel
theorem d_PS_find_78 : decode b_PS_find 78 = .ok (.iconst 0, 1) := by decide +kernel
theorem d_PS_find_79 : decode b_PS_find 79 = .ok (.goto (12), 3) := by decide +kernel
theorem d_PS_find_82 : decode b_PS_find 82 = .ok (.aload_n 0, 1) := by decide +kernel
theorem d_PS_find_83 : decode b_PS_find 83 = .ok (.getfield 41, 3) := by decide +kernel
theorem d_PS_find_86 : decode b_PS_find 86 = .ok (.aload_n 1, 1) := by decide +kernel
theorem d_PS_find_87 : decode b_PS_find 87 = .ok (.getfield 58, 3) := by decide +kernel
theorem d_PS_find_90 : decode b_PS_find 90 = .ok (.isub, 1) := by decide +kernel
theorem d_PS_find_91 : decode b_PS_find 91 = .ok (.putfield 19, 3) := by decide +kernel
theorem d_PS_find_94 : decode b_PS_find 94 = .ok (.aload_n 0, 1) := by decide +kernel
theorem d_PS_find_95 : decode b_PS_find 95 = .ok (.iconst 1, 1) := by decide +kernel
theorem d_PS_find_96 : decode b_PS_find 96 = .ok (.putfield 22, 3) := by decide +kernel
theorem d_PS_find_99 : decode b_PS_find 99 = .ok (.return_, 1) := by decide +kernel
theorem d_PS_measure_0 : decode b_PS_measure 0 = .ok (.aload_n 0, 1) := by decide +kernel
theorem d_PS_measure_1 : decode b_PS_measure 1 = .ok (.getfield 29, 3) := by decide +kernel
theorem d_PS_measure_4 : decode b_PS_measure 4 = .ok (.aload_n 2, 1) := by decide +kernel
theorem d_PS_measure_5 : decode b_PS_measure 5 = .ok (.getfield 72, 3) := by decide +kernel
theorem d_PS_measure_8 : decode b_PS_measure 8 = .ok (.iconst 0, 1) := by decide +kernel
theorem d_PS_measure_9 : decode b_PS_measure 9 = .ok (.iastore, 1) := by decide +kernel
theorem d_PS_measure_10 : decode b_PS_measure 10 = .ok (.aload_n 2, 1) := by decide +kernel
theorem d_PS_measure_11 : decode b_PS_measure 11 = .ok (.getfield 72, 3) := by decide +kernel
theorem d_PS_measure_14 : decode b_PS_measure 14 = .ok (.iconst 1, 1) := by decide +kernel
theorem d_PS_measure_15 : decode b_PS_measure 15 = .ok (.isub, 1) := by decide +kernel
theorem d_PS_measure_16 : decode b_PS_measure 16 = .ok (.istore_n 3, 1) := by decide +kernel
theorem d_PS_measure_17 : decode b_PS_measure 17 = .ok (.iload_n 3, 1) := by decide +kernel
theorem d_PS_measure_18 : decode b_PS_measure 18 = .ok (.ifCond .lt (54), 3) := by decide +kernel
theorem d_PS_measure_21 : decode b_PS_measure 21 = .ok (.aload_n 0, 1) := by decide +kernel
theorem d_PS_measure_22 : decode b_PS_measure 22 = .ok (.getfield 26, 3) := by decide +kernel
theorem d_PS_measure_25 : decode b_PS_measure 25 = .ok (.iload_n 3, 1) := by decide +kernel
theorem d_PS_measure_26 : decode b_PS_measure 26 = .ok (.aload_n 2, 1) := by decide +kernel
theorem d_PS_measure_27 : decode b_PS_measure 27 = .ok (.getfield 77, 3) := by decide +kernel
theorem d_PS_measure_30 : decode b_PS_measure 30 = .ok (.iload_n 3, 1) := by decide +kernel
theorem d_PS_measure_31 : decode b_PS_measure 31 = .ok (.iaload, 1) := by decide +kernel
theorem d_PS_measure_32 : decode b_PS_measure 32 = .ok (.aload_n 1, 1) := by decide +kernel
theorem d_PS_measure_33 : decode b_PS_measure 33 = .ok (.getfield 58, 3) := by decide +kernel
theorem d_PS_measure_36 : decode b_PS_measure 36 = .ok (.iadd, 1) := by decide +kernel
theorem d_PS_measure_37 : decode b_PS_measure 37 = .ok (.iastore, 1) := by decide +kernel
theorem d_PS_measure_38 : decode b_PS_measure 38 = .ok (.aload_n 0, 1) := by decide +kernel
theorem d_PS_measure_39 : decode b_PS_measure 39 = .ok (.getfield 29, 3) := by decide +kernel
theorem d_PS_measure_42 : decode b_PS_measure 42 = .ok (.iload_n 3, 1) := by decide +kernel
theorem d_PS_measure_43 : decode b_PS_measure 43 = .ok (.aload_n 0, 1) := by decide +kernel
theorem d_PS_measure_44 : decode b_PS_measure 44 = .ok (.getfield 29, 3) := by decide +kernel
theorem d_PS_measure_47 : decode b_PS_measure 47 = .ok (.iload_n 3, 1) := by decide +kernel
theorem d_PS_measure_48 : decode b_PS_measure 48 = .ok (.iconst 1, 1) := by decide +kernel
theorem d_PS_measure_49 : decode b_PS_measure 49 = .ok (.iadd, 1) := by decide +kernel
theorem d_PS_measure_50 : decode b_PS_measure 50 = .ok (.iaload, 1) := by decide +kernel
theorem d_PS_measure_51 : decode b_PS_measure 51 = .ok (.aload_n 2, 1) := by decide +kernel
theorem d_PS_measure_52 : decode b_PS_measure 52 = .ok (.getfield 80, 3) := by decide +kernel
theorem d_PS_measure_55 : decode b_PS_measure 55 = .ok (.iload_n 3, 1) := by decide +kernel
theorem d_PS_measure_56 : decode b_PS_measure 56 = .ok (.iaload, 1) := by decide +kernel
theorem d_PS_measure_57 : decode b_PS_measure 57 = .ok (.aload_n 0, 1) := by decide +kernel
theorem d_PS_measure_58 : decode b_PS_measure 58 = .ok (.getfield 26, 3) := by decide +kernel
theorem d_PS_measure_61 : decode b_PS_measure 61 = .ok (.iload_n 3, 1) := by decide +kernel
theorem d_PS_measure_62 : decode b_PS_measure 62 = .ok (.iaload, 1) := by decide +kernel
theorem d_PS_measure_63 : decode b_PS_measure 63 = .ok (.imul, 1) := by decide +kernel
theorem d_PS_measure_64 : decode b_PS_measure 64 = .ok (.iadd, 1) := by decide +kernel
theorem d_PS_measure_65 : decode b_PS_measure 65 = .ok (.iastore, 1) := by decide +kernel
theorem d_PS_measure_66 : decode b_PS_measure 66 = .ok (.iinc 3 (-1), 3) := by decide +kernel
theorem d_PS_measure_69 : decode b_PS_measure 69 = .ok (.goto (-52), 3) := by decide +kernel
theorem d_PS_measure_72 : decode b_PS_measure 72 = .ok (.return_, 1) := by decide +kernel
theorem d_PS_tryCounts_0 : decode b_PS_tryCounts 0 = .ok (.iload_n 2, 1) := by decide +kernel
theorem d_PS_tryCounts_1 : decode b_PS_tryCounts 1 = .ok (.aload_n 1, 1) := by decide +kernel
theorem d_PS_tryCounts_2 : decode b_PS_tryCounts 2 = .ok (.getfield 72, 3) := by decide +kernel
theorem d_PS_tryCounts_5 : decode b_PS_tryCounts 5 = .ok (.if_icmp .lt (11), 3) := by decide +kernel
theorem d_PS_tryCounts_8 : decode b_PS_tryCounts 8 = .ok (.aload_n 0, 1) := by decide +kernel
theorem d_PS_tryCounts_9 : decode b_PS_tryCounts 9 = .ok (.iload_n 3, 1) := by decide +kernel
theorem d_PS_tryCounts_10 : decode b_PS_tryCounts 10 = .ok (.iload 4, 2) := by decide +kernel
theorem d_PS_tryCounts_12 : decode b_PS_tryCounts 12 = .ok (.invokevirtual 83, 3) := by decide +kernel
theorem d_PS_tryCounts_15 : decode b_PS_tryCounts 15 = .ok (.return_, 1) := by decide +kernel
theorem d_PS_tryCounts_16 : decode b_PS_tryCounts 16 = .ok (.iload_n 3, 1) := by decide +kernel
theorem d_PS_tryCounts_17 : decode b_PS_tryCounts 17 = .ok (.aload_n 0, 1) := by decide +kernel
theorem d_PS_tryCounts_18 : decode b_PS_tryCounts 18 = .ok (.getfield 29, 3) := by decide +kernel
theorem d_PS_tryCounts_21 : decode b_PS_tryCounts 21 = .ok (.iload_n 2, 1) := by decide +kernel
theorem d_PS_tryCounts_22 : decode b_PS_tryCounts 22 = .ok (.iaload, 1) := by decide +kernel
theorem d_PS_tryCounts_23 : decode b_PS_tryCounts 23 = .ok (.iadd, 1) := by decide +kernel
theorem d_PS_tryCounts_24 : decode b_PS_tryCounts 24 = .ok (.aload_n 0, 1) := by decide +kernel
theorem d_PS_tryCounts_25 : decode b_PS_tryCounts 25 = .ok (.getfield 41, 3) := by decide +kernel
theorem d_PS_tryCounts_28 : decode b_PS_tryCounts 28 = .ok (.if_icmp .ge (4), 3) := by decide +kernel
theorem d_PS_tryCounts_31 : decode b_PS_tryCounts 31 = .ok (.return_, 1) := by decide +kernel
theorem d_PS_tryCounts_32 : decode b_PS_tryCounts 32 = .ok (.aload_n 1, 1) := by decide +kernel
theorem d_PS_tryCounts_33 : decode b_PS_tryCounts 33 = .ok (.getfield 80, 3) := by decide +kernel
theorem d_PS_tryCounts_36 : decode b_PS_tryCounts 36 = .ok (.iload_n 2, 1) := by decide +kernel
theorem d_PS_tryCounts_37 : decode b_PS_tryCounts 37 = .ok (.iaload, 1) := by decide +kernel
theorem d_PS_tryCounts_38 : decode b_PS_tryCounts 38 = .ok (.istore 5, 2) := by decide +kernel
theorem d_PS_tryCounts_40 : decode b_PS_tryCounts 40 = .ok (.iload 5, 2) := by decide +kernel
theorem d_PS_tryCounts_42 : decode b_PS_tryCounts 42 = .ok (.ifCond .lt (66), 3) := by decide +kernel
theorem d_PS_tryCounts_45 : decode b_PS_tryCounts 45 = .ok (.iload_n 3, 1) := by decide +kernel
theorem d_PS_tryCounts_46 : decode b_PS_tryCounts 46 = .ok (.iload 5, 2) := by decide +kernel
theorem d_PS_tryCounts_48 : decode b_PS_tryCounts 48 = .ok (.aload_n 0, 1) := by decide +kernel
theorem d_PS_tryCounts_49 : decode b_PS_tryCounts 49 = .ok (.getfield 26, 3) := by decide +kernel
theorem d_PS_tryCounts_52 : decode b_PS_tryCounts 52 = .ok (.iload_n 2, 1) := by decide +kernel
theorem d_PS_tryCounts_53 : decode b_PS_tryCounts 53 = .ok (.iaload, 1) := by decide +kernel
theorem d_PS_tryCounts_54 : decode b_PS_tryCounts 54 = .ok (.imul, 1) := by decide +kernel
theorem d_PS_tryCounts_55 : decode b_PS_tryCounts 55 = .ok (.iadd, 1) := by decide +kernel
theorem d_PS_tryCounts_56 : decode b_PS_tryCounts 56 = .ok (.istore 6, 2) := by decide +kernel
theorem d_PS_tryCounts_58 : decode b_PS_tryCounts 58 = .ok (.iload 6, 2) := by decide +kernel
theorem d_PS_tryCounts_60 : decode b_PS_tryCounts 60 = .ok (.aload_n 0, 1) := by decide +kernel
theorem d_PS_tryCounts_61 : decode b_PS_tryCounts 61 = .ok (.getfield 35, 3) := by decide +kernel
theorem d_PS_tryCounts_64 : decode b_PS_tryCounts 64 = .ok (.if_icmp .gt (38), 3) := by decide +kernel
theorem d_PS_tryCounts_67 : decode b_PS_tryCounts 67 = .ok (.iload 4, 2) := by decide +kernel
theorem d_PS_tryCounts_69 : decode b_PS_tryCounts 69 = .ok (.iload 5, 2) := by decide +kernel
theorem d_PS_tryCounts_71 : decode b_PS_tryCounts 71 = .ok (.iadd, 1) := by decide +kernel
theorem d_PS_tryCounts_72 : decode b_PS_tryCounts 72 = .ok (.aload_n 0, 1) := by decide +kernel
theorem d_PS_tryCounts_73 : decode b_PS_tryCounts 73 = .ok (.getfield 38, 3) := by decide +kernel
theorem d_PS_tryCounts_76 : decode b_PS_tryCounts 76 = .ok (.if_icmp .gt (26), 3) := by decide +kernel
theorem d_PS_tryCounts_79 : decode b_PS_tryCounts 79 = .ok (.aload_n 0, 1) := by decide +kernel
theorem d_PS_tryCounts_80 : decode b_PS_tryCounts 80 = .ok (.getfield 32, 3) := by decide +kernel
theorem d_PS_tryCounts_83 : decode b_PS_tryCounts 83 = .ok (.iload_n 2, 1) := by decide +kernel
theorem d_PS_tryCounts_84 : decode b_PS_tryCounts 84 = .ok (.iload 5, 2) := by decide +kernel
theorem d_PS_tryCounts_86 : decode b_PS_tryCounts 86 = .ok (.iastore, 1) := by decide +kernel
theorem d_PS_tryCounts_87 : decode b_PS_tryCounts 87 = .ok (.aload_n 0, 1) := by decide +kernel
theorem d_PS_tryCounts_88 : decode b_PS_tryCounts 88 = .ok (.aload_n 1, 1) := by decide +kernel
theorem d_PS_tryCounts_89 : decode b_PS_tryCounts 89 = .ok (.iload_n 2, 1) := by decide +kernel
theorem d_PS_tryCounts_90 : decode b_PS_tryCounts 90 = .ok (.iconst 1, 1) := by decide +kernel
theorem d_PS_tryCounts_91 : decode b_PS_tryCounts 91 = .ok (.iadd, 1) := by decide +kernel
theorem d_PS_tryCounts_92 : decode b_PS_tryCounts 92 = .ok (.iload 6, 2) := by decide +kernel
theorem d_PS_tryCounts_94 : decode b_PS_tryCounts 94 = .ok (.iload 4, 2) := by decide +kernel
theorem d_PS_tryCounts_96 : decode b_PS_tryCounts 96 = .ok (.iload 5, 2) := by decide +kernel
theorem d_PS_tryCounts_98 : decode b_PS_tryCounts 98 = .ok (.iadd, 1) := by decide +kernel
theorem d_PS_tryCounts_99 : decode b_PS_tryCounts 99 = .ok (.invokevirtual 68, 3) := by decide +kernel
theorem d_PS_tryCounts_102 : decode b_PS_tryCounts 102 = .ok (.iinc 5 (-1), 3) := by decide +kernel
theorem d_PS_tryCounts_105 : decode b_PS_tryCounts 105 = .ok (.goto (-65), 3) := by decide +kernel
theorem d_PS_tryCounts_108 : decode b_PS_tryCounts 108 = .ok (.return_, 1) := by decide +kernel
theorem d_PS_keepIfBetter_0 : decode b_PS_keepIfBetter 0 = .ok (.iload_n 1, 1) := by decide +kernel
theorem d_PS_keepIfBetter_1 : decode b_PS_keepIfBetter 1 = .ok (.aload_n 0, 1) := by decide +kernel
theorem d_PS_keepIfBetter_2 : decode b_PS_keepIfBetter 2 = .ok (.getfield 41, 3) := by decide +kernel
theorem d_PS_keepIfBetter_5 : decode b_PS_keepIfBetter 5 = .ok (.if_icmp .gt (19), 3) := by decide +kernel
theorem d_PS_keepIfBetter_8 : decode b_PS_keepIfBetter 8 = .ok (.iload_n 1, 1) := by decide +kernel
theorem d_PS_keepIfBetter_9 : decode b_PS_keepIfBetter 9 = .ok (.aload_n 0, 1) := by decide +kernel
theorem d_PS_keepIfBetter_10 : decode b_PS_keepIfBetter 10 = .ok (.getfield 41, 3) := by decide +kernel
theorem d_PS_keepIfBetter_13 : decode b_PS_keepIfBetter 13 = .ok (.if_icmp .ne (35), 3) := by decide +kernel
theorem d_PS_keepIfBetter_16 : decode b_PS_keepIfBetter 16 = .ok (.iload_n 2, 1) := by decide +kernel
theorem d_PS_keepIfBetter_17 : decode b_PS_keepIfBetter 17 = .ok (.aload_n 0, 1) := by decide +kernel
theorem d_PS_keepIfBetter_18 : decode b_PS_keepIfBetter 18 = .ok (.getfield 15, 3) := by decide +kernel
theorem d_PS_keepIfBetter_21 : decode b_PS_keepIfBetter 21 = .ok (.if_icmp .ge (27), 3) := by decide +kernel
theorem d_PS_keepIfBetter_24 : decode b_PS_keepIfBetter 24 = .ok (.aload_n 0, 1) := by decide +kernel
theorem d_PS_keepIfBetter_25 : decode b_PS_keepIfBetter 25 = .ok (.iload_n 1, 1) := by decide +kernel
theorem d_PS_keepIfBetter_26 : decode b_PS_keepIfBetter 26 = .ok (.putfield 41, 3) := by decide +kernel
theorem d_PS_keepIfBetter_29 : decode b_PS_keepIfBetter 29 = .ok (.aload_n 0, 1) := by decide +kernel
theorem d_PS_keepIfBetter_30 : decode b_PS_keepIfBetter 30 = .ok (.iload_n 2, 1) := by decide +kernel
theorem d_PS_keepIfBetter_31 : decode b_PS_keepIfBetter 31 = .ok (.putfield 15, 3) := by decide +kernel
theorem d_PS_keepIfBetter_34 : decode b_PS_keepIfBetter 34 = .ok (.aload_n 0, 1) := by decide +kernel
theorem d_PS_keepIfBetter_35 : decode b_PS_keepIfBetter 35 = .ok (.getfield 32, 3) := by decide +kernel
theorem d_PS_keepIfBetter_38 : decode b_PS_keepIfBetter 38 = .ok (.iconst 0, 1) := by decide +kernel
theorem d_PS_keepIfBetter_39 : decode b_PS_keepIfBetter 39 = .ok (.aload_n 0, 1) := by decide +kernel
theorem d_PS_keepIfBetter_40 : decode b_PS_keepIfBetter 40 = .ok (.getfield 9, 3) := by decide +kernel
theorem d_PS_keepIfBetter_43 : decode b_PS_keepIfBetter 43 = .ok (.iconst 0, 1) := by decide +kernel
theorem d_PS_keepIfBetter_44 : decode b_PS_keepIfBetter 44 = .ok (.iconst 5, 1) := by decide +kernel
theorem d_PS_keepIfBetter_45 : decode b_PS_keepIfBetter 45 = .ok (.invokestatic 87, 3) := by decide +kernel
theorem d_PS_keepIfBetter_48 : decode b_PS_keepIfBetter 48 = .ok (.return_, 1) := by decide +kernel
theorem d_AR_fill_0 : decode b_AR_fill 0 = .ok (.iconst 0, 1) := by decide +kernel
theorem d_AR_fill_1 : decode b_AR_fill 1 = .ok (.istore_n 2, 1) := by decide +kernel
theorem d_AR_fill_2 : decode b_AR_fill 2 = .ok (.aload_n 0, 1) := by decide +kernel
theorem d_AR_fill_3 : decode b_AR_fill 3 = .ok (.arraylength, 1) := by decide +kernel
theorem d_AR_fill_4 : decode b_AR_fill 4 = .ok (.istore_n 3, 1) := by decide +kernel
theorem d_AR_fill_5 : decode b_AR_fill 5 = .ok (.iload_n 2, 1) := by decide +kernel
theorem d_AR_fill_6 : decode b_AR_fill 6 = .ok (.iload_n 3, 1) := by decide +kernel
theorem d_AR_fill_7 : decode b_AR_fill 7 = .ok (.if_icmp .ge (13), 3) := by decide +kernel
theorem d_AR_fill_10 : decode b_AR_fill 10 = .ok (.aload_n 0, 1) := by decide +kernel
theorem d_AR_fill_11 : decode b_AR_fill 11 = .ok (.iload_n 2, 1) := by decide +kernel
theorem d_AR_fill_12 : decode b_AR_fill 12 = .ok (.iload_n 1, 1) := by decide +kernel
theorem d_AR_fill_13 : decode b_AR_fill 13 = .ok (.iastore, 1) := by decide +kernel
theorem d_AR_fill_14 : decode b_AR_fill 14 = .ok (.iinc 2 1, 3) := by decide +kernel
theorem d_AR_fill_17 : decode b_AR_fill 17 = .ok (.goto (-12), 3) := by decide +kernel
theorem d_AR_fill_20 : decode b_AR_fill 20 = .ok (.return_, 1) := by decide +kernel
end
section
set_option maxHeartbeats 4000000 in
set_option maxRecDepth 100000 in
/-- Arrays.fill over a row of five -/
theorem c_AR_fill (l : Launch) (dC : Nat → ClassId) (dI : Nat → Nat → Nat) (sz : Nat) (ab : Nat) (cI : ClassId) (bc : Nat → Nat) (v9 : Nat) : Met l y_AR_fill w_AR_fill { frames := 0, cells := 0, slots := 0, locals := 0 } (rw_Pc (dC, dI) vwCl [(cI, .int)] sz [.ref ab, .int (nI v9)] [(ab, .inl (cI, 5, .inl (aN bc)))]) (va_Qv (fun (u : (Nat → Nat)) => ∀ j, j < 5 → u j = v9) (rw_B (dC, dI) vwCl [(cI, .int)] (va_A [(ab, .inl (cI, 5, .inl (aN bc)))] sz) (fun u : (Nat → Nat) => [(ab, .inl (cI, 5, .inl (aN u)))])) (va_A [(ab, .inl (cI, 5, .inl (aN bc)))] sz)) 0 0 (va_A [(ab, .inl (cI, 5, .inl (aN bc)))] sz) := by
  refine Met.ofW (cc := b_AR_fill) (maxL := 4) (ret := none) (by decide) rfl ?_
  intro p e s m args below meth c s₁ B hml hv
  obtain ⟨rfl, hsz, hP, hK, hD0⟩ := hv
  have hx := B.exec
  have hb := B.bytes
  have hr := B.returns
  have hts := gw_h (atoms_spec (ws := w_AR_fill) B.pre)
  have hown : s.vm.findClass R_AR = some m.cls := findClass_of_methodNamed B.named
  have hlocks := B.notSynchronized
  subst hsz
  have hD := hD0.self (sz := s.heap.size)
  generalize hAe : va_A [(ab, .inl (cI, 5, .inl (aN bc)))] s.heap.size = A at hD ⊢
  have hA : ∀ q : Nat, s.heap.size ≤ q → A q := fun q h => by rw [← hAe]; exact Or.inr h
  have hS : va_S A s.heap s.heap [] := va_S.rf
  have hP : va_P (dC, dI) vwCl [(ab, .inl (cI, 5, .inl (aN bc)))] s.heap := hP
  have hl := lv_entry ([.ref ab, .int (nI v9)]) (n := 4) (Nat.le_of_ble_eq_true rfl)
  rw [lg_entry_eq]
  generalize (lg_sl ([.ref ab, .int (nI v9)]) ++ List.replicate (4 - (lg_sl ([.ref ab, .int (nI v9)])).length) Slot.unset).toArray = ls at hl ⊢
  have hl : lv_has ls 4 [(0, .ref ab), (1, .int (nI v9))] := hl
  refine lv_iconst (v := nI 0) hx hb d_AR_fill_0 (by decide +kernel) ?_
  refine lv_istore_n (lv' := [(2, .int (nI 0)), (0, .ref ab), (1, .int (nI v9))]) hx hb d_AR_fill_1 rfl hl (by decide) rfl (fun ls hl => ?_)
  refine lv_aload_n hx hb d_AR_fill_2 rfl (lv_at hl 1 rfl) ?_
  refine va_alen (v := nI 5) hx hb hK hP 0 0 rfl rfl rfl d_AR_fill_3 ?_
  refine lv_istore_n (lv' := [(3, .int (nI 5)), (2, .int (nI 0)), (0, .ref ab), (1, .int (nI v9))]) hx hb d_AR_fill_4 rfl hl (by decide) rfl (fun ls hl => ?_)
  have lp : ∀ (n_lp : Nat) (i9 : Nat) (bc : Nat → Nat), (6 ≤ i9 + n_lp) → (i9 ≤ 5) → (∀ j, j < i9 → bc j = v9) → ∀ (H : Heap) (locs : List Loc) (ls : Array Slot), va_P (dC, dI) vwCl [(ab, .inl (cI, 5, .inl (aN bc)))] H → va_D A [(ab, .inl (cI, 5, .inl (aN bc)))] → va_S A s.heap H locs → lv_has ls 4 [(0, .ref ab), (1, .int (nI v9)), (2, .int (nI i9)), (3, .int (nI 5))] → W p l e (headSpec w_AR_fill { frames := 0, cells := 0, slots := 0, locals := 0 }).room s m [.ref ab, .int (nI v9)].toArray below meth c H locs 0 0 (MQ below (va_Qv (fun (u : (Nat → Nat)) => ∀ j, j < 5 → u j = v9) (rw_B (dC, dI) vwCl [(cI, .int)] A (fun u : (Nat → Nat) => [(ab, .inl (cI, 5, .inl (aN u)))])) A) [.ref ab, .int (nI v9)].toArray s 0 0 A) (F0 m 5 ls []) := by
    intro n_lp
    induction n_lp with
    | zero =>
      intro i9 bc hm hi hI
      exact absurd hm (by omega)
    | succ n_lp ih_lp =>
      intro i9 bc hm hi hI H locs ls hP hD hS hl
      refine lv_iload_n hx hb d_AR_fill_5 rfl (lv_at hl 2 rfl) ?_
      refine lv_iload_n hx hb d_AR_fill_6 rfl (lv_at hl 3 rfl) ?_
      refine ix_icmp_ge (tgt := 20) hx hb (nI_tI (n := i9) (by omega)) (nI_tI (n := 5) (by omega)) d_AR_fill_7 (by decide) (fun c_7 => ?_) (fun c_7 => ?_)
      · exact W.vret hx hb hr (fun t ht hW => ⟨⟨bc, rfl, fun j hj => hI j (by omega), by rw [ht]; exact hP, va_K.moved hW.alike hK, hD⟩, hS.F ht⟩) hS.2.2 d_AR_fill_20
      refine lv_aload_n hx hb d_AR_fill_10 rfl (lv_at hl 0 rfl) ?_
      refine lv_iload_n hx hb d_AR_fill_11 rfl (lv_at hl 2 rfl) ?_
      refine lv_iload_n hx hb d_AR_fill_12 rfl (lv_at hl 1 rfl) ?_
      refine ix_iast (i := i9) hx hb hK hP hD hS 0 0 rfl rfl (by omega) (by decide) d_AR_fill_13 (fun H locs hP hD hS => ?_)
      have hP : va_P (dC, dI) vwCl [(ab, .inl (cI, 5, .inl (aN (up bc i9 v9))))] H := hP
      have hD : va_D A [(ab, .inl (cI, 5, .inl (aN (up bc i9 v9))))] := hD
      refine lv_iinc (v := nI (i9 + 1)) (lv' := [(2, .int (nI (i9 + 1))), (0, .ref ab), (1, .int (nI v9)), (3, .int (nI 5))]) hx hb d_AR_fill_14 hl (k := 2) rfl (n_incN i9 1) (by decide) rfl (fun ls hl => ?_)
      refine lv_goto (tgt := 5) hx hb d_AR_fill_17 (by decide) ?_
      exact ih_lp (i9 + 1) (up bc i9 v9) (by omega) (by omega) (lt_s (fun j hj => by rw [up_n _ _ (by omega)]; exact hI j hj) (up_s _ _ _)) _ _ _ hP hD hS (lv_sub hl [1, 2, 0, 3] rfl)
  exact lp 6 0 bc (by omega) (by omega) (fun _ h => absurd h (Nat.not_lt_zero _)) _ _ _ hP hD hS (lv_sub hl [2, 3, 1, 0] rfl)
set_option maxHeartbeats 4000000 in
set_option maxRecDepth 100000 in
/-- keepIfBetter(sum, strips) -/
theorem c_PS_keep (l : Launch) (dC : Nat → ClassId) (dI : Nat → Nat → Nat) (sz : Nat) (a0 ab ap aq ac : Nat) (cI : ClassId) (bc ct : Nat → Nat) (bn bf kn most bs s9 n9 : Nat) (room : Int) (h1 : s9 < 2147483648) (h2 : n9 < 2147483648) (h3 : bs < 2147483648) (h4 : bn < 2147483648) : Met l y_PS_keepIfBetter w_PS_keepIfBetter { frames := 1, cells := 0, slots := 0, locals := 80 } (rw_Pc (dC, dI) vwCl [(cI, .int)] sz [.ref a0, .int (nI s9), .int (nI n9)] [(a0, .inr (2, [.ref ab, .int (nI bn), .int (nI bf), .int (nI kn), .ref ap, .ref aq, .ref ac, .int (zI room), .int (nI most), .int (nI bs)])), (ab, .inl (cI, 5, .inl (aN bc))), (ac, .inl (cI, 5, .inl (aN ct)))]) (va_Qv (fun (u : Nat × Nat × (Nat → Nat)) => (u.1, u.2.1, u.2.2, ct) = keepP s9 n9 (bs, bn, bc, ct)) (rw_B (dC, dI) vwCl [(cI, .int)] (va_A [(a0, .inr (2, [.ref ab, .int (nI bn), .int (nI bf), .int (nI kn), .ref ap, .ref aq, .ref ac, .int (zI room), .int (nI most), .int (nI bs)])), (ab, .inl (cI, 5, .inl (aN bc))), (ac, .inl (cI, 5, .inl (aN ct)))] sz) (fun u : Nat × Nat × (Nat → Nat) => [(a0, .inr (2, [.ref ab, .int (nI u.2.1), .int (nI bf), .int (nI kn), .ref ap, .ref aq, .ref ac, .int (zI room), .int (nI most), .int (nI u.1)])), (ab, .inl (cI, 5, .inl (aN u.2.2))), (ac, .inl (cI, 5, .inl (aN ct)))])) (va_A [(a0, .inr (2, [.ref ab, .int (nI bn), .int (nI bf), .int (nI kn), .ref ap, .ref aq, .ref ac, .int (zI room), .int (nI most), .int (nI bs)])), (ab, .inl (cI, 5, .inl (aN bc))), (ac, .inl (cI, 5, .inl (aN ct)))] sz)) 0 0 (va_A [(a0, .inr (2, [.ref ab, .int (nI bn), .int (nI bf), .int (nI kn), .ref ap, .ref aq, .ref ac, .int (zI room), .int (nI most), .int (nI bs)])), (ab, .inl (cI, 5, .inl (aN bc))), (ac, .inl (cI, 5, .inl (aN ct)))] sz) := by
  refine Met.ofW (cc := b_PS_keepIfBetter) (maxL := 3) (ret := none) (by decide) rfl ?_
  intro p e s m args below meth c s₁ B hml hv
  obtain ⟨rfl, hsz, hP, hK, hD0⟩ := hv
  have hx := B.exec
  have hb := B.bytes
  have hr := B.returns
  have hts := gw_h (atoms_spec (ws := w_PS_keepIfBetter) B.pre)
  have hown : s.vm.findClass R_PS = some m.cls := findClass_of_methodNamed B.named
  have hlocks := B.notSynchronized
  subst hsz
  have hD := hD0.self (sz := s.heap.size)
  generalize hAe : va_A [(a0, .inr (2, [.ref ab, .int (nI bn), .int (nI bf), .int (nI kn), .ref ap, .ref aq, .ref ac, .int (zI room), .int (nI most), .int (nI bs)])), (ab, .inl (cI, 5, .inl (aN bc))), (ac, .inl (cI, 5, .inl (aN ct)))] s.heap.size = A at hD ⊢
  have hA : ∀ q : Nat, s.heap.size ≤ q → A q := fun q h => by rw [← hAe]; exact Or.inr h
  have hS : va_S A s.heap s.heap [] := va_S.rf
  have hP : va_P (dC, dI) vwCl [(a0, .inr (2, [.ref ab, .int (nI bn), .int (nI bf), .int (nI kn), .ref ap, .ref aq, .ref ac, .int (zI room), .int (nI most), .int (nI bs)])), (ab, .inl (cI, 5, .inl (aN bc))), (ac, .inl (cI, 5, .inl (aN ct)))] s.heap := hP
  have hl := lv_entry ([.ref a0, .int (nI s9), .int (nI n9)]) (n := 3) (Nat.le_of_ble_eq_true rfl)
  rw [lg_entry_eq]
  generalize (lg_sl ([.ref a0, .int (nI s9), .int (nI n9)]) ++ List.replicate (3 - (lg_sl ([.ref a0, .int (nI s9), .int (nI n9)])).length) Slot.unset).toArray = ls at hl ⊢
  have hl : lv_has ls 3 [(0, .ref a0), (1, .int (nI s9)), (2, .int (nI n9))] := hl
  refine lv_iload_n hx hb d_PS_keepIfBetter_0 rfl (lv_at hl 1 rfl) ?_
  refine lv_aload_n hx hb d_PS_keepIfBetter_1 rfl (lv_at hl 0 rfl) ?_
  refine va_get (D := (dC, dI)) (ci := 2) (v := .int (nI bs)) (C := R_PS) (T := F_PS) (N := 10) hx hb hts in_PS hown hK hP 0 rfl rfl 9 (by decide) (hts _ m_107) (fun _ h9 => h9) rfl d_PS_keepIfBetter_2 ?_
  refine ix_icmp_gt (tgt := 24) hx hb (nI_tI (n := s9) (by omega)) (nI_tI (n := bs) (by omega)) d_PS_keepIfBetter_5 (by decide) (fun c_5 => ?_) (fun c_5 => ?_)
  · refine lv_aload_n hx hb d_PS_keepIfBetter_24 rfl (lv_at hl 0 rfl) ?_
    refine lv_iload_n hx hb d_PS_keepIfBetter_25 rfl (lv_at hl 1 rfl) ?_
    refine va_put (D := (dC, dI)) (ci := 2) (v := .int (nI s9)) (ty := .int) (C := R_PS) (T := F_PS) (N := 10) hx hb hts in_PS t_PS t_PS_ok n_PS hown hK hP hD hS 0 rfl rfl 9 (by decide) (hts _ m_107) (fun _ h9 => h9) rfl (by decide +kernel) rfl rfl (Nat.le_of_ble_eq_true rfl) d_PS_keepIfBetter_26 (fun H locs hP hD hS => ?_)
    have hP : va_P (dC, dI) vwCl [(a0, .inr (2, [.ref ab, .int (nI bn), .int (nI bf), .int (nI kn), .ref ap, .ref aq, .ref ac, .int (zI room), .int (nI most), .int (nI s9)])), (ab, .inl (cI, 5, .inl (aN bc))), (ac, .inl (cI, 5, .inl (aN ct)))] H := hP
    have hD : va_D A [(a0, .inr (2, [.ref ab, .int (nI bn), .int (nI bf), .int (nI kn), .ref ap, .ref aq, .ref ac, .int (zI room), .int (nI most), .int (nI s9)])), (ab, .inl (cI, 5, .inl (aN bc))), (ac, .inl (cI, 5, .inl (aN ct)))] := hD
    refine lv_aload_n hx hb d_PS_keepIfBetter_29 rfl (lv_at hl 0 rfl) ?_
    refine lv_iload_n hx hb d_PS_keepIfBetter_30 rfl (lv_at hl 2 rfl) ?_
    refine va_put (D := (dC, dI)) (ci := 2) (v := .int (nI n9)) (ty := .int) (C := R_PS) (T := F_PS) (N := 10) hx hb hts in_PS t_PS t_PS_ok n_PS hown hK hP hD hS 0 rfl rfl 1 (by decide) (hts _ m_95) (fun _ h9 => h9) rfl (by decide +kernel) rfl rfl (Nat.le_of_ble_eq_true rfl) d_PS_keepIfBetter_31 (fun H locs hP hD hS => ?_)
    have hP : va_P (dC, dI) vwCl [(a0, .inr (2, [.ref ab, .int (nI n9), .int (nI bf), .int (nI kn), .ref ap, .ref aq, .ref ac, .int (zI room), .int (nI most), .int (nI s9)])), (ab, .inl (cI, 5, .inl (aN bc))), (ac, .inl (cI, 5, .inl (aN ct)))] H := hP
    have hD : va_D A [(a0, .inr (2, [.ref ab, .int (nI n9), .int (nI bf), .int (nI kn), .ref ap, .ref aq, .ref ac, .int (zI room), .int (nI most), .int (nI s9)])), (ab, .inl (cI, 5, .inl (aN bc))), (ac, .inl (cI, 5, .inl (aN ct)))] := hD
    refine lv_aload_n hx hb d_PS_keepIfBetter_34 rfl (lv_at hl 0 rfl) ?_
    refine va_get (D := (dC, dI)) (ci := 2) (v := .ref ac) (C := R_PS) (T := F_PS) (N := 10) hx hb hts in_PS hown hK hP 0 rfl rfl 6 (by decide) (hts _ m_104) (fun _ h9 => h9) rfl d_PS_keepIfBetter_35 ?_
    refine lv_iconst (v := nI 0) hx hb d_PS_keepIfBetter_38 (by decide +kernel) ?_
    refine lv_aload_n hx hb d_PS_keepIfBetter_39 rfl (lv_at hl 0 rfl) ?_
    refine va_get (D := (dC, dI)) (ci := 2) (v := .ref ab) (C := R_PS) (T := F_PS) (N := 10) hx hb hts in_PS hown hK hP 0 rfl rfl 0 (by decide) (hts _ m_92) (fun _ h9 => h9) rfl d_PS_keepIfBetter_40 ?_
    refine lv_iconst (v := nI 0) hx hb d_PS_keepIfBetter_43 (by decide +kernel) ?_
    refine lv_iconst (v := nI 5) hx hb d_PS_keepIfBetter_44 (by decide +kernel) ?_
    refine va_copyi hx hb (hml.trans hl.1.symm) hown (hts _ m_267) (hts _ m_269) (hts _ m_268) (hts _ m_16) hK hP hD hS 2 1 0 0 rfl rfl rfl rfl rfl (by decide +kernel) (by decide +kernel) (by decide +kernel) (by decide +kernel) (by decide +kernel) (fun _ _ => rfl) (Nat.le_of_ble_eq_true rfl) (Nat.le_of_ble_eq_true rfl) d_PS_keepIfBetter_45 (fun H locs hP hD hS => ?_)
    rw [cpy5_eq] at hP hD
    have hP : va_P (dC, dI) vwCl [(a0, .inr (2, [.ref ab, .int (nI n9), .int (nI bf), .int (nI kn), .ref ap, .ref aq, .ref ac, .int (zI room), .int (nI most), .int (nI s9)])), (ab, .inl (cI, 5, .inl (aN (cpy5 ct bc)))), (ac, .inl (cI, 5, .inl (aN ct)))] H := hP
    have hD : va_D A [(a0, .inr (2, [.ref ab, .int (nI n9), .int (nI bf), .int (nI kn), .ref ap, .ref aq, .ref ac, .int (zI room), .int (nI most), .int (nI s9)])), (ab, .inl (cI, 5, .inl (aN (cpy5 ct bc)))), (ac, .inl (cI, 5, .inl (aN ct)))] := hD
    exact W.vret hx hb hr (fun t ht hW => ⟨⟨(s9, n9, cpy5 ct bc), rfl, (keepP_eq (s := s9) (n := n9) (q := (bs, bn, bc, ct)) (show bs < s9 ∨ (s9 = bs ∧ n9 < bn) by omega)).symm, by rw [ht]; exact hP, va_K.moved hW.alike hK, hD⟩, hS.F ht⟩) hS.2.2 d_PS_keepIfBetter_48
  refine lv_iload_n hx hb d_PS_keepIfBetter_8 rfl (lv_at hl 1 rfl) ?_
  refine lv_aload_n hx hb d_PS_keepIfBetter_9 rfl (lv_at hl 0 rfl) ?_
  refine va_get (D := (dC, dI)) (ci := 2) (v := .int (nI bs)) (C := R_PS) (T := F_PS) (N := 10) hx hb hts in_PS hown hK hP 0 rfl rfl 9 (by decide) (hts _ m_107) (fun _ h9 => h9) rfl d_PS_keepIfBetter_10 ?_
  refine ix_icmp_ne (tgt := 48) hx hb (nI_tI (n := s9) (by omega)) (nI_tI (n := bs) (by omega)) d_PS_keepIfBetter_13 (by decide) (fun c_13 => ?_) (fun c_13 => ?_)
  · exact W.vret hx hb hr (fun t ht hW => ⟨⟨(bs, bn, bc), rfl, (keepP_ne (s := s9) (n := n9) (q := (bs, bn, bc, ct)) (show ¬ (bs < s9 ∨ (s9 = bs ∧ n9 < bn)) by omega)).symm, by rw [ht]; exact hP, va_K.moved hW.alike hK, hD⟩, hS.F ht⟩) hS.2.2 d_PS_keepIfBetter_48
  refine lv_iload_n hx hb d_PS_keepIfBetter_16 rfl (lv_at hl 2 rfl) ?_
  refine lv_aload_n hx hb d_PS_keepIfBetter_17 rfl (lv_at hl 0 rfl) ?_
  refine va_get (D := (dC, dI)) (ci := 2) (v := .int (nI bn)) (C := R_PS) (T := F_PS) (N := 10) hx hb hts in_PS hown hK hP 0 rfl rfl 1 (by decide) (hts _ m_95) (fun _ h9 => h9) rfl d_PS_keepIfBetter_18 ?_
  refine ix_icmp_ge (tgt := 48) hx hb (nI_tI (n := n9) (by omega)) (nI_tI (n := bn) (by omega)) d_PS_keepIfBetter_21 (by decide) (fun c_21 => ?_) (fun c_21 => ?_)
  · exact W.vret hx hb hr (fun t ht hW => ⟨⟨(bs, bn, bc), rfl, (keepP_ne (s := s9) (n := n9) (q := (bs, bn, bc, ct)) (show ¬ (bs < s9 ∨ (s9 = bs ∧ n9 < bn)) by omega)).symm, by rw [ht]; exact hP, va_K.moved hW.alike hK, hD⟩, hS.F ht⟩) hS.2.2 d_PS_keepIfBetter_48
  refine lv_aload_n hx hb d_PS_keepIfBetter_24 rfl (lv_at hl 0 rfl) ?_
  refine lv_iload_n hx hb d_PS_keepIfBetter_25 rfl (lv_at hl 1 rfl) ?_
  refine va_put (D := (dC, dI)) (ci := 2) (v := .int (nI s9)) (ty := .int) (C := R_PS) (T := F_PS) (N := 10) hx hb hts in_PS t_PS t_PS_ok n_PS hown hK hP hD hS 0 rfl rfl 9 (by decide) (hts _ m_107) (fun _ h9 => h9) rfl (by decide +kernel) rfl rfl (Nat.le_of_ble_eq_true rfl) d_PS_keepIfBetter_26 (fun H locs hP hD hS => ?_)
  have hP : va_P (dC, dI) vwCl [(a0, .inr (2, [.ref ab, .int (nI bn), .int (nI bf), .int (nI kn), .ref ap, .ref aq, .ref ac, .int (zI room), .int (nI most), .int (nI s9)])), (ab, .inl (cI, 5, .inl (aN bc))), (ac, .inl (cI, 5, .inl (aN ct)))] H := hP
  have hD : va_D A [(a0, .inr (2, [.ref ab, .int (nI bn), .int (nI bf), .int (nI kn), .ref ap, .ref aq, .ref ac, .int (zI room), .int (nI most), .int (nI s9)])), (ab, .inl (cI, 5, .inl (aN bc))), (ac, .inl (cI, 5, .inl (aN ct)))] := hD
  refine lv_aload_n hx hb d_PS_keepIfBetter_29 rfl (lv_at hl 0 rfl) ?_
  refine lv_iload_n hx hb d_PS_keepIfBetter_30 rfl (lv_at hl 2 rfl) ?_
  refine va_put (D := (dC, dI)) (ci := 2) (v := .int (nI n9)) (ty := .int) (C := R_PS) (T := F_PS) (N := 10) hx hb hts in_PS t_PS t_PS_ok n_PS hown hK hP hD hS 0 rfl rfl 1 (by decide) (hts _ m_95) (fun _ h9 => h9) rfl (by decide +kernel) rfl rfl (Nat.le_of_ble_eq_true rfl) d_PS_keepIfBetter_31 (fun H locs hP hD hS => ?_)
  have hP : va_P (dC, dI) vwCl [(a0, .inr (2, [.ref ab, .int (nI n9), .int (nI bf), .int (nI kn), .ref ap, .ref aq, .ref ac, .int (zI room), .int (nI most), .int (nI s9)])), (ab, .inl (cI, 5, .inl (aN bc))), (ac, .inl (cI, 5, .inl (aN ct)))] H := hP
  have hD : va_D A [(a0, .inr (2, [.ref ab, .int (nI n9), .int (nI bf), .int (nI kn), .ref ap, .ref aq, .ref ac, .int (zI room), .int (nI most), .int (nI s9)])), (ab, .inl (cI, 5, .inl (aN bc))), (ac, .inl (cI, 5, .inl (aN ct)))] := hD
  refine lv_aload_n hx hb d_PS_keepIfBetter_34 rfl (lv_at hl 0 rfl) ?_
  refine va_get (D := (dC, dI)) (ci := 2) (v := .ref ac) (C := R_PS) (T := F_PS) (N := 10) hx hb hts in_PS hown hK hP 0 rfl rfl 6 (by decide) (hts _ m_104) (fun _ h9 => h9) rfl d_PS_keepIfBetter_35 ?_
  refine lv_iconst (v := nI 0) hx hb d_PS_keepIfBetter_38 (by decide +kernel) ?_
  refine lv_aload_n hx hb d_PS_keepIfBetter_39 rfl (lv_at hl 0 rfl) ?_
  refine va_get (D := (dC, dI)) (ci := 2) (v := .ref ab) (C := R_PS) (T := F_PS) (N := 10) hx hb hts in_PS hown hK hP 0 rfl rfl 0 (by decide) (hts _ m_92) (fun _ h9 => h9) rfl d_PS_keepIfBetter_40 ?_
  refine lv_iconst (v := nI 0) hx hb d_PS_keepIfBetter_43 (by decide +kernel) ?_
  refine lv_iconst (v := nI 5) hx hb d_PS_keepIfBetter_44 (by decide +kernel) ?_
  refine va_copyi hx hb (hml.trans hl.1.symm) hown (hts _ m_267) (hts _ m_269) (hts _ m_268) (hts _ m_16) hK hP hD hS 2 1 0 0 rfl rfl rfl rfl rfl (by decide +kernel) (by decide +kernel) (by decide +kernel) (by decide +kernel) (by decide +kernel) (fun _ _ => rfl) (Nat.le_of_ble_eq_true rfl) (Nat.le_of_ble_eq_true rfl) d_PS_keepIfBetter_45 (fun H locs hP hD hS => ?_)
  rw [cpy5_eq] at hP hD
  have hP : va_P (dC, dI) vwCl [(a0, .inr (2, [.ref ab, .int (nI n9), .int (nI bf), .int (nI kn), .ref ap, .ref aq, .ref ac, .int (zI room), .int (nI most), .int (nI s9)])), (ab, .inl (cI, 5, .inl (aN (cpy5 ct bc)))), (ac, .inl (cI, 5, .inl (aN ct)))] H := hP
  have hD : va_D A [(a0, .inr (2, [.ref ab, .int (nI n9), .int (nI bf), .int (nI kn), .ref ap, .ref aq, .ref ac, .int (zI room), .int (nI most), .int (nI s9)])), (ab, .inl (cI, 5, .inl (aN (cpy5 ct bc)))), (ac, .inl (cI, 5, .inl (aN ct)))] := hD
  exact W.vret hx hb hr (fun t ht hW => ⟨⟨(s9, n9, cpy5 ct bc), rfl, (keepP_eq (s := s9) (n := n9) (q := (bs, bn, bc, ct)) (show bs < s9 ∨ (s9 = bs ∧ n9 < bn) by omega)).symm, by rw [ht]; exact hP, va_K.moved hW.alike hK, hD⟩, hS.F ht⟩) hS.2.2 d_PS_keepIfBetter_48
set_option maxHeartbeats 4000000 in
set_option maxRecDepth 100000 in
/-- tryCounts behind the last width -/
theorem c_PS_try0 (l : Launch) (dC : Nat → ClassId) (dI : Nat → Nat → Nat) (sz : Nat) (a0 ab ap aq ac : Nat) (cI : ClassId) (v0 vw vs : Nat) (pi pf wd st : Nat → Nat) (bf kn most cnt : Nat) (room : Int) (hc5 : cnt ≤ 5) (hst : ∀ i, i < cnt → st i ≤ 6) (hpi : ∀ i, i < cnt → pi i ≤ 20100) (hpf : ∀ i, i < cnt → pf i ≤ 700000) (hr1 : -2000 ≤ room) (hr2 : room ≤ 20100) (hmo : most ≤ 39) (w9 s9 n9 bs bn : Nat) (bc ct : Nat → Nat) (hw : w9 + 0 = cnt) (hs : s9 ≤ 20100) (hn : n9 ≤ 39) (hbs : bs ≤ 20100) (hbn : bn ≤ 39) : Met l y_PS_tryCounts w_PS_tryCounts { frames := 0 + 2, cells := 0, slots := 0, locals := 102 + 26 * 0 } (rw_Pc (dC, dI) vwCl [(cI, .int)] sz [.ref a0, .ref v0, .int (nI w9), .int (nI s9), .int (nI n9)] [(a0, .inr (2, [.ref ab, .int (nI bn), .int (nI bf), .int (nI kn), .ref ap, .ref aq, .ref ac, .int (zI room), .int (nI most), .int (nI bs)])), (ab, .inl (cI, 5, .inl (aN bc))), (ap, .inl (cI, 5, .inl (aN pi))), (aq, .inl (cI, 6, .inl (aN pf))), (ac, .inl (cI, 5, .inl (aN ct))), (v0, .inr (5, [.ref vw, .ref vs, .int (nI cnt)])), (vw, .inl (cI, 5, .inl (aN wd))), (vs, .inl (cI, 5, .inl (aN st)))]) (va_Qv (fun (u : Nat × Nat × (Nat → Nat) × (Nat → Nat)) => (u.1, u.2.1, u.2.2.1, u.2.2.2) = tcP pi st pf room most 0 w9 s9 n9 (bs, bn, bc, ct)) (rw_B (dC, dI) vwCl [(cI, .int)] (va_A [(a0, .inr (2, [.ref ab, .int (nI bn), .int (nI bf), .int (nI kn), .ref ap, .ref aq, .ref ac, .int (zI room), .int (nI most), .int (nI bs)])), (ab, .inl (cI, 5, .inl (aN bc))), (ap, .inl (cI, 5, .inl (aN pi))), (aq, .inl (cI, 6, .inl (aN pf))), (ac, .inl (cI, 5, .inl (aN ct))), (v0, .inr (5, [.ref vw, .ref vs, .int (nI cnt)])), (vw, .inl (cI, 5, .inl (aN wd))), (vs, .inl (cI, 5, .inl (aN st)))] sz) (fun u : Nat × Nat × (Nat → Nat) × (Nat → Nat) => [(a0, .inr (2, [.ref ab, .int (nI u.2.1), .int (nI bf), .int (nI kn), .ref ap, .ref aq, .ref ac, .int (zI room), .int (nI most), .int (nI u.1)])), (ab, .inl (cI, 5, .inl (aN u.2.2.1))), (ap, .inl (cI, 5, .inl (aN pi))), (aq, .inl (cI, 6, .inl (aN pf))), (ac, .inl (cI, 5, .inl (aN u.2.2.2))), (v0, .inr (5, [.ref vw, .ref vs, .int (nI cnt)])), (vw, .inl (cI, 5, .inl (aN wd))), (vs, .inl (cI, 5, .inl (aN st)))])) (va_A [(a0, .inr (2, [.ref ab, .int (nI bn), .int (nI bf), .int (nI kn), .ref ap, .ref aq, .ref ac, .int (zI room), .int (nI most), .int (nI bs)])), (ab, .inl (cI, 5, .inl (aN bc))), (ap, .inl (cI, 5, .inl (aN pi))), (aq, .inl (cI, 6, .inl (aN pf))), (ac, .inl (cI, 5, .inl (aN ct))), (v0, .inr (5, [.ref vw, .ref vs, .int (nI cnt)])), (vw, .inl (cI, 5, .inl (aN wd))), (vs, .inl (cI, 5, .inl (aN st)))] sz)) 0 0 (va_A [(a0, .inr (2, [.ref ab, .int (nI bn), .int (nI bf), .int (nI kn), .ref ap, .ref aq, .ref ac, .int (zI room), .int (nI most), .int (nI bs)])), (ab, .inl (cI, 5, .inl (aN bc))), (ap, .inl (cI, 5, .inl (aN pi))), (aq, .inl (cI, 6, .inl (aN pf))), (ac, .inl (cI, 5, .inl (aN ct))), (v0, .inr (5, [.ref vw, .ref vs, .int (nI cnt)])), (vw, .inl (cI, 5, .inl (aN wd))), (vs, .inl (cI, 5, .inl (aN st)))] sz) := by
  refine Met.ofW (cc := b_PS_tryCounts) (maxL := 7) (ret := none) (by decide) rfl ?_
  intro p e s m args below meth c s₁ B hml hv
  obtain ⟨rfl, hsz, hP, hK, hD0⟩ := hv
  have hx := B.exec
  have hb := B.bytes
  have hr := B.returns
  have hts := gw_h (atoms_spec (ws := w_PS_tryCounts) B.pre)
  have hown : s.vm.findClass R_PS = some m.cls := findClass_of_methodNamed B.named
  have hlocks := B.notSynchronized
  subst hsz
  have hD := hD0.self (sz := s.heap.size)
  generalize hAe : va_A [(a0, .inr (2, [.ref ab, .int (nI bn), .int (nI bf), .int (nI kn), .ref ap, .ref aq, .ref ac, .int (zI room), .int (nI most), .int (nI bs)])), (ab, .inl (cI, 5, .inl (aN bc))), (ap, .inl (cI, 5, .inl (aN pi))), (aq, .inl (cI, 6, .inl (aN pf))), (ac, .inl (cI, 5, .inl (aN ct))), (v0, .inr (5, [.ref vw, .ref vs, .int (nI cnt)])), (vw, .inl (cI, 5, .inl (aN wd))), (vs, .inl (cI, 5, .inl (aN st)))] s.heap.size = A at hD ⊢
  have hA : ∀ q : Nat, s.heap.size ≤ q → A q := fun q h => by rw [← hAe]; exact Or.inr h
  have hS : va_S A s.heap s.heap [] := va_S.rf
  have hP : va_P (dC, dI) vwCl [(a0, .inr (2, [.ref ab, .int (nI bn), .int (nI bf), .int (nI kn), .ref ap, .ref aq, .ref ac, .int (zI room), .int (nI most), .int (nI bs)])), (ab, .inl (cI, 5, .inl (aN bc))), (ap, .inl (cI, 5, .inl (aN pi))), (aq, .inl (cI, 6, .inl (aN pf))), (ac, .inl (cI, 5, .inl (aN ct))), (v0, .inr (5, [.ref vw, .ref vs, .int (nI cnt)])), (vw, .inl (cI, 5, .inl (aN wd))), (vs, .inl (cI, 5, .inl (aN st)))] s.heap := hP
  have hl := lv_entry ([.ref a0, .ref v0, .int (nI w9), .int (nI s9), .int (nI n9)]) (n := 7) (Nat.le_of_ble_eq_true rfl)
  rw [lg_entry_eq]
  generalize (lg_sl ([.ref a0, .ref v0, .int (nI w9), .int (nI s9), .int (nI n9)]) ++ List.replicate (7 - (lg_sl ([.ref a0, .ref v0, .int (nI w9), .int (nI s9), .int (nI n9)])).length) Slot.unset).toArray = ls at hl ⊢
  have hl : lv_has ls 7 [(0, .ref a0), (1, .ref v0), (2, .int (nI w9)), (3, .int (nI s9)), (4, .int (nI n9))] := hl
  have hw0 : w9 = cnt := by omega
  refine lv_iload_n hx hb d_PS_tryCounts_0 rfl (lv_at hl 2 rfl) ?_
  refine lv_aload_n hx hb d_PS_tryCounts_1 rfl (lv_at hl 1 rfl) ?_
  refine va_get (D := (dC, dI)) (ci := 5) (v := .int (nI cnt)) (C := R_WI) (T := F_WI) (N := 3) hx hb hts in_WI hown hK hP 5 rfl rfl 2 (by decide) (hts _ m_77) (fun _ h9 => h9) rfl d_PS_tryCounts_2 ?_
  refine ix_icmp_lt (tgt := 16) hx hb (nI_tI (n := w9) (by omega)) (nI_tI (n := cnt) (by omega)) d_PS_tryCounts_5 (by decide) (fun c_5 => absurd c_5 (by omega)) (fun c_5 => ?_)
  refine lv_aload_n hx hb d_PS_tryCounts_8 rfl (lv_at hl 0 rfl) ?_
  refine lv_iload_n hx hb d_PS_tryCounts_9 rfl (lv_at hl 3 rfl) ?_
  refine lv_iload hx hb d_PS_tryCounts_10 (lv_at hl 4 rfl) ?_
  have hPc := hP.sub (ws' := [(a0, .inr (2, [.ref ab, .int (nI bn), .int (nI bf), .int (nI kn), .ref ap, .ref aq, .ref ac, .int (zI room), .int (nI most), .int (nI bs)])), (ab, .inl (cI, 5, .inl (aN bc))), (ac, .inl (cI, 5, .inl (aN ct)))]) [0, 1, 4] rfl
  have hDc := hD.sub (ws' := [(a0, .inr (2, [.ref ab, .int (nI bn), .int (nI bf), .int (nI kn), .ref ap, .ref aq, .ref ac, .int (zI room), .int (nI most), .int (nI bs)])), (ab, .inl (cI, 5, .inl (aN bc))), (ac, .inl (cI, 5, .inl (aN ct)))]) [0, 1, 4] (by decide) rfl
  have hFc := va_free (wc := [(a0, .inr (2, [.ref ab, .int (nI bn), .int (nI bf), .int (nI kn), .ref ap, .ref aq, .ref ac, .int (zI room), .int (nI most), .int (nI bs)])), (ab, .inl (cI, 5, .inl (aN bc))), (ac, .inl (cI, 5, .inl (aN ct)))]) hD hS hA [0, 1, 4] rfl
  refine va_callv (va_runV (As := [.int (nI s9), .int (nI n9)]) (rest := []) ⟨hx, hb, hml, hown, hts⟩ (c_PS_keep l dC dI s.heap.size a0 ab ap aq ac cI bc ct bn bf kn most bs s9 n9 room (by omega) (by omega) (by omega) (by omega)) (cwV 2 hts (gw_V m_263 m_265 s_2 m_4 m_266) rfl rfl rfl (by decide +kernel) ⟨Nat.le_of_ble_eq_true rfl, Nat.le_of_ble_eq_true rfl⟩) ⟨rw_blind, va_recv hK hPc (ci := 2) (q0 := 0) rfl rfl, fun U hU hW => ⟨rfl, by rw [hU], by rw [hU]; exact hPc, va_K.moved hW.alike hK, hDc.weaken (fun _ _ _ _ => trivial)⟩⟩ rfl rfl hl.1 rfl (lv_room (Nat.le_of_ble_eq_true rfl)) d_PS_tryCounts_12 ⟨Nat.le_of_ble_eq_true rfl, Nat.le_of_ble_eq_true rfl⟩) hS (fun q _ h => hFc q h) hFc (fun u t H1 locs ht hvm hw hB hz1 hk1 hS => ?_)
  obtain ⟨bs9, bn9, bc9⟩ := u
  obtain ⟨hP1, hK1, hD1⟩ := hB
  rw [ht] at hP1
  try dsimp only at hw
  obtain ⟨hP, hD⟩ := va_join (wr := [(ap, .inl (cI, 5, .inl (aN pi))), (aq, .inl (cI, 6, .inl (aN pf))), (v0, .inr (5, [.ref vw, .ref vs, .int (nI cnt)])), (vw, .inl (cI, 5, .inl (aN wd))), (vs, .inl (cI, 5, .inl (aN st)))]) (w1 := [(a0, .inr (2, [.ref ab, .int (nI bn9), .int (nI bf), .int (nI kn), .ref ap, .ref aq, .ref ac, .int (zI room), .int (nI most), .int (nI bs9)])), (ab, .inl (cI, 5, .inl (aN bc9))), (ac, .inl (cI, 5, .inl (aN ct)))]) hP hD [0, 1, 4] [2, 3, 5, 6, 7] rfl rfl (by decide) (by decide) hk1 hFc hP1 hD1
  generalize H1 = H at hP hS ⊢
  have hP : va_P (dC, dI) vwCl [(a0, .inr (2, [.ref ab, .int (nI bn9), .int (nI bf), .int (nI kn), .ref ap, .ref aq, .ref ac, .int (zI room), .int (nI most), .int (nI bs9)])), (ab, .inl (cI, 5, .inl (aN bc9))), (ap, .inl (cI, 5, .inl (aN pi))), (aq, .inl (cI, 6, .inl (aN pf))), (ac, .inl (cI, 5, .inl (aN ct))), (v0, .inr (5, [.ref vw, .ref vs, .int (nI cnt)])), (vw, .inl (cI, 5, .inl (aN wd))), (vs, .inl (cI, 5, .inl (aN st)))] H := hP.sub [5, 6, 0, 1, 7, 2, 3, 4] rfl
  have hD : va_D A [(a0, .inr (2, [.ref ab, .int (nI bn9), .int (nI bf), .int (nI kn), .ref ap, .ref aq, .ref ac, .int (zI room), .int (nI most), .int (nI bs9)])), (ab, .inl (cI, 5, .inl (aN bc9))), (ap, .inl (cI, 5, .inl (aN pi))), (aq, .inl (cI, 6, .inl (aN pf))), (ac, .inl (cI, 5, .inl (aN ct))), (v0, .inr (5, [.ref vw, .ref vs, .int (nI cnt)])), (vw, .inl (cI, 5, .inl (aN wd))), (vs, .inl (cI, 5, .inl (aN st)))] := hD.sub [5, 6, 0, 1, 7, 2, 3, 4] (by decide) rfl
  exact W.vret hx hb hr (fun t ht hW => ⟨⟨(bs9, bn9, bc9, ct), rfl, by rw [hw, tcP_0], by rw [ht]; exact hP, va_K.moved hW.alike hK, hD⟩, hS.F ht⟩) hS.2.2 d_PS_tryCounts_15
set_option maxHeartbeats 4000000 in
set_option maxRecDepth 100000 in
/-- tryCounts with a width more -/
theorem c_PS_tryS (l : Launch) (dC : Nat → ClassId) (dI : Nat → Nat → Nat) (sz : Nat) (a0 ab ap aq ac : Nat) (cI : ClassId) (v0 vw vs : Nat) (pi pf wd st : Nat → Nat) (bf kn most cnt : Nat) (room : Int) (hc5 : cnt ≤ 5) (hst : ∀ i, i < cnt → st i ≤ 6) (hpi : ∀ i, i < cnt → pi i ≤ 20100) (hpf : ∀ i, i < cnt → pf i ≤ 700000) (hr1 : -2000 ≤ room) (hr2 : room ≤ 20100) (hmo : most ≤ 39) (k : Nat) (ih : ∀ (sz w9 s9 n9 bs bn : Nat) (bc ct : Nat → Nat), w9 + k = cnt → s9 ≤ 20100 → n9 ≤ 39 → bs ≤ 20100 → bn ≤ 39 → Met l y_PS_tryCounts w_PS_tryCounts { frames := k + 2, cells := 0, slots := 0, locals := 102 + 26 * k } (rw_Pc (dC, dI) vwCl [(cI, .int)] sz [.ref a0, .ref v0, .int (nI w9), .int (nI s9), .int (nI n9)] [(a0, .inr (2, [.ref ab, .int (nI bn), .int (nI bf), .int (nI kn), .ref ap, .ref aq, .ref ac, .int (zI room), .int (nI most), .int (nI bs)])), (ab, .inl (cI, 5, .inl (aN bc))), (ap, .inl (cI, 5, .inl (aN pi))), (aq, .inl (cI, 6, .inl (aN pf))), (ac, .inl (cI, 5, .inl (aN ct))), (v0, .inr (5, [.ref vw, .ref vs, .int (nI cnt)])), (vw, .inl (cI, 5, .inl (aN wd))), (vs, .inl (cI, 5, .inl (aN st)))]) (va_Qv (fun (u : Nat × Nat × (Nat → Nat) × (Nat → Nat)) => (u.1, u.2.1, u.2.2.1, u.2.2.2) = tcP pi st pf room most k w9 s9 n9 (bs, bn, bc, ct)) (rw_B (dC, dI) vwCl [(cI, .int)] (va_A [(a0, .inr (2, [.ref ab, .int (nI bn), .int (nI bf), .int (nI kn), .ref ap, .ref aq, .ref ac, .int (zI room), .int (nI most), .int (nI bs)])), (ab, .inl (cI, 5, .inl (aN bc))), (ap, .inl (cI, 5, .inl (aN pi))), (aq, .inl (cI, 6, .inl (aN pf))), (ac, .inl (cI, 5, .inl (aN ct))), (v0, .inr (5, [.ref vw, .ref vs, .int (nI cnt)])), (vw, .inl (cI, 5, .inl (aN wd))), (vs, .inl (cI, 5, .inl (aN st)))] sz) (fun u : Nat × Nat × (Nat → Nat) × (Nat → Nat) => [(a0, .inr (2, [.ref ab, .int (nI u.2.1), .int (nI bf), .int (nI kn), .ref ap, .ref aq, .ref ac, .int (zI room), .int (nI most), .int (nI u.1)])), (ab, .inl (cI, 5, .inl (aN u.2.2.1))), (ap, .inl (cI, 5, .inl (aN pi))), (aq, .inl (cI, 6, .inl (aN pf))), (ac, .inl (cI, 5, .inl (aN u.2.2.2))), (v0, .inr (5, [.ref vw, .ref vs, .int (nI cnt)])), (vw, .inl (cI, 5, .inl (aN wd))), (vs, .inl (cI, 5, .inl (aN st)))])) (va_A [(a0, .inr (2, [.ref ab, .int (nI bn), .int (nI bf), .int (nI kn), .ref ap, .ref aq, .ref ac, .int (zI room), .int (nI most), .int (nI bs)])), (ab, .inl (cI, 5, .inl (aN bc))), (ap, .inl (cI, 5, .inl (aN pi))), (aq, .inl (cI, 6, .inl (aN pf))), (ac, .inl (cI, 5, .inl (aN ct))), (v0, .inr (5, [.ref vw, .ref vs, .int (nI cnt)])), (vw, .inl (cI, 5, .inl (aN wd))), (vs, .inl (cI, 5, .inl (aN st)))] sz)) 0 0 (va_A [(a0, .inr (2, [.ref ab, .int (nI bn), .int (nI bf), .int (nI kn), .ref ap, .ref aq, .ref ac, .int (zI room), .int (nI most), .int (nI bs)])), (ab, .inl (cI, 5, .inl (aN bc))), (ap, .inl (cI, 5, .inl (aN pi))), (aq, .inl (cI, 6, .inl (aN pf))), (ac, .inl (cI, 5, .inl (aN ct))), (v0, .inr (5, [.ref vw, .ref vs, .int (nI cnt)])), (vw, .inl (cI, 5, .inl (aN wd))), (vs, .inl (cI, 5, .inl (aN st)))] sz)) (w9 s9 n9 bs bn : Nat) (bc ct : Nat → Nat) (hw : w9 + (k + 1) = cnt) (hs : s9 ≤ 20100) (hn : n9 ≤ 39) (hbs : bs ≤ 20100) (hbn : bn ≤ 39) : Met l y_PS_tryCounts w_PS_tryCounts { frames := (k + 1) + 2, cells := 0, slots := 0, locals := 102 + 26 * (k + 1) } (rw_Pc (dC, dI) vwCl [(cI, .int)] sz [.ref a0, .ref v0, .int (nI w9), .int (nI s9), .int (nI n9)] [(a0, .inr (2, [.ref ab, .int (nI bn), .int (nI bf), .int (nI kn), .ref ap, .ref aq, .ref ac, .int (zI room), .int (nI most), .int (nI bs)])), (ab, .inl (cI, 5, .inl (aN bc))), (ap, .inl (cI, 5, .inl (aN pi))), (aq, .inl (cI, 6, .inl (aN pf))), (ac, .inl (cI, 5, .inl (aN ct))), (v0, .inr (5, [.ref vw, .ref vs, .int (nI cnt)])), (vw, .inl (cI, 5, .inl (aN wd))), (vs, .inl (cI, 5, .inl (aN st)))]) (va_Qv (fun (u : Nat × Nat × (Nat → Nat) × (Nat → Nat)) => (u.1, u.2.1, u.2.2.1, u.2.2.2) = tcP pi st pf room most (k + 1) w9 s9 n9 (bs, bn, bc, ct)) (rw_B (dC, dI) vwCl [(cI, .int)] (va_A [(a0, .inr (2, [.ref ab, .int (nI bn), .int (nI bf), .int (nI kn), .ref ap, .ref aq, .ref ac, .int (zI room), .int (nI most), .int (nI bs)])), (ab, .inl (cI, 5, .inl (aN bc))), (ap, .inl (cI, 5, .inl (aN pi))), (aq, .inl (cI, 6, .inl (aN pf))), (ac, .inl (cI, 5, .inl (aN ct))), (v0, .inr (5, [.ref vw, .ref vs, .int (nI cnt)])), (vw, .inl (cI, 5, .inl (aN wd))), (vs, .inl (cI, 5, .inl (aN st)))] sz) (fun u : Nat × Nat × (Nat → Nat) × (Nat → Nat) => [(a0, .inr (2, [.ref ab, .int (nI u.2.1), .int (nI bf), .int (nI kn), .ref ap, .ref aq, .ref ac, .int (zI room), .int (nI most), .int (nI u.1)])), (ab, .inl (cI, 5, .inl (aN u.2.2.1))), (ap, .inl (cI, 5, .inl (aN pi))), (aq, .inl (cI, 6, .inl (aN pf))), (ac, .inl (cI, 5, .inl (aN u.2.2.2))), (v0, .inr (5, [.ref vw, .ref vs, .int (nI cnt)])), (vw, .inl (cI, 5, .inl (aN wd))), (vs, .inl (cI, 5, .inl (aN st)))])) (va_A [(a0, .inr (2, [.ref ab, .int (nI bn), .int (nI bf), .int (nI kn), .ref ap, .ref aq, .ref ac, .int (zI room), .int (nI most), .int (nI bs)])), (ab, .inl (cI, 5, .inl (aN bc))), (ap, .inl (cI, 5, .inl (aN pi))), (aq, .inl (cI, 6, .inl (aN pf))), (ac, .inl (cI, 5, .inl (aN ct))), (v0, .inr (5, [.ref vw, .ref vs, .int (nI cnt)])), (vw, .inl (cI, 5, .inl (aN wd))), (vs, .inl (cI, 5, .inl (aN st)))] sz)) 0 0 (va_A [(a0, .inr (2, [.ref ab, .int (nI bn), .int (nI bf), .int (nI kn), .ref ap, .ref aq, .ref ac, .int (zI room), .int (nI most), .int (nI bs)])), (ab, .inl (cI, 5, .inl (aN bc))), (ap, .inl (cI, 5, .inl (aN pi))), (aq, .inl (cI, 6, .inl (aN pf))), (ac, .inl (cI, 5, .inl (aN ct))), (v0, .inr (5, [.ref vw, .ref vs, .int (nI cnt)])), (vw, .inl (cI, 5, .inl (aN wd))), (vs, .inl (cI, 5, .inl (aN st)))] sz) := by
  refine Met.ofW (cc := b_PS_tryCounts) (maxL := 7) (ret := none) (by decide) rfl ?_
  intro p e s m args below meth c s₁ B hml hv
  obtain ⟨rfl, hsz, hP, hK, hD0⟩ := hv
  have hx := B.exec
  have hb := B.bytes
  have hr := B.returns
  have hts := gw_h (atoms_spec (ws := w_PS_tryCounts) B.pre)
  have hown : s.vm.findClass R_PS = some m.cls := findClass_of_methodNamed B.named
  have hlocks := B.notSynchronized
  subst hsz
  have hD := hD0.self (sz := s.heap.size)
  generalize hAe : va_A [(a0, .inr (2, [.ref ab, .int (nI bn), .int (nI bf), .int (nI kn), .ref ap, .ref aq, .ref ac, .int (zI room), .int (nI most), .int (nI bs)])), (ab, .inl (cI, 5, .inl (aN bc))), (ap, .inl (cI, 5, .inl (aN pi))), (aq, .inl (cI, 6, .inl (aN pf))), (ac, .inl (cI, 5, .inl (aN ct))), (v0, .inr (5, [.ref vw, .ref vs, .int (nI cnt)])), (vw, .inl (cI, 5, .inl (aN wd))), (vs, .inl (cI, 5, .inl (aN st)))] s.heap.size = A at hD ⊢
  have hA : ∀ q : Nat, s.heap.size ≤ q → A q := fun q h => by rw [← hAe]; exact Or.inr h
  have hS : va_S A s.heap s.heap [] := va_S.rf
  have hP : va_P (dC, dI) vwCl [(a0, .inr (2, [.ref ab, .int (nI bn), .int (nI bf), .int (nI kn), .ref ap, .ref aq, .ref ac, .int (zI room), .int (nI most), .int (nI bs)])), (ab, .inl (cI, 5, .inl (aN bc))), (ap, .inl (cI, 5, .inl (aN pi))), (aq, .inl (cI, 6, .inl (aN pf))), (ac, .inl (cI, 5, .inl (aN ct))), (v0, .inr (5, [.ref vw, .ref vs, .int (nI cnt)])), (vw, .inl (cI, 5, .inl (aN wd))), (vs, .inl (cI, 5, .inl (aN st)))] s.heap := hP
  have hl := lv_entry ([.ref a0, .ref v0, .int (nI w9), .int (nI s9), .int (nI n9)]) (n := 7) (Nat.le_of_ble_eq_true rfl)
  rw [lg_entry_eq]
  generalize (lg_sl ([.ref a0, .ref v0, .int (nI w9), .int (nI s9), .int (nI n9)]) ++ List.replicate (7 - (lg_sl ([.ref a0, .ref v0, .int (nI w9), .int (nI s9), .int (nI n9)])).length) Slot.unset).toArray = ls at hl ⊢
  have hl : lv_has ls 7 [(0, .ref a0), (1, .ref v0), (2, .int (nI w9)), (3, .int (nI s9)), (4, .int (nI n9))] := hl
  have hwc : w9 < cnt := by omega
  have hpw := hpi w9 hwc
  have hfw := hpf w9 hwc
  have hsw := hst w9 hwc
  refine lv_iload_n hx hb d_PS_tryCounts_0 rfl (lv_at hl 2 rfl) ?_
  refine lv_aload_n hx hb d_PS_tryCounts_1 rfl (lv_at hl 1 rfl) ?_
  refine va_get (D := (dC, dI)) (ci := 5) (v := .int (nI cnt)) (C := R_WI) (T := F_WI) (N := 3) hx hb hts in_WI hown hK hP 5 rfl rfl 2 (by decide) (hts _ m_77) (fun _ h9 => h9) rfl d_PS_tryCounts_2 ?_
  refine ix_icmp_lt (tgt := 16) hx hb (nI_tI (n := w9) (by omega)) (nI_tI (n := cnt) (by omega)) d_PS_tryCounts_5 (by decide) (fun c_5 => ?_) (fun c_5 => absurd c_5 (by omega))
  refine lv_iload_n hx hb d_PS_tryCounts_16 rfl (lv_at hl 3 rfl) ?_
  refine lv_aload_n hx hb d_PS_tryCounts_17 rfl (lv_at hl 0 rfl) ?_
  refine va_get (D := (dC, dI)) (ci := 2) (v := .ref aq) (C := R_PS) (T := F_PS) (N := 10) hx hb hts in_PS hown hK hP 0 rfl rfl 5 (by decide) (hts _ m_103) (fun _ h9 => h9) rfl d_PS_tryCounts_18 ?_
  refine lv_iload_n hx hb d_PS_tryCounts_21 rfl (lv_at hl 2 rfl) ?_
  refine ix_ialdN (i := w9) hx hb hK hP 3 0 rfl rfl (by omega) (by decide) d_PS_tryCounts_22 ?_
  refine lv_iadd hx hb d_PS_tryCounts_23 ?_
  refine lv_topr (show _ = nI (s9 + (pf w9)) from nn_add _ _) ?_
  refine lv_aload_n hx hb d_PS_tryCounts_24 rfl (lv_at hl 0 rfl) ?_
  refine va_get (D := (dC, dI)) (ci := 2) (v := .int (nI bs)) (C := R_PS) (T := F_PS) (N := 10) hx hb hts in_PS hown hK hP 0 rfl rfl 9 (by decide) (hts _ m_107) (fun _ h9 => h9) rfl d_PS_tryCounts_25 ?_
  refine ix_icmp_ge (tgt := 32) hx hb (nI_tI (n := s9 + (pf w9)) (by omega)) (nI_tI (n := bs) (by omega)) d_PS_tryCounts_28 (by decide) (fun c_28 => ?_) (fun c_28 => ?_)
  · refine lv_aload_n hx hb d_PS_tryCounts_32 rfl (lv_at hl 1 rfl) ?_
    refine va_get (D := (dC, dI)) (ci := 5) (v := .ref vs) (C := R_WI) (T := F_WI) (N := 3) hx hb hts in_WI hown hK hP 5 rfl rfl 1 (by decide) (hts _ m_72) (fun _ h9 => h9) rfl d_PS_tryCounts_33 ?_
    refine lv_iload_n hx hb d_PS_tryCounts_36 rfl (lv_at hl 2 rfl) ?_
    refine ix_ialdN (i := w9) hx hb hK hP 7 0 rfl rfl (by omega) (by decide) d_PS_tryCounts_37 ?_
    refine lv_istore (lv' := [(5, .int (nI (st w9))), (0, .ref a0), (1, .ref v0), (2, .int (nI w9)), (3, .int (nI s9)), (4, .int (nI n9))]) hx hb d_PS_tryCounts_38 hl (by decide) rfl (fun ls hl => ?_)
    have hnc : ¬ s9 + pf w9 < (bs, bn, bc, ct).1 := (show ¬ s9 + pf w9 < bs by omega)
    have lp : ∀ (n_lp : Nat) (z : Int) (bS : Nat) (bN : Nat) (bC : Nat → Nat) (cT : Nat → Nat), (z + 2 ≤ (n_lp : Int)) → (-1 ≤ z) → (z ≤ 6) → (dn (tcB pi st pf room most k w9 s9 n9) z (bS, bN, bC, cT) = dn (tcB pi st pf room most k w9 s9 n9) (st w9 : Int) (bs, bn, bc, ct)) → (bS ≤ 20100) → (bN ≤ 39) → ∀ (H : Heap) (locs : List Loc) (ls : Array Slot), va_P (dC, dI) vwCl [(a0, .inr (2, [.ref ab, .int (nI bN), .int (nI bf), .int (nI kn), .ref ap, .ref aq, .ref ac, .int (zI room), .int (nI most), .int (nI bS)])), (ab, .inl (cI, 5, .inl (aN bC))), (ap, .inl (cI, 5, .inl (aN pi))), (aq, .inl (cI, 6, .inl (aN pf))), (ac, .inl (cI, 5, .inl (aN cT))), (v0, .inr (5, [.ref vw, .ref vs, .int (nI cnt)])), (vw, .inl (cI, 5, .inl (aN wd))), (vs, .inl (cI, 5, .inl (aN st)))] H → va_D A [(a0, .inr (2, [.ref ab, .int (nI bN), .int (nI bf), .int (nI kn), .ref ap, .ref aq, .ref ac, .int (zI room), .int (nI most), .int (nI bS)])), (ab, .inl (cI, 5, .inl (aN bC))), (ap, .inl (cI, 5, .inl (aN pi))), (aq, .inl (cI, 6, .inl (aN pf))), (ac, .inl (cI, 5, .inl (aN cT))), (v0, .inr (5, [.ref vw, .ref vs, .int (nI cnt)])), (vw, .inl (cI, 5, .inl (aN wd))), (vs, .inl (cI, 5, .inl (aN st)))] → va_S A s.heap H locs → lv_has ls 7 [(0, .ref a0), (1, .ref v0), (2, .int (nI w9)), (3, .int (nI s9)), (4, .int (nI n9)), (5, .int (zI z))] → W p l e (headSpec w_PS_tryCounts { frames := (k + 1) + 2, cells := 0, slots := 0, locals := 102 + 26 * (k + 1) }).room s m [.ref a0, .ref v0, .int (nI w9), .int (nI s9), .int (nI n9)].toArray below meth c H locs 0 0 (MQ below (va_Qv (fun (u : Nat × Nat × (Nat → Nat) × (Nat → Nat)) => (u.1, u.2.1, u.2.2.1, u.2.2.2) = tcP pi st pf room most (k + 1) w9 s9 n9 (bs, bn, bc, ct)) (rw_B (dC, dI) vwCl [(cI, .int)] A (fun u : Nat × Nat × (Nat → Nat) × (Nat → Nat) => [(a0, .inr (2, [.ref ab, .int (nI u.2.1), .int (nI bf), .int (nI kn), .ref ap, .ref aq, .ref ac, .int (zI room), .int (nI most), .int (nI u.1)])), (ab, .inl (cI, 5, .inl (aN u.2.2.1))), (ap, .inl (cI, 5, .inl (aN pi))), (aq, .inl (cI, 6, .inl (aN pf))), (ac, .inl (cI, 5, .inl (aN u.2.2.2))), (v0, .inr (5, [.ref vw, .ref vs, .int (nI cnt)])), (vw, .inl (cI, 5, .inl (aN wd))), (vs, .inl (cI, 5, .inl (aN st)))])) A) [.ref a0, .ref v0, .int (nI w9), .int (nI s9), .int (nI n9)].toArray s 0 0 A) (F0 m 40 ls []) := by
      intro n_lp
      induction n_lp with
      | zero =>
        intro z bS bN bC cT hm hz1 hz2 hR hb1 hb2
        exact absurd hm (by omega)
      | succ n_lp ih_lp =>
        intro z bS bN bC cT hm hz1 hz2 hR hb1 hb2 H locs ls hP hD hS hl
        refine lv_iload hx hb d_PS_tryCounts_40 (lv_at hl 5 rfl) ?_
        refine ix_if_lt (tgt := 108) hx hb (zI_toInt (z := z) (by omega) (by omega)) d_PS_tryCounts_42 (by decide) (fun c_42 => ?_) (fun c_42 => ?_)
        · exact W.vret hx hb hr (fun t ht hW => ⟨⟨(bS, bN, bC, cT), rfl, by rw [tcP_S hnc, ← hR, dn_neg (by omega)], by rw [ht]; exact hP, va_K.moved hW.alike hK, hD⟩, hS.F ht⟩) hS.2.2 d_PS_tryCounts_108
        have hzp : z.toNat * pi w9 ≤ 6 * 20100 := Nat.mul_le_mul (by omega) hpw
        refine lv_iload_n hx hb d_PS_tryCounts_45 rfl (lv_at hl 3 rfl) ?_
        refine lv_iload hx hb d_PS_tryCounts_46 (lv_at hl 5 rfl) ?_
        refine lv_topr (show _ = nI z.toNat from z_toN (by omega)) ?_
        refine lv_aload_n hx hb d_PS_tryCounts_48 rfl (lv_at hl 0 rfl) ?_
        refine va_get (D := (dC, dI)) (ci := 2) (v := .ref ap) (C := R_PS) (T := F_PS) (N := 10) hx hb hts in_PS hown hK hP 0 rfl rfl 4 (by decide) (hts _ m_102) (fun _ h9 => h9) rfl d_PS_tryCounts_49 ?_
        refine lv_iload_n hx hb d_PS_tryCounts_52 rfl (lv_at hl 2 rfl) ?_
        refine ix_ialdN (i := w9) hx hb hK hP 2 0 rfl rfl (by omega) (by decide) d_PS_tryCounts_53 ?_
        refine lv_imul hx hb d_PS_tryCounts_54 ?_
        refine lv_topr (show _ = nI (z.toNat * (pi w9)) from nn_mul _ _) ?_
        refine lv_iadd hx hb d_PS_tryCounts_55 ?_
        refine lv_topr (show _ = nI (s9 + (z.toNat * (pi w9))) from nn_add _ _) ?_
        refine lv_istore (lv' := [(6, .int (nI (s9 + (z.toNat * (pi w9))))), (0, .ref a0), (1, .ref v0), (2, .int (nI w9)), (3, .int (nI s9)), (4, .int (nI n9)), (5, .int (zI z))]) hx hb d_PS_tryCounts_56 hl (by decide) rfl (fun ls hl => ?_)
        refine lv_iload hx hb d_PS_tryCounts_58 (lv_at hl 0 rfl) ?_
        refine lv_aload_n hx hb d_PS_tryCounts_60 rfl (lv_at hl 1 rfl) ?_
        refine va_get (D := (dC, dI)) (ci := 2) (v := .int (zI room)) (C := R_PS) (T := F_PS) (N := 10) hx hb hts in_PS hown hK hP 0 rfl rfl 7 (by decide) (hts _ m_105) (fun _ h9 => h9) rfl d_PS_tryCounts_61 ?_
        refine ix_icmp_gt (tgt := 102) hx hb (nI_tI (n := s9 + (z.toNat * (pi w9))) (by omega)) (zI_toInt (z := room) (by omega) (by omega)) d_PS_tryCounts_64 (by decide) (fun c_64 => ?_) (fun c_64 => ?_)
        · refine lv_iinc (v := zI (z - 1)) (lv' := [(5, .int (zI (z - 1))), (6, .int (nI (s9 + (z.toNat * (pi w9))))), (0, .ref a0), (1, .ref v0), (2, .int (nI w9)), (3, .int (nI s9)), (4, .int (nI n9))]) hx hb d_PS_tryCounts_102 hl (k := 6) rfl ((n_incZ z (-1))) (by decide) rfl (fun ls hl => ?_)
          refine lv_goto (tgt := 40) hx hb d_PS_tryCounts_105 (by decide) ?_
          exact ih_lp (z - 1) bS bN bC cT (by omega) (by omega) (by omega) (by rw [← hR, dn_step (show 0 ≤ z by omega)]; congr 1; unfold tcB; rw [if_neg (by omega)]) hb1 hb2 _ _ _ hP hD hS (lv_sub hl [2, 3, 4, 5, 6, 0] rfl)
        refine lv_iload hx hb d_PS_tryCounts_67 (lv_at hl 5 rfl) ?_
        refine lv_iload hx hb d_PS_tryCounts_69 (lv_at hl 6 rfl) ?_
        refine lv_topr (show _ = nI z.toNat from z_toN (by omega)) ?_
        refine lv_iadd hx hb d_PS_tryCounts_71 ?_
        refine lv_topr (show _ = nI (n9 + z.toNat) from nn_add _ _) ?_
        refine lv_aload_n hx hb d_PS_tryCounts_72 rfl (lv_at hl 1 rfl) ?_
        refine va_get (D := (dC, dI)) (ci := 2) (v := .int (nI most)) (C := R_PS) (T := F_PS) (N := 10) hx hb hts in_PS hown hK hP 0 rfl rfl 8 (by decide) (hts _ m_106) (fun _ h9 => h9) rfl d_PS_tryCounts_73 ?_
        refine ix_icmp_gt (tgt := 102) hx hb (nI_tI (n := n9 + z.toNat) (by omega)) (nI_tI (n := most) (by omega)) d_PS_tryCounts_76 (by decide) (fun c_76 => ?_) (fun c_76 => ?_)
        · refine lv_iinc (v := zI (z - 1)) (lv' := [(5, .int (zI (z - 1))), (6, .int (nI (s9 + (z.toNat * (pi w9))))), (0, .ref a0), (1, .ref v0), (2, .int (nI w9)), (3, .int (nI s9)), (4, .int (nI n9))]) hx hb d_PS_tryCounts_102 hl (k := 6) rfl ((n_incZ z (-1))) (by decide) rfl (fun ls hl => ?_)
          refine lv_goto (tgt := 40) hx hb d_PS_tryCounts_105 (by decide) ?_
          exact ih_lp (z - 1) bS bN bC cT (by omega) (by omega) (by omega) (by rw [← hR, dn_step (show 0 ≤ z by omega)]; congr 1; unfold tcB; rw [if_neg (by omega)]) hb1 hb2 _ _ _ hP hD hS (lv_sub hl [2, 3, 4, 5, 6, 0] rfl)
        refine lv_aload_n hx hb d_PS_tryCounts_79 rfl (lv_at hl 1 rfl) ?_
        refine va_get (D := (dC, dI)) (ci := 2) (v := .ref ac) (C := R_PS) (T := F_PS) (N := 10) hx hb hts in_PS hown hK hP 0 rfl rfl 6 (by decide) (hts _ m_104) (fun _ h9 => h9) rfl d_PS_tryCounts_80 ?_
        refine lv_iload_n hx hb d_PS_tryCounts_83 rfl (lv_at hl 3 rfl) ?_
        refine lv_iload hx hb d_PS_tryCounts_84 (lv_at hl 6 rfl) ?_
        refine lv_topr (show _ = nI z.toNat from z_toN (by omega)) ?_
        refine ix_iast (i := w9) hx hb hK hP hD hS 4 0 rfl rfl (by omega) (by decide) d_PS_tryCounts_86 (fun H locs hP hD hS => ?_)
        have hP : va_P (dC, dI) vwCl [(a0, .inr (2, [.ref ab, .int (nI bN), .int (nI bf), .int (nI kn), .ref ap, .ref aq, .ref ac, .int (zI room), .int (nI most), .int (nI bS)])), (ab, .inl (cI, 5, .inl (aN bC))), (ap, .inl (cI, 5, .inl (aN pi))), (aq, .inl (cI, 6, .inl (aN pf))), (ac, .inl (cI, 5, .inl (aN (up cT w9 z.toNat)))), (v0, .inr (5, [.ref vw, .ref vs, .int (nI cnt)])), (vw, .inl (cI, 5, .inl (aN wd))), (vs, .inl (cI, 5, .inl (aN st)))] H := hP
        have hD : va_D A [(a0, .inr (2, [.ref ab, .int (nI bN), .int (nI bf), .int (nI kn), .ref ap, .ref aq, .ref ac, .int (zI room), .int (nI most), .int (nI bS)])), (ab, .inl (cI, 5, .inl (aN bC))), (ap, .inl (cI, 5, .inl (aN pi))), (aq, .inl (cI, 6, .inl (aN pf))), (ac, .inl (cI, 5, .inl (aN (up cT w9 z.toNat)))), (v0, .inr (5, [.ref vw, .ref vs, .int (nI cnt)])), (vw, .inl (cI, 5, .inl (aN wd))), (vs, .inl (cI, 5, .inl (aN st)))] := hD
        refine lv_aload_n hx hb d_PS_tryCounts_87 rfl (lv_at hl 1 rfl) ?_
        refine lv_aload_n hx hb d_PS_tryCounts_88 rfl (lv_at hl 2 rfl) ?_
        refine lv_iload_n hx hb d_PS_tryCounts_89 rfl (lv_at hl 3 rfl) ?_
        refine lv_iconst (v := nI 1) hx hb d_PS_tryCounts_90 (by decide +kernel) ?_
        refine lv_iadd hx hb d_PS_tryCounts_91 ?_
        refine lv_topr (show _ = nI (w9 + 1) from nn_add _ _) ?_
        refine lv_iload hx hb d_PS_tryCounts_92 (lv_at hl 0 rfl) ?_
        refine lv_iload hx hb d_PS_tryCounts_94 (lv_at hl 5 rfl) ?_
        refine lv_iload hx hb d_PS_tryCounts_96 (lv_at hl 6 rfl) ?_
        refine lv_topr (show _ = nI z.toNat from z_toN (by omega)) ?_
        refine lv_iadd hx hb d_PS_tryCounts_98 ?_
        refine lv_topr (show _ = nI (n9 + z.toNat) from nn_add _ _) ?_
        have hPc := hP.sub (ws' := [(a0, .inr (2, [.ref ab, .int (nI bN), .int (nI bf), .int (nI kn), .ref ap, .ref aq, .ref ac, .int (zI room), .int (nI most), .int (nI bS)])), (ab, .inl (cI, 5, .inl (aN bC))), (ap, .inl (cI, 5, .inl (aN pi))), (aq, .inl (cI, 6, .inl (aN pf))), (ac, .inl (cI, 5, .inl (aN (up cT w9 z.toNat)))), (v0, .inr (5, [.ref vw, .ref vs, .int (nI cnt)])), (vw, .inl (cI, 5, .inl (aN wd))), (vs, .inl (cI, 5, .inl (aN st)))]) [0, 1, 2, 3, 4, 5, 6, 7] rfl
        have hDc := hD.sub (ws' := [(a0, .inr (2, [.ref ab, .int (nI bN), .int (nI bf), .int (nI kn), .ref ap, .ref aq, .ref ac, .int (zI room), .int (nI most), .int (nI bS)])), (ab, .inl (cI, 5, .inl (aN bC))), (ap, .inl (cI, 5, .inl (aN pi))), (aq, .inl (cI, 6, .inl (aN pf))), (ac, .inl (cI, 5, .inl (aN (up cT w9 z.toNat)))), (v0, .inr (5, [.ref vw, .ref vs, .int (nI cnt)])), (vw, .inl (cI, 5, .inl (aN wd))), (vs, .inl (cI, 5, .inl (aN st)))]) [0, 1, 2, 3, 4, 5, 6, 7] (by decide) rfl
        have hFc := va_free (wc := [(a0, .inr (2, [.ref ab, .int (nI bN), .int (nI bf), .int (nI kn), .ref ap, .ref aq, .ref ac, .int (zI room), .int (nI most), .int (nI bS)])), (ab, .inl (cI, 5, .inl (aN bC))), (ap, .inl (cI, 5, .inl (aN pi))), (aq, .inl (cI, 6, .inl (aN pf))), (ac, .inl (cI, 5, .inl (aN (up cT w9 z.toNat)))), (v0, .inr (5, [.ref vw, .ref vs, .int (nI cnt)])), (vw, .inl (cI, 5, .inl (aN wd))), (vs, .inl (cI, 5, .inl (aN st)))]) hD hS hA [0, 1, 2, 3, 4, 5, 6, 7] rfl
        refine va_callv (va_runV (As := [.ref v0, .int (nI (w9 + 1)), .int (nI (s9 + (z.toNat * (pi w9)))), .int (nI (n9 + z.toNat))]) (rest := []) ⟨hx, hb, hml, hown, hts⟩ (ih H.size (w9 + 1) (s9 + z.toNat * pi w9) (n9 + z.toNat) bS bN bC (up cT w9 z.toNat) (by omega) (by omega) (by omega) hb1 hb2) (cwV 4 hts (gw_V m_259 m_261 s_1 m_4 m_262) rfl rfl rfl (by decide +kernel) ⟨(by show k + 2 + 1 ≤ k + 1 + 2; omega), (by show 8 + (7 + 11) + (102 + 26 * k) ≤ 102 + 26 * (k + 1); omega)⟩) ⟨rw_blind, va_recv hK hPc (ci := 2) (q0 := 0) rfl rfl, fun U hU hW => ⟨rfl, by rw [hU], by rw [hU]; exact hPc, va_K.moved hW.alike hK, hDc.weaken (fun _ _ _ _ => trivial)⟩⟩ rfl rfl hl.1 rfl (lv_room (Nat.le_of_ble_eq_true rfl)) d_PS_tryCounts_99 ⟨Nat.le_of_ble_eq_true rfl, Nat.le_of_ble_eq_true rfl⟩) hS (fun q _ h => hFc q h) hFc (fun u t H1 locs ht hvm hw hB hz1 hk1 hS => ?_)
        obtain ⟨bs9, bn9, bc9, ct9⟩ := u
        obtain ⟨hP1, hK1, hD1⟩ := hB
        rw [ht] at hP1
        try dsimp only at hw
        obtain ⟨hP, hD⟩ := va_join (wr := []) (w1 := [(a0, .inr (2, [.ref ab, .int (nI bn9), .int (nI bf), .int (nI kn), .ref ap, .ref aq, .ref ac, .int (zI room), .int (nI most), .int (nI bs9)])), (ab, .inl (cI, 5, .inl (aN bc9))), (ap, .inl (cI, 5, .inl (aN pi))), (aq, .inl (cI, 6, .inl (aN pf))), (ac, .inl (cI, 5, .inl (aN ct9))), (v0, .inr (5, [.ref vw, .ref vs, .int (nI cnt)])), (vw, .inl (cI, 5, .inl (aN wd))), (vs, .inl (cI, 5, .inl (aN st)))]) hP hD [0, 1, 2, 3, 4, 5, 6, 7] [] rfl rfl (by decide) (by decide) hk1 hFc hP1 hD1
        generalize H1 = H at hP hS ⊢
        have hP : va_P (dC, dI) vwCl [(a0, .inr (2, [.ref ab, .int (nI bn9), .int (nI bf), .int (nI kn), .ref ap, .ref aq, .ref ac, .int (zI room), .int (nI most), .int (nI bs9)])), (ab, .inl (cI, 5, .inl (aN bc9))), (ap, .inl (cI, 5, .inl (aN pi))), (aq, .inl (cI, 6, .inl (aN pf))), (ac, .inl (cI, 5, .inl (aN ct9))), (v0, .inr (5, [.ref vw, .ref vs, .int (nI cnt)])), (vw, .inl (cI, 5, .inl (aN wd))), (vs, .inl (cI, 5, .inl (aN st)))] H := hP.sub [0, 1, 2, 3, 4, 5, 6, 7] rfl
        have hD : va_D A [(a0, .inr (2, [.ref ab, .int (nI bn9), .int (nI bf), .int (nI kn), .ref ap, .ref aq, .ref ac, .int (zI room), .int (nI most), .int (nI bs9)])), (ab, .inl (cI, 5, .inl (aN bc9))), (ap, .inl (cI, 5, .inl (aN pi))), (aq, .inl (cI, 6, .inl (aN pf))), (ac, .inl (cI, 5, .inl (aN ct9))), (v0, .inr (5, [.ref vw, .ref vs, .int (nI cnt)])), (vw, .inl (cI, 5, .inl (aN wd))), (vs, .inl (cI, 5, .inl (aN st)))] := hD.sub [0, 1, 2, 3, 4, 5, 6, 7] (by decide) rfl
        have hle := tcP_le (pi := pi) (st := st) (pf := pf) (room := room) (most := most) (B := 20100) (M := 39) (by omega) (by omega) k (w9 + 1) (s9 + z.toNat * pi w9) (n9 + z.toNat) (bS, bN, bC, up cT w9 z.toNat) (by omega) (by omega) hb1 hb2
        rw [← hw] at hle
        refine lv_iinc (v := zI (z - 1)) (lv' := [(5, .int (zI (z - 1))), (6, .int (nI (s9 + (z.toNat * (pi w9))))), (0, .ref a0), (1, .ref v0), (2, .int (nI w9)), (3, .int (nI s9)), (4, .int (nI n9))]) hx hb d_PS_tryCounts_102 hl (k := 6) rfl ((n_incZ z (-1))) (by decide) rfl (fun ls hl => ?_)
        refine lv_goto (tgt := 40) hx hb d_PS_tryCounts_105 (by decide) ?_
        exact ih_lp (z - 1) bs9 bn9 bc9 ct9 (by omega) (by omega) (by omega) (by rw [← hR, dn_step (show 0 ≤ z by omega)]; congr 1; unfold tcB; rw [if_pos (by omega)]; exact hw) hle.1 hle.2 _ _ _ hP hD hS (lv_sub hl [2, 3, 4, 5, 6, 0] rfl)
    exact lp (st w9 + 2) (st w9 : Int) bs bn bc ct (by omega) (by omega) (by omega) rfl hbs hbn _ _ _ hP hD hS (lv_sub hl [1, 2, 3, 4, 5, 0] rfl)
  exact W.vret hx hb hr (fun t ht hW => ⟨⟨(bs, bn, bc, ct), rfl, (tcP_cut (show s9 + pf w9 < bs by omega)).symm, by rw [ht]; exact hP, va_K.moved hW.alike hK, hD⟩, hS.F ht⟩) hS.2.2 d_PS_tryCounts_31
theorem c_PS_tryCounts (l : Launch) (dC : Nat → ClassId) (dI : Nat → Nat → Nat) (a0 ab ap aq ac : Nat) (cI : ClassId) (v0 vw vs : Nat) (pi pf wd st : Nat → Nat) (bf kn most cnt : Nat) (room : Int) (hc5 : cnt ≤ 5) (hst : ∀ i, i < cnt → st i ≤ 6) (hpi : ∀ i, i < cnt → pi i ≤ 20100) (hpf : ∀ i, i < cnt → pf i ≤ 700000) (hr1 : -2000 ≤ room) (hr2 : room ≤ 20100) (hmo : most ≤ 39) : ∀ (k sz w9 s9 n9 bs bn : Nat) (bc ct : Nat → Nat), w9 + k = cnt → s9 ≤ 20100 → n9 ≤ 39 → bs ≤ 20100 → bn ≤ 39 → Met l y_PS_tryCounts w_PS_tryCounts { frames := k + 2, cells := 0, slots := 0, locals := 102 + 26 * k } (rw_Pc (dC, dI) vwCl [(cI, .int)] sz [.ref a0, .ref v0, .int (nI w9), .int (nI s9), .int (nI n9)] [(a0, .inr (2, [.ref ab, .int (nI bn), .int (nI bf), .int (nI kn), .ref ap, .ref aq, .ref ac, .int (zI room), .int (nI most), .int (nI bs)])), (ab, .inl (cI, 5, .inl (aN bc))), (ap, .inl (cI, 5, .inl (aN pi))), (aq, .inl (cI, 6, .inl (aN pf))), (ac, .inl (cI, 5, .inl (aN ct))), (v0, .inr (5, [.ref vw, .ref vs, .int (nI cnt)])), (vw, .inl (cI, 5, .inl (aN wd))), (vs, .inl (cI, 5, .inl (aN st)))]) (va_Qv (fun (u : Nat × Nat × (Nat → Nat) × (Nat → Nat)) => (u.1, u.2.1, u.2.2.1, u.2.2.2) = tcP pi st pf room most k w9 s9 n9 (bs, bn, bc, ct)) (rw_B (dC, dI) vwCl [(cI, .int)] (va_A [(a0, .inr (2, [.ref ab, .int (nI bn), .int (nI bf), .int (nI kn), .ref ap, .ref aq, .ref ac, .int (zI room), .int (nI most), .int (nI bs)])), (ab, .inl (cI, 5, .inl (aN bc))), (ap, .inl (cI, 5, .inl (aN pi))), (aq, .inl (cI, 6, .inl (aN pf))), (ac, .inl (cI, 5, .inl (aN ct))), (v0, .inr (5, [.ref vw, .ref vs, .int (nI cnt)])), (vw, .inl (cI, 5, .inl (aN wd))), (vs, .inl (cI, 5, .inl (aN st)))] sz) (fun u : Nat × Nat × (Nat → Nat) × (Nat → Nat) => [(a0, .inr (2, [.ref ab, .int (nI u.2.1), .int (nI bf), .int (nI kn), .ref ap, .ref aq, .ref ac, .int (zI room), .int (nI most), .int (nI u.1)])), (ab, .inl (cI, 5, .inl (aN u.2.2.1))), (ap, .inl (cI, 5, .inl (aN pi))), (aq, .inl (cI, 6, .inl (aN pf))), (ac, .inl (cI, 5, .inl (aN u.2.2.2))), (v0, .inr (5, [.ref vw, .ref vs, .int (nI cnt)])), (vw, .inl (cI, 5, .inl (aN wd))), (vs, .inl (cI, 5, .inl (aN st)))])) (va_A [(a0, .inr (2, [.ref ab, .int (nI bn), .int (nI bf), .int (nI kn), .ref ap, .ref aq, .ref ac, .int (zI room), .int (nI most), .int (nI bs)])), (ab, .inl (cI, 5, .inl (aN bc))), (ap, .inl (cI, 5, .inl (aN pi))), (aq, .inl (cI, 6, .inl (aN pf))), (ac, .inl (cI, 5, .inl (aN ct))), (v0, .inr (5, [.ref vw, .ref vs, .int (nI cnt)])), (vw, .inl (cI, 5, .inl (aN wd))), (vs, .inl (cI, 5, .inl (aN st)))] sz)) 0 0 (va_A [(a0, .inr (2, [.ref ab, .int (nI bn), .int (nI bf), .int (nI kn), .ref ap, .ref aq, .ref ac, .int (zI room), .int (nI most), .int (nI bs)])), (ab, .inl (cI, 5, .inl (aN bc))), (ap, .inl (cI, 5, .inl (aN pi))), (aq, .inl (cI, 6, .inl (aN pf))), (ac, .inl (cI, 5, .inl (aN ct))), (v0, .inr (5, [.ref vw, .ref vs, .int (nI cnt)])), (vw, .inl (cI, 5, .inl (aN wd))), (vs, .inl (cI, 5, .inl (aN st)))] sz) := by
  intro k
  induction k with
  | zero => exact fun sz w9 s9 n9 bs bn bc ct h1 h2 h3 h4 h5 => c_PS_try0 l dC dI sz a0 ab ap aq ac cI v0 vw vs pi pf wd st bf kn most cnt room hc5 hst hpi hpf hr1 hr2 hmo w9 s9 n9 bs bn bc ct h1 h2 h3 h4 h5
  | succ k ih => exact fun sz w9 s9 n9 bs bn bc ct h1 h2 h3 h4 h5 => c_PS_tryS l dC dI sz a0 ab ap aq ac cI v0 vw vs pi pf wd st bf kn most cnt room hc5 hst hpi hpf hr1 hr2 hmo k ih w9 s9 n9 bs bn bc ct h1 h2 h3 h4 h5
end
section
/-! the whole search -/
def MSI (wd st : Nat → Nat) (cf cnt : Nat) (pi pf : Nat → Nat) (z : Int) : Prop := pf cnt = 0 ∧ ∀ j : Nat, z < j → j < cnt → pi j = wd j + cf ∧ pf j = pf (j + 1) + st j * pi j
theorem MSI.step {wd st : Nat → Nat} {cf cnt : Nat} {pi pf : Nat → Nat} {z : Int} (h : MSI wd st cf cnt pi pf z) (h0 : 0 ≤ z) (h1 : z < cnt) : MSI wd st cf cnt (up pi z.toNat (wd z.toNat + cf)) (up pf z.toNat (pf (z.toNat + 1) + st z.toNat * up pi z.toNat (wd z.toNat + cf) z.toNat)) (z - 1) := by
  refine ⟨by rw [up_n _ _ (by omega)]; exact h.1, fun j hj hc => ?_⟩
  by_cases e : j = z.toNat
  · subst e
    rw [up_s, up_s, up_n _ _ (by omega)]
    exact ⟨rfl, rfl⟩
  · rw [up_n _ _ e, up_n _ _ e]
    have := h.2 j (by omega) hc
    by_cases e2 : j + 1 = z.toNat
    · omega
    · rw [up_n _ _ e2]
      exact this
theorem MSI.le {wd st : Nat → Nat} {cf cnt : Nat} {pi pf : Nat → Nat} (h : MSI wd st cf cnt pi pf (-1)) (hc5 : cnt ≤ 5) (hst : ∀ i, i < cnt → st i ≤ 6) (hwd : ∀ i, i < cnt → wd i ≤ 20000) (hcf : cf ≤ 100) : ∀ d w, w + d = cnt → pf w ≤ d * 120600 := by
  intro d
  induction d with
  | zero => intro w hw; rw [show w = cnt by omega, h.1]; exact Nat.zero_le _
  | succ d ih =>
    intro w hw
    have h1 := ih (w + 1) (by omega)
    have h2 := h.2 w (by omega) (by omega)
    have h3 := hst w (by omega)
    have h4 := hwd w (by omega)
    have h5 : st w * pi w ≤ 6 * 20100 := Nat.mul_le_mul h3 (by omega)
    omega
theorem MSI.sum {wd st : Nat → Nat} {cf cnt : Nat} {pi pf : Nat → Nat} (h : MSI wd st cf cnt pi pf (-1)) {c : Nat → Nat} (hc : ∀ i, i < cnt → c i ≤ st i) : ∀ d w, w + d = cnt → psum pi c cnt ≤ psum pi c w + pf w := by
  intro d
  induction d with
  | zero => intro w hw; rw [show w = cnt by omega]; exact Nat.le_add_right _ _
  | succ d ih =>
    intro w hw
    have h1 := ih (w + 1) (by omega)
    have h2 := (h.2 w (by omega) (by omega)).2
    have h3 : c w * pi w ≤ st w * pi w := Nat.mul_le_mul_right _ (hc w (by omega))
    have h4 : psum pi c (w + 1) = psum pi c w + c w * pi w := rfl
    omega
theorem downP_id {f : Nat → PS → PS} {q : PS} (h : ∀ n, f n q = q) : ∀ n, downP f n q = q
  | 0 => h 0
  | n + 1 => by rw [downP, h]; exact downP_id h n
theorem tcP_neg {pi st pf : Nat → Nat} {room : Int} {most : Nat} (hr : room < 0) : ∀ (k w : Nat) (q : PS), q.1 = 0 → q.2.1 = 0 → tcP pi st pf room most k w 0 0 q = q
  | 0, w, q, h, h2 => by rw [tcP]; unfold keepP; rw [if_neg (by omega)]
  | k + 1, w, q, h, h2 => by
    rw [tcP]
    split
    · rfl
    · refine downP_id (fun n => ?_) _
      exact if_neg (fun h => absurd h.1 (Int.not_le.mpr (Int.lt_of_lt_of_le hr (Int.natCast_nonneg (0 + n * pi w)))))
def pit (wd : Nat → Nat) (cf : Nat) : Nat → Nat := fun i => wd i + cf
/-- what the search keeps: the best pattern (none where it has no strip) -/
def GoodP (cw cr cf cn cnt : Nat) (wd st : Nat → Nat) (bn bf : Nat) (bc : Nat → Nat) : Prop := ((cw : Int) - 2 * cr + cf < 0 → bn = 0 ∧ bf = 0 ∧ ∀ i, i < cnt → bc i = 0) ∧
  (0 ≤ (cw : Int) - 2 * cr + cf → IsBest (pit wd cf) st ((cw : Int) - 2 * cr + cf) (cn - 1) cnt bc ∧ bn = sumN bc cnt ∧ bf = if bn = 0 then 0 else psum (pit wd cf) bc cnt - cf)
theorem psum_pi {pi pj c : Nat → Nat} {n : Nat} (h : ∀ i, i < n → pi i = pj i) : psum pi c n = psum pj c n := sumN_congr (fun j hj => by rw [h j hj])
theorem IsBest.pi {pi pj st : Nat → Nat} {room : Int} {most cnt : Nat} {b : Nat → Nat} (e : ∀ i, i < cnt → pi i = pj i) (h : IsBest pi st room most cnt b) : IsBest pj st room most cnt b := by
  obtain ⟨⟨h1, h2, h3⟩, h4⟩ := h
  refine ⟨⟨h1, by rw [← psum_pi e]; exact h2, h3⟩, fun c hc => ?_⟩
  rcases h4 c ⟨hc.1, by rw [psum_pi e]; exact hc.2.1, hc.2.2⟩ with g | g
  · exact Or.inl g
  · refine Or.inr ?_
    unfold better at g ⊢
    rw [← psum_pi e, ← psum_pi e]
    exact g
theorem psum_ge {pi c : Nat → Nat} {cf : Nat} : ∀ {n : Nat}, (∀ i, i < n → cf ≤ pi i) → ¬ sumN c n = 0 → cf ≤ psum pi c n
  | 0, _, h => absurd rfl h
  | n + 1, hp, h => by
    have e : psum pi c (n + 1) = psum pi c n + c n * pi n := rfl
    rw [e]
    by_cases g : sumN c n = 0
    · have h1 : 1 ≤ c n := by rw [sumN, g] at h; omega
      have h2 : 1 * pi n ≤ c n * pi n := Nat.mul_le_mul_right _ h1
      have := hp n (by omega)
      omega
    · have := psum_ge (n := n) (fun i hi => hp i (by omega)) g
      omega
/-- out of the search's end -/
theorem search_ok {cw cr cf cn cnt : Nat} {wd st pi pf bc0 ct0 : Nat → Nat} {bs bn : Nat} {bc ct : Nat → Nat} {room : Int} (hc5 : cnt ≤ 5) (hroom : room = (cw : Int) - 2 * cr + cf) (hM : MSI wd st cf cnt pi pf (-1)) (h0 : ∀ j, j < 5 → bc0 j = 0)
    (hw : (bs, bn, bc, ct) = tcP pi st pf room (cn - 1) cnt 0 0 0 (0, 0, bc0, ct0)) : (¬ bn = 0 → cf ≤ bs) ∧ GoodP cw cr cf cn cnt wd st bn (if bn = 0 then 0 else bs - cf) bc := by
  have hpi : ∀ i, i < cnt → pi i = pit wd cf i := fun i hi => (hM.2 i (by omega) hi).1
  have z1 : ∀ i, i < cnt → bc0 i = 0 := fun i hi => h0 i (by omega)
  have z2 : psum pi bc0 cnt = 0 := sumN_zeros (fun i hi => by rw [z1 i hi, Nat.zero_mul])
  by_cases hr : room < 0
  · rw [tcP_neg hr _ _ _ rfl rfl] at hw
    cases hw
    refine ⟨fun h => absurd rfl h, fun _ => ⟨rfl, rfl, z1⟩, fun h => ?_⟩
    omega
  · obtain ⟨hB, -⟩ := tcP_BO (pi := pi) (st := st) (pf := pf) (room := room) (most := cn - 1) (cnt := cnt) hc5 (fun w hwc c hc => hM.sum hc (cnt - w) w (by omega)) cnt 0 (0, 0, bc0, ct0) (fun _ => False) 0 0 (by omega) (fun i hi => absurd hi (Nat.not_lt_zero i)) rfl rfl (by omega) (Nat.zero_le _)
      ⟨⟨z2.symm, (sumN_zeros z1).symm, Or.inr z1⟩, fun c _ h => h.elim⟩ (fun c h => h.elim)
    rw [← hw] at hB
    obtain ⟨⟨e1, e2, e3⟩, e4⟩ := hB
    dsimp only at e1 e2 e3 e4
    have hIs : IsBest pi st room (cn - 1) cnt bc := by
      refine ⟨?_, fun c hc => e4 c hc (Or.inr (fun i hi => absurd hi (Nat.not_lt_zero i)))⟩
      rcases e3 with ⟨h, _⟩ | h
      · exact h
      · have y1 : psum pi bc cnt = 0 := sumN_zeros (fun i hi => by rw [h i hi, Nat.zero_mul])
        exact ⟨fun i hi => by rw [h i hi]; exact Nat.zero_le _, by rw [y1]; omega, by rw [sumN_zeros h]; exact Nat.zero_le _⟩
    refine ⟨fun h => ?_, fun h => absurd h (by omega), fun _ => ⟨?_, e2, ?_⟩⟩
    · rw [e1]
      exact psum_ge (fun i hi => by rw [hpi i hi]; unfold pit; omega) (by rw [← e2]; exact h)
    · rw [← hroom]
      exact hIs.pi hpi
    · rw [e1, psum_pi hpi]
end
section
set_option maxHeartbeats 4000000 in
set_option maxRecDepth 100000 in
/-- measure(coil, wishes) -/
theorem c_PS_measure (l : Launch) (dC : Nat → ClassId) (dI : Nat → Nat → Nat) (sz : Nat) (a0 ab ap aq ac k0 : Nat) (cI : ClassId) (v0 vw vs : Nat) (pi pf wd st : Nat → Nat) (bn bf kn most bs cw ck cr cf cn cnt : Nat) (room : Int) (hc5 : cnt ≤ 5) : Met l y_PS_measure w_PS_measure { frames := 0, cells := 0, slots := 0, locals := 0 } (rw_Pc (dC, dI) vwCl [(cI, .int)] sz [.ref a0, .ref k0, .ref v0] [(a0, .inr (2, [.ref ab, .int (nI bn), .int (nI bf), .int (nI kn), .ref ap, .ref aq, .ref ac, .int (zI room), .int (nI most), .int (nI bs)])), (ap, .inl (cI, 5, .inl (aN pi))), (aq, .inl (cI, 6, .inl (aN pf))), (k0, .inr (0, [.int (nI cw), .int (nI ck), .int (nI cr), .int (nI cf), .int (nI cn)])), (v0, .inr (5, [.ref vw, .ref vs, .int (nI cnt)])), (vw, .inl (cI, 5, .inl (aN wd))), (vs, .inl (cI, 5, .inl (aN st)))]) (va_Qv (fun (u : (Nat → Nat) × (Nat → Nat)) => MSI wd st cf cnt u.1 u.2 (-1)) (rw_B (dC, dI) vwCl [(cI, .int)] (va_A [(a0, .inr (2, [.ref ab, .int (nI bn), .int (nI bf), .int (nI kn), .ref ap, .ref aq, .ref ac, .int (zI room), .int (nI most), .int (nI bs)])), (ap, .inl (cI, 5, .inl (aN pi))), (aq, .inl (cI, 6, .inl (aN pf))), (k0, .inr (0, [.int (nI cw), .int (nI ck), .int (nI cr), .int (nI cf), .int (nI cn)])), (v0, .inr (5, [.ref vw, .ref vs, .int (nI cnt)])), (vw, .inl (cI, 5, .inl (aN wd))), (vs, .inl (cI, 5, .inl (aN st)))] sz) (fun u : (Nat → Nat) × (Nat → Nat) => [(a0, .inr (2, [.ref ab, .int (nI bn), .int (nI bf), .int (nI kn), .ref ap, .ref aq, .ref ac, .int (zI room), .int (nI most), .int (nI bs)])), (ap, .inl (cI, 5, .inl (aN u.1))), (aq, .inl (cI, 6, .inl (aN u.2))), (k0, .inr (0, [.int (nI cw), .int (nI ck), .int (nI cr), .int (nI cf), .int (nI cn)])), (v0, .inr (5, [.ref vw, .ref vs, .int (nI cnt)])), (vw, .inl (cI, 5, .inl (aN wd))), (vs, .inl (cI, 5, .inl (aN st)))])) (va_A [(a0, .inr (2, [.ref ab, .int (nI bn), .int (nI bf), .int (nI kn), .ref ap, .ref aq, .ref ac, .int (zI room), .int (nI most), .int (nI bs)])), (ap, .inl (cI, 5, .inl (aN pi))), (aq, .inl (cI, 6, .inl (aN pf))), (k0, .inr (0, [.int (nI cw), .int (nI ck), .int (nI cr), .int (nI cf), .int (nI cn)])), (v0, .inr (5, [.ref vw, .ref vs, .int (nI cnt)])), (vw, .inl (cI, 5, .inl (aN wd))), (vs, .inl (cI, 5, .inl (aN st)))] sz)) 0 0 (va_A [(a0, .inr (2, [.ref ab, .int (nI bn), .int (nI bf), .int (nI kn), .ref ap, .ref aq, .ref ac, .int (zI room), .int (nI most), .int (nI bs)])), (ap, .inl (cI, 5, .inl (aN pi))), (aq, .inl (cI, 6, .inl (aN pf))), (k0, .inr (0, [.int (nI cw), .int (nI ck), .int (nI cr), .int (nI cf), .int (nI cn)])), (v0, .inr (5, [.ref vw, .ref vs, .int (nI cnt)])), (vw, .inl (cI, 5, .inl (aN wd))), (vs, .inl (cI, 5, .inl (aN st)))] sz) := by
  refine Met.ofW (cc := b_PS_measure) (maxL := 4) (ret := none) (by decide) rfl ?_
  intro p e s m args below meth c s₁ B hml hv
  obtain ⟨rfl, hsz, hP, hK, hD0⟩ := hv
  have hx := B.exec
  have hb := B.bytes
  have hr := B.returns
  have hts := gw_h (atoms_spec (ws := w_PS_measure) B.pre)
  have hown : s.vm.findClass R_PS = some m.cls := findClass_of_methodNamed B.named
  have hlocks := B.notSynchronized
  subst hsz
  have hD := hD0.self (sz := s.heap.size)
  generalize hAe : va_A [(a0, .inr (2, [.ref ab, .int (nI bn), .int (nI bf), .int (nI kn), .ref ap, .ref aq, .ref ac, .int (zI room), .int (nI most), .int (nI bs)])), (ap, .inl (cI, 5, .inl (aN pi))), (aq, .inl (cI, 6, .inl (aN pf))), (k0, .inr (0, [.int (nI cw), .int (nI ck), .int (nI cr), .int (nI cf), .int (nI cn)])), (v0, .inr (5, [.ref vw, .ref vs, .int (nI cnt)])), (vw, .inl (cI, 5, .inl (aN wd))), (vs, .inl (cI, 5, .inl (aN st)))] s.heap.size = A at hD ⊢
  have hA : ∀ q : Nat, s.heap.size ≤ q → A q := fun q h => by rw [← hAe]; exact Or.inr h
  have hS : va_S A s.heap s.heap [] := va_S.rf
  have hP : va_P (dC, dI) vwCl [(a0, .inr (2, [.ref ab, .int (nI bn), .int (nI bf), .int (nI kn), .ref ap, .ref aq, .ref ac, .int (zI room), .int (nI most), .int (nI bs)])), (ap, .inl (cI, 5, .inl (aN pi))), (aq, .inl (cI, 6, .inl (aN pf))), (k0, .inr (0, [.int (nI cw), .int (nI ck), .int (nI cr), .int (nI cf), .int (nI cn)])), (v0, .inr (5, [.ref vw, .ref vs, .int (nI cnt)])), (vw, .inl (cI, 5, .inl (aN wd))), (vs, .inl (cI, 5, .inl (aN st)))] s.heap := hP
  have hl := lv_entry ([.ref a0, .ref k0, .ref v0]) (n := 4) (Nat.le_of_ble_eq_true rfl)
  rw [lg_entry_eq]
  generalize (lg_sl ([.ref a0, .ref k0, .ref v0]) ++ List.replicate (4 - (lg_sl ([.ref a0, .ref k0, .ref v0])).length) Slot.unset).toArray = ls at hl ⊢
  have hl : lv_has ls 4 [(0, .ref a0), (1, .ref k0), (2, .ref v0)] := hl
  refine lv_aload_n hx hb d_PS_measure_0 rfl (lv_at hl 0 rfl) ?_
  refine va_get (D := (dC, dI)) (ci := 2) (v := .ref aq) (C := R_PS) (T := F_PS) (N := 10) hx hb hts in_PS hown hK hP 0 rfl rfl 5 (by decide) (hts _ m_103) (fun _ h9 => h9) rfl d_PS_measure_1 ?_
  refine lv_aload_n hx hb d_PS_measure_4 rfl (lv_at hl 2 rfl) ?_
  refine va_get (D := (dC, dI)) (ci := 5) (v := .int (nI cnt)) (C := R_WI) (T := F_WI) (N := 3) hx hb hts in_WI hown hK hP 4 rfl rfl 2 (by decide) (hts _ m_77) (fun _ h9 => h9) rfl d_PS_measure_5 ?_
  refine lv_iconst (v := nI 0) hx hb d_PS_measure_8 (by decide +kernel) ?_
  refine ix_iast (i := cnt) hx hb hK hP hD hS 2 0 rfl rfl (by omega) (by decide) d_PS_measure_9 (fun H locs hP hD hS => ?_)
  have hP : va_P (dC, dI) vwCl [(a0, .inr (2, [.ref ab, .int (nI bn), .int (nI bf), .int (nI kn), .ref ap, .ref aq, .ref ac, .int (zI room), .int (nI most), .int (nI bs)])), (ap, .inl (cI, 5, .inl (aN pi))), (aq, .inl (cI, 6, .inl (aN (up pf cnt 0)))), (k0, .inr (0, [.int (nI cw), .int (nI ck), .int (nI cr), .int (nI cf), .int (nI cn)])), (v0, .inr (5, [.ref vw, .ref vs, .int (nI cnt)])), (vw, .inl (cI, 5, .inl (aN wd))), (vs, .inl (cI, 5, .inl (aN st)))] H := hP
  have hD : va_D A [(a0, .inr (2, [.ref ab, .int (nI bn), .int (nI bf), .int (nI kn), .ref ap, .ref aq, .ref ac, .int (zI room), .int (nI most), .int (nI bs)])), (ap, .inl (cI, 5, .inl (aN pi))), (aq, .inl (cI, 6, .inl (aN (up pf cnt 0)))), (k0, .inr (0, [.int (nI cw), .int (nI ck), .int (nI cr), .int (nI cf), .int (nI cn)])), (v0, .inr (5, [.ref vw, .ref vs, .int (nI cnt)])), (vw, .inl (cI, 5, .inl (aN wd))), (vs, .inl (cI, 5, .inl (aN st)))] := hD
  refine lv_aload_n hx hb d_PS_measure_10 rfl (lv_at hl 2 rfl) ?_
  refine va_get (D := (dC, dI)) (ci := 5) (v := .int (nI cnt)) (C := R_WI) (T := F_WI) (N := 3) hx hb hts in_WI hown hK hP 4 rfl rfl 2 (by decide) (hts _ m_77) (fun _ h9 => h9) rfl d_PS_measure_11 ?_
  refine lv_iconst (v := nI 1) hx hb d_PS_measure_14 (by decide +kernel) ?_
  refine lv_isub hx hb d_PS_measure_15 ?_
  refine lv_topr (show _ = zI (((cnt : Nat) : Int) - ((1 : Nat) : Int)) from nn_sub _ _) ?_
  refine lv_topr (show _ = zI ((cnt : Int) - 1) from congrArg zI (by omega)) ?_
  refine lv_istore_n (lv' := [(3, .int (zI ((cnt : Int) - 1))), (0, .ref a0), (1, .ref k0), (2, .ref v0)]) hx hb d_PS_measure_16 rfl hl (by decide) rfl (fun ls hl => ?_)
  have lp : ∀ (n_lp : Nat) (z : Int) (pI : Nat → Nat) (pF : Nat → Nat), (z + 2 ≤ (n_lp : Int)) → (-1 ≤ z) → (z < cnt) → (MSI wd st cf cnt pI pF z) → ∀ (H : Heap) (locs : List Loc) (ls : Array Slot), va_P (dC, dI) vwCl [(a0, .inr (2, [.ref ab, .int (nI bn), .int (nI bf), .int (nI kn), .ref ap, .ref aq, .ref ac, .int (zI room), .int (nI most), .int (nI bs)])), (ap, .inl (cI, 5, .inl (aN pI))), (aq, .inl (cI, 6, .inl (aN pF))), (k0, .inr (0, [.int (nI cw), .int (nI ck), .int (nI cr), .int (nI cf), .int (nI cn)])), (v0, .inr (5, [.ref vw, .ref vs, .int (nI cnt)])), (vw, .inl (cI, 5, .inl (aN wd))), (vs, .inl (cI, 5, .inl (aN st)))] H → va_D A [(a0, .inr (2, [.ref ab, .int (nI bn), .int (nI bf), .int (nI kn), .ref ap, .ref aq, .ref ac, .int (zI room), .int (nI most), .int (nI bs)])), (ap, .inl (cI, 5, .inl (aN pI))), (aq, .inl (cI, 6, .inl (aN pF))), (k0, .inr (0, [.int (nI cw), .int (nI ck), .int (nI cr), .int (nI cf), .int (nI cn)])), (v0, .inr (5, [.ref vw, .ref vs, .int (nI cnt)])), (vw, .inl (cI, 5, .inl (aN wd))), (vs, .inl (cI, 5, .inl (aN st)))] → va_S A s.heap H locs → lv_has ls 4 [(0, .ref a0), (1, .ref k0), (2, .ref v0), (3, .int (zI z))] → W p l e (headSpec w_PS_measure { frames := 0, cells := 0, slots := 0, locals := 0 }).room s m [.ref a0, .ref k0, .ref v0].toArray below meth c H locs 0 0 (MQ below (va_Qv (fun (u : (Nat → Nat) × (Nat → Nat)) => MSI wd st cf cnt u.1 u.2 (-1)) (rw_B (dC, dI) vwCl [(cI, .int)] A (fun u : (Nat → Nat) × (Nat → Nat) => [(a0, .inr (2, [.ref ab, .int (nI bn), .int (nI bf), .int (nI kn), .ref ap, .ref aq, .ref ac, .int (zI room), .int (nI most), .int (nI bs)])), (ap, .inl (cI, 5, .inl (aN u.1))), (aq, .inl (cI, 6, .inl (aN u.2))), (k0, .inr (0, [.int (nI cw), .int (nI ck), .int (nI cr), .int (nI cf), .int (nI cn)])), (v0, .inr (5, [.ref vw, .ref vs, .int (nI cnt)])), (vw, .inl (cI, 5, .inl (aN wd))), (vs, .inl (cI, 5, .inl (aN st)))])) A) [.ref a0, .ref k0, .ref v0].toArray s 0 0 A) (F0 m 17 ls []) := by
    intro n_lp
    induction n_lp with
    | zero =>
      intro z pI pF hm hz1 hz2 hI
      exact absurd hm (by omega)
    | succ n_lp ih_lp =>
      intro z pI pF hm hz1 hz2 hI H locs ls hP hD hS hl
      refine lv_iload_n hx hb d_PS_measure_17 rfl (lv_at hl 3 rfl) ?_
      refine ix_if_lt (tgt := 72) hx hb (zI_toInt (z := z) (by omega) (by omega)) d_PS_measure_18 (by decide) (fun c_18 => ?_) (fun c_18 => ?_)
      · exact W.vret hx hb hr (fun t ht hW => ⟨⟨(pI, pF), rfl, by rw [show z = -1 by omega] at hI; exact hI, by rw [ht]; exact hP, va_K.moved hW.alike hK, hD⟩, hS.F ht⟩) hS.2.2 d_PS_measure_72
      refine lv_aload_n hx hb d_PS_measure_21 rfl (lv_at hl 0 rfl) ?_
      refine va_get (D := (dC, dI)) (ci := 2) (v := .ref ap) (C := R_PS) (T := F_PS) (N := 10) hx hb hts in_PS hown hK hP 0 rfl rfl 4 (by decide) (hts _ m_102) (fun _ h9 => h9) rfl d_PS_measure_22 ?_
      refine lv_iload_n hx hb d_PS_measure_25 rfl (lv_at hl 3 rfl) ?_
      refine lv_topr (show _ = nI z.toNat from z_toN (by omega)) ?_
      refine lv_aload_n hx hb d_PS_measure_26 rfl (lv_at hl 2 rfl) ?_
      refine va_get (D := (dC, dI)) (ci := 5) (v := .ref vw) (C := R_WI) (T := F_WI) (N := 3) hx hb hts in_WI hown hK hP 4 rfl rfl 0 (by decide) (hts _ m_69) (fun _ h9 => h9) rfl d_PS_measure_27 ?_
      refine lv_iload_n hx hb d_PS_measure_30 rfl (lv_at hl 3 rfl) ?_
      refine lv_topr (show _ = nI z.toNat from z_toN (by omega)) ?_
      refine ix_ialdN (i := z.toNat) hx hb hK hP 5 0 rfl rfl (by omega) (by decide) d_PS_measure_31 ?_
      refine lv_aload_n hx hb d_PS_measure_32 rfl (lv_at hl 1 rfl) ?_
      refine va_get (D := (dC, dI)) (ci := 0) (v := .int (nI cf)) (C := R_CO) (T := F_CO) (N := 5) hx hb hts in_CO hown hK hP 3 rfl rfl 3 (by decide) (hts _ m_44) (fun _ h9 => h9) rfl d_PS_measure_33 ?_
      refine lv_iadd hx hb d_PS_measure_36 ?_
      refine lv_topr (show _ = nI ((wd z.toNat) + cf) from nn_add _ _) ?_
      refine ix_iast (i := z.toNat) hx hb hK hP hD hS 1 0 rfl rfl (by omega) (by decide) d_PS_measure_37 (fun H locs hP hD hS => ?_)
      have hP : va_P (dC, dI) vwCl [(a0, .inr (2, [.ref ab, .int (nI bn), .int (nI bf), .int (nI kn), .ref ap, .ref aq, .ref ac, .int (zI room), .int (nI most), .int (nI bs)])), (ap, .inl (cI, 5, .inl (aN (up pI z.toNat ((wd z.toNat) + cf))))), (aq, .inl (cI, 6, .inl (aN pF))), (k0, .inr (0, [.int (nI cw), .int (nI ck), .int (nI cr), .int (nI cf), .int (nI cn)])), (v0, .inr (5, [.ref vw, .ref vs, .int (nI cnt)])), (vw, .inl (cI, 5, .inl (aN wd))), (vs, .inl (cI, 5, .inl (aN st)))] H := hP
      have hD : va_D A [(a0, .inr (2, [.ref ab, .int (nI bn), .int (nI bf), .int (nI kn), .ref ap, .ref aq, .ref ac, .int (zI room), .int (nI most), .int (nI bs)])), (ap, .inl (cI, 5, .inl (aN (up pI z.toNat ((wd z.toNat) + cf))))), (aq, .inl (cI, 6, .inl (aN pF))), (k0, .inr (0, [.int (nI cw), .int (nI ck), .int (nI cr), .int (nI cf), .int (nI cn)])), (v0, .inr (5, [.ref vw, .ref vs, .int (nI cnt)])), (vw, .inl (cI, 5, .inl (aN wd))), (vs, .inl (cI, 5, .inl (aN st)))] := hD
      refine lv_aload_n hx hb d_PS_measure_38 rfl (lv_at hl 0 rfl) ?_
      refine va_get (D := (dC, dI)) (ci := 2) (v := .ref aq) (C := R_PS) (T := F_PS) (N := 10) hx hb hts in_PS hown hK hP 0 rfl rfl 5 (by decide) (hts _ m_103) (fun _ h9 => h9) rfl d_PS_measure_39 ?_
      refine lv_iload_n hx hb d_PS_measure_42 rfl (lv_at hl 3 rfl) ?_
      refine lv_topr (show _ = nI z.toNat from z_toN (by omega)) ?_
      refine lv_aload_n hx hb d_PS_measure_43 rfl (lv_at hl 0 rfl) ?_
      refine va_get (D := (dC, dI)) (ci := 2) (v := .ref aq) (C := R_PS) (T := F_PS) (N := 10) hx hb hts in_PS hown hK hP 0 rfl rfl 5 (by decide) (hts _ m_103) (fun _ h9 => h9) rfl d_PS_measure_44 ?_
      refine lv_iload_n hx hb d_PS_measure_47 rfl (lv_at hl 3 rfl) ?_
      refine lv_topr (show _ = nI z.toNat from z_toN (by omega)) ?_
      refine lv_iconst (v := nI 1) hx hb d_PS_measure_48 (by decide +kernel) ?_
      refine lv_iadd hx hb d_PS_measure_49 ?_
      refine lv_topr (show _ = nI (z.toNat + 1) from nn_add _ _) ?_
      refine ix_ialdN (i := z.toNat + 1) hx hb hK hP 2 0 rfl rfl (by omega) (by decide) d_PS_measure_50 ?_
      refine lv_aload_n hx hb d_PS_measure_51 rfl (lv_at hl 2 rfl) ?_
      refine va_get (D := (dC, dI)) (ci := 5) (v := .ref vs) (C := R_WI) (T := F_WI) (N := 3) hx hb hts in_WI hown hK hP 4 rfl rfl 1 (by decide) (hts _ m_72) (fun _ h9 => h9) rfl d_PS_measure_52 ?_
      refine lv_iload_n hx hb d_PS_measure_55 rfl (lv_at hl 3 rfl) ?_
      refine lv_topr (show _ = nI z.toNat from z_toN (by omega)) ?_
      refine ix_ialdN (i := z.toNat) hx hb hK hP 6 0 rfl rfl (by omega) (by decide) d_PS_measure_56 ?_
      refine lv_aload_n hx hb d_PS_measure_57 rfl (lv_at hl 0 rfl) ?_
      refine va_get (D := (dC, dI)) (ci := 2) (v := .ref ap) (C := R_PS) (T := F_PS) (N := 10) hx hb hts in_PS hown hK hP 0 rfl rfl 4 (by decide) (hts _ m_102) (fun _ h9 => h9) rfl d_PS_measure_58 ?_
      refine lv_iload_n hx hb d_PS_measure_61 rfl (lv_at hl 3 rfl) ?_
      refine lv_topr (show _ = nI z.toNat from z_toN (by omega)) ?_
      refine ix_ialdN (i := z.toNat) hx hb hK hP 1 0 rfl rfl (by omega) (by decide) d_PS_measure_62 ?_
      refine lv_imul hx hb d_PS_measure_63 ?_
      refine lv_topr (show _ = nI ((st z.toNat) * ((up pI z.toNat ((wd z.toNat) + cf)) z.toNat)) from nn_mul _ _) ?_
      refine lv_iadd hx hb d_PS_measure_64 ?_
      refine lv_topr (show _ = nI ((pF (z.toNat + 1)) + ((st z.toNat) * ((up pI z.toNat ((wd z.toNat) + cf)) z.toNat))) from nn_add _ _) ?_
      refine ix_iast (i := z.toNat) hx hb hK hP hD hS 2 0 rfl rfl (by omega) (by decide) d_PS_measure_65 (fun H locs hP hD hS => ?_)
      have hP : va_P (dC, dI) vwCl [(a0, .inr (2, [.ref ab, .int (nI bn), .int (nI bf), .int (nI kn), .ref ap, .ref aq, .ref ac, .int (zI room), .int (nI most), .int (nI bs)])), (ap, .inl (cI, 5, .inl (aN (up pI z.toNat ((wd z.toNat) + cf))))), (aq, .inl (cI, 6, .inl (aN (up pF z.toNat ((pF (z.toNat + 1)) + ((st z.toNat) * ((up pI z.toNat ((wd z.toNat) + cf)) z.toNat))))))), (k0, .inr (0, [.int (nI cw), .int (nI ck), .int (nI cr), .int (nI cf), .int (nI cn)])), (v0, .inr (5, [.ref vw, .ref vs, .int (nI cnt)])), (vw, .inl (cI, 5, .inl (aN wd))), (vs, .inl (cI, 5, .inl (aN st)))] H := hP
      have hD : va_D A [(a0, .inr (2, [.ref ab, .int (nI bn), .int (nI bf), .int (nI kn), .ref ap, .ref aq, .ref ac, .int (zI room), .int (nI most), .int (nI bs)])), (ap, .inl (cI, 5, .inl (aN (up pI z.toNat ((wd z.toNat) + cf))))), (aq, .inl (cI, 6, .inl (aN (up pF z.toNat ((pF (z.toNat + 1)) + ((st z.toNat) * ((up pI z.toNat ((wd z.toNat) + cf)) z.toNat))))))), (k0, .inr (0, [.int (nI cw), .int (nI ck), .int (nI cr), .int (nI cf), .int (nI cn)])), (v0, .inr (5, [.ref vw, .ref vs, .int (nI cnt)])), (vw, .inl (cI, 5, .inl (aN wd))), (vs, .inl (cI, 5, .inl (aN st)))] := hD
      refine lv_iinc (v := zI (z - 1)) (lv' := [(3, .int (zI (z - 1))), (0, .ref a0), (1, .ref k0), (2, .ref v0)]) hx hb d_PS_measure_66 hl (k := 3) rfl ((n_incZ z (-1))) (by decide) rfl (fun ls hl => ?_)
      refine lv_goto (tgt := 17) hx hb d_PS_measure_69 (by decide) ?_
      exact ih_lp (z - 1) (up pI z.toNat ((wd z.toNat) + cf)) (up pF z.toNat ((pF (z.toNat + 1)) + ((st z.toNat) * ((up pI z.toNat ((wd z.toNat) + cf)) z.toNat)))) (by omega) (by omega) (by omega) (hI.step (by omega) (by omega)) _ _ _ hP hD hS (lv_sub hl [1, 2, 3, 0] rfl)
  exact lp (cnt + 1) ((cnt : Int) - 1) pi (up pf cnt 0) (by omega) (by omega) (by omega) ⟨up_s _ _ _, fun j h1 h2 => by omega⟩ _ _ _ hP hD hS (lv_sub hl [1, 2, 3, 0] rfl)
theorem c_PS_tryTop (l : Launch) (dC : Nat → ClassId) (dI : Nat → Nat → Nat) (sz : Nat) (a0 ab ap aq ac : Nat) (cI : ClassId) (v0 vw vs : Nat) (pi pf wd st : Nat → Nat) (bf kn most cnt : Nat) (room : Int) (hc5 : cnt ≤ 5) (hst : ∀ i, i < cnt → st i ≤ 6) (hpi : ∀ i, i < cnt → pi i ≤ 20100) (hpf : ∀ i, i < cnt → pf i ≤ 700000) (hr1 : -2000 ≤ room) (hr2 : room ≤ 20100) (hmo : most ≤ 39) (bc ct : Nat → Nat) : Met l y_PS_tryCounts w_PS_tryCounts { frames := cnt + 2, cells := 0, slots := 0, locals := 102 + 26 * cnt } (rw_Pc (dC, dI) vwCl [(cI, .int)] sz [.ref a0, .ref v0, .int (nI 0), .int (nI 0), .int (nI 0)] [(a0, .inr (2, [.ref ab, .int (nI 0), .int (nI bf), .int (nI kn), .ref ap, .ref aq, .ref ac, .int (zI room), .int (nI most), .int (nI 0)])), (ab, .inl (cI, 5, .inl (aN bc))), (ap, .inl (cI, 5, .inl (aN pi))), (aq, .inl (cI, 6, .inl (aN pf))), (ac, .inl (cI, 5, .inl (aN ct))), (v0, .inr (5, [.ref vw, .ref vs, .int (nI cnt)])), (vw, .inl (cI, 5, .inl (aN wd))), (vs, .inl (cI, 5, .inl (aN st)))]) (va_Qv (fun (u : Nat × Nat × (Nat → Nat) × (Nat → Nat)) => (u.1, u.2.1, u.2.2.1, u.2.2.2) = tcP pi st pf room most cnt 0 0 0 (0, 0, bc, ct)) (rw_B (dC, dI) vwCl [(cI, .int)] (va_A [(a0, .inr (2, [.ref ab, .int (nI 0), .int (nI bf), .int (nI kn), .ref ap, .ref aq, .ref ac, .int (zI room), .int (nI most), .int (nI 0)])), (ab, .inl (cI, 5, .inl (aN bc))), (ap, .inl (cI, 5, .inl (aN pi))), (aq, .inl (cI, 6, .inl (aN pf))), (ac, .inl (cI, 5, .inl (aN ct))), (v0, .inr (5, [.ref vw, .ref vs, .int (nI cnt)])), (vw, .inl (cI, 5, .inl (aN wd))), (vs, .inl (cI, 5, .inl (aN st)))] sz) (fun u : Nat × Nat × (Nat → Nat) × (Nat → Nat) => [(a0, .inr (2, [.ref ab, .int (nI u.2.1), .int (nI bf), .int (nI kn), .ref ap, .ref aq, .ref ac, .int (zI room), .int (nI most), .int (nI u.1)])), (ab, .inl (cI, 5, .inl (aN u.2.2.1))), (ap, .inl (cI, 5, .inl (aN pi))), (aq, .inl (cI, 6, .inl (aN pf))), (ac, .inl (cI, 5, .inl (aN u.2.2.2))), (v0, .inr (5, [.ref vw, .ref vs, .int (nI cnt)])), (vw, .inl (cI, 5, .inl (aN wd))), (vs, .inl (cI, 5, .inl (aN st)))])) (va_A [(a0, .inr (2, [.ref ab, .int (nI 0), .int (nI bf), .int (nI kn), .ref ap, .ref aq, .ref ac, .int (zI room), .int (nI most), .int (nI 0)])), (ab, .inl (cI, 5, .inl (aN bc))), (ap, .inl (cI, 5, .inl (aN pi))), (aq, .inl (cI, 6, .inl (aN pf))), (ac, .inl (cI, 5, .inl (aN ct))), (v0, .inr (5, [.ref vw, .ref vs, .int (nI cnt)])), (vw, .inl (cI, 5, .inl (aN wd))), (vs, .inl (cI, 5, .inl (aN st)))] sz)) 0 0 (va_A [(a0, .inr (2, [.ref ab, .int (nI 0), .int (nI bf), .int (nI kn), .ref ap, .ref aq, .ref ac, .int (zI room), .int (nI most), .int (nI 0)])), (ab, .inl (cI, 5, .inl (aN bc))), (ap, .inl (cI, 5, .inl (aN pi))), (aq, .inl (cI, 6, .inl (aN pf))), (ac, .inl (cI, 5, .inl (aN ct))), (v0, .inr (5, [.ref vw, .ref vs, .int (nI cnt)])), (vw, .inl (cI, 5, .inl (aN wd))), (vs, .inl (cI, 5, .inl (aN st)))] sz) :=
  c_PS_tryCounts l dC dI a0 ab ap aq ac cI v0 vw vs pi pf wd st bf kn most cnt room hc5 hst hpi hpf hr1 hr2 hmo cnt sz 0 0 0 0 0 bc ct (by omega) (by omega) (by omega) (by omega) (by omega)
set_option maxHeartbeats 4000000 in
set_option maxRecDepth 100000 in
/-- find(coil, wishes): the best pattern is known -/
theorem c_PS_find (l : Launch) (dC : Nat → ClassId) (dI : Nat → Nat → Nat) (sz : Nat) (a0 ab ap aq ac k0 : Nat) (cI : ClassId) (v0 vw vs : Nat) (bc pi pf ct wd st : Nat → Nat) (bn bf kn most bs cw ck cr cf cn cnt : Nat) (room : Int) (hk : kn = 0 ∨ (kn = 1 ∧ GoodP cw cr cf cn cnt wd st bn bf bc)) (hc5 : cnt ≤ 5) (hst : ∀ i, i < cnt → st i ≤ 6) (hwd : ∀ i, i < cnt → wd i ≤ 20000) (hcf : cf ≤ 100) (hcw : cw ≤ 20000) (hcr : cr ≤ 1000) (hcn1 : 2 ≤ cn) (hcn2 : cn ≤ 40) : Met l y_PS_find w_PS_find { frames := 8, cells := 0, slots := 0, locals := 258 } (rw_Pc (dC, dI) vwCl [(cI, .int)] sz [.ref a0, .ref k0, .ref v0] [(a0, .inr (2, [.ref ab, .int (nI bn), .int (nI bf), .int (nI kn), .ref ap, .ref aq, .ref ac, .int (zI room), .int (nI most), .int (nI bs)])), (ab, .inl (cI, 5, .inl (aN bc))), (ap, .inl (cI, 5, .inl (aN pi))), (aq, .inl (cI, 6, .inl (aN pf))), (ac, .inl (cI, 5, .inl (aN ct))), (k0, .inr (0, [.int (nI cw), .int (nI ck), .int (nI cr), .int (nI cf), .int (nI cn)])), (v0, .inr (5, [.ref vw, .ref vs, .int (nI cnt)])), (vw, .inl (cI, 5, .inl (aN wd))), (vs, .inl (cI, 5, .inl (aN st)))]) (va_Qv (fun (u : Nat × Nat × Nat × Int × Nat × Nat × (Nat → Nat) × (Nat → Nat) × (Nat → Nat) × (Nat → Nat)) => u.2.2.1 = 1 ∧ GoodP cw cr cf cn cnt wd st u.1 u.2.1 u.2.2.2.2.2.2.1) (rw_B (dC, dI) vwCl [(cI, .int)] (va_A [(a0, .inr (2, [.ref ab, .int (nI bn), .int (nI bf), .int (nI kn), .ref ap, .ref aq, .ref ac, .int (zI room), .int (nI most), .int (nI bs)])), (ab, .inl (cI, 5, .inl (aN bc))), (ap, .inl (cI, 5, .inl (aN pi))), (aq, .inl (cI, 6, .inl (aN pf))), (ac, .inl (cI, 5, .inl (aN ct))), (k0, .inr (0, [.int (nI cw), .int (nI ck), .int (nI cr), .int (nI cf), .int (nI cn)])), (v0, .inr (5, [.ref vw, .ref vs, .int (nI cnt)])), (vw, .inl (cI, 5, .inl (aN wd))), (vs, .inl (cI, 5, .inl (aN st)))] sz) (fun u : Nat × Nat × Nat × Int × Nat × Nat × (Nat → Nat) × (Nat → Nat) × (Nat → Nat) × (Nat → Nat) => [(a0, .inr (2, [.ref ab, .int (nI u.1), .int (nI u.2.1), .int (nI u.2.2.1), .ref ap, .ref aq, .ref ac, .int (zI u.2.2.2.1), .int (nI u.2.2.2.2.1), .int (nI u.2.2.2.2.2.1)])), (ab, .inl (cI, 5, .inl (aN u.2.2.2.2.2.2.1))), (ap, .inl (cI, 5, .inl (aN u.2.2.2.2.2.2.2.1))), (aq, .inl (cI, 6, .inl (aN u.2.2.2.2.2.2.2.2.1))), (ac, .inl (cI, 5, .inl (aN u.2.2.2.2.2.2.2.2.2))), (k0, .inr (0, [.int (nI cw), .int (nI ck), .int (nI cr), .int (nI cf), .int (nI cn)])), (v0, .inr (5, [.ref vw, .ref vs, .int (nI cnt)])), (vw, .inl (cI, 5, .inl (aN wd))), (vs, .inl (cI, 5, .inl (aN st)))])) (va_A [(a0, .inr (2, [.ref ab, .int (nI bn), .int (nI bf), .int (nI kn), .ref ap, .ref aq, .ref ac, .int (zI room), .int (nI most), .int (nI bs)])), (ab, .inl (cI, 5, .inl (aN bc))), (ap, .inl (cI, 5, .inl (aN pi))), (aq, .inl (cI, 6, .inl (aN pf))), (ac, .inl (cI, 5, .inl (aN ct))), (k0, .inr (0, [.int (nI cw), .int (nI ck), .int (nI cr), .int (nI cf), .int (nI cn)])), (v0, .inr (5, [.ref vw, .ref vs, .int (nI cnt)])), (vw, .inl (cI, 5, .inl (aN wd))), (vs, .inl (cI, 5, .inl (aN st)))] sz)) 0 0 (va_A [(a0, .inr (2, [.ref ab, .int (nI bn), .int (nI bf), .int (nI kn), .ref ap, .ref aq, .ref ac, .int (zI room), .int (nI most), .int (nI bs)])), (ab, .inl (cI, 5, .inl (aN bc))), (ap, .inl (cI, 5, .inl (aN pi))), (aq, .inl (cI, 6, .inl (aN pf))), (ac, .inl (cI, 5, .inl (aN ct))), (k0, .inr (0, [.int (nI cw), .int (nI ck), .int (nI cr), .int (nI cf), .int (nI cn)])), (v0, .inr (5, [.ref vw, .ref vs, .int (nI cnt)])), (vw, .inl (cI, 5, .inl (aN wd))), (vs, .inl (cI, 5, .inl (aN st)))] sz) := by
  refine Met.ofW (cc := b_PS_find) (maxL := 3) (ret := none) (by decide) rfl ?_
  intro p e s m args below meth c s₁ B hml hv
  obtain ⟨rfl, hsz, hP, hK, hD0⟩ := hv
  have hx := B.exec
  have hb := B.bytes
  have hr := B.returns
  have hts := gw_h (atoms_spec (ws := w_PS_find) B.pre)
  have hown : s.vm.findClass R_PS = some m.cls := findClass_of_methodNamed B.named
  have hlocks := B.notSynchronized
  subst hsz
  have hD := hD0.self (sz := s.heap.size)
  generalize hAe : va_A [(a0, .inr (2, [.ref ab, .int (nI bn), .int (nI bf), .int (nI kn), .ref ap, .ref aq, .ref ac, .int (zI room), .int (nI most), .int (nI bs)])), (ab, .inl (cI, 5, .inl (aN bc))), (ap, .inl (cI, 5, .inl (aN pi))), (aq, .inl (cI, 6, .inl (aN pf))), (ac, .inl (cI, 5, .inl (aN ct))), (k0, .inr (0, [.int (nI cw), .int (nI ck), .int (nI cr), .int (nI cf), .int (nI cn)])), (v0, .inr (5, [.ref vw, .ref vs, .int (nI cnt)])), (vw, .inl (cI, 5, .inl (aN wd))), (vs, .inl (cI, 5, .inl (aN st)))] s.heap.size = A at hD ⊢
  have hA : ∀ q : Nat, s.heap.size ≤ q → A q := fun q h => by rw [← hAe]; exact Or.inr h
  have hS : va_S A s.heap s.heap [] := va_S.rf
  have hP : va_P (dC, dI) vwCl [(a0, .inr (2, [.ref ab, .int (nI bn), .int (nI bf), .int (nI kn), .ref ap, .ref aq, .ref ac, .int (zI room), .int (nI most), .int (nI bs)])), (ab, .inl (cI, 5, .inl (aN bc))), (ap, .inl (cI, 5, .inl (aN pi))), (aq, .inl (cI, 6, .inl (aN pf))), (ac, .inl (cI, 5, .inl (aN ct))), (k0, .inr (0, [.int (nI cw), .int (nI ck), .int (nI cr), .int (nI cf), .int (nI cn)])), (v0, .inr (5, [.ref vw, .ref vs, .int (nI cnt)])), (vw, .inl (cI, 5, .inl (aN wd))), (vs, .inl (cI, 5, .inl (aN st)))] s.heap := hP
  have hl := lv_entry ([.ref a0, .ref k0, .ref v0]) (n := 3) (Nat.le_of_ble_eq_true rfl)
  rw [lg_entry_eq]
  generalize (lg_sl ([.ref a0, .ref k0, .ref v0]) ++ List.replicate (3 - (lg_sl ([.ref a0, .ref k0, .ref v0])).length) Slot.unset).toArray = ls at hl ⊢
  have hl : lv_has ls 3 [(0, .ref a0), (1, .ref k0), (2, .ref v0)] := hl
  refine lv_aload_n hx hb d_PS_find_0 rfl (lv_at hl 0 rfl) ?_
  refine va_get (D := (dC, dI)) (ci := 2) (v := .int (nI kn)) (C := R_PS) (T := F_PS) (N := 10) hx hb hts in_PS hown hK hP 0 rfl rfl 3 (by decide) (hts _ m_100) (fun _ h9 => h9) rfl d_PS_find_1 ?_
  refine ix_if_eq (tgt := 8) hx hb (nI_tI (n := kn) (by omega)) d_PS_find_4 (by decide) (fun c_4 => ?_) (fun c_4 => ?_)
  · refine lv_aload_n hx hb d_PS_find_8 rfl (lv_at hl 0 rfl) ?_
    refine va_get (D := (dC, dI)) (ci := 2) (v := .ref ab) (C := R_PS) (T := F_PS) (N := 10) hx hb hts in_PS hown hK hP 0 rfl rfl 0 (by decide) (hts _ m_92) (fun _ h9 => h9) rfl d_PS_find_9 ?_
    refine lv_iconst (v := nI 0) hx hb d_PS_find_12 (by decide +kernel) ?_
    have hPc := hP.sub (ws' := [(ab, .inl (cI, 5, .inl (aN bc)))]) [1] rfl
    have hDc := hD.sub (ws' := [(ab, .inl (cI, 5, .inl (aN bc)))]) [1] (by decide) rfl
    have hFc := va_free (wc := [(ab, .inl (cI, 5, .inl (aN bc)))]) hD hS hA [1] rfl
    refine va_callv (va_runS (As := [.ref ab, .int (nI 0)]) (rest := []) ⟨hx, hb, hml, hown, hts⟩ (c_AR_fill l dC dI s.heap.size ab cI bc 0) (va_cwS 2 hts (gw_S m_252 m_253 m_15 m_254) rfl rfl rfl (by decide +kernel) ⟨Nat.le_of_ble_eq_true rfl, Nat.le_of_ble_eq_true rfl⟩) ⟨rw_blind, fun U hU hW => ⟨rfl, by rw [hU], by rw [hU]; exact hPc, va_K.moved hW.alike hK, hDc.weaken (fun _ _ _ _ => trivial)⟩⟩ rfl rfl hl.1 rfl (lv_room (Nat.le_of_ble_eq_true rfl)) d_PS_find_13 ⟨Nat.le_of_ble_eq_true rfl, Nat.le_of_ble_eq_true rfl⟩) hS (fun q _ h => hFc q h) hFc (fun u t H1 locs ht hvm hw hB hz1 hk1 hS => ?_)
    obtain ⟨bc1, rfl⟩ : ∃ z, z = u := ⟨_, rfl⟩
    obtain ⟨hP1, hK1, hD1⟩ := hB
    rw [ht] at hP1
    try dsimp only at hw
    obtain ⟨hP, hD⟩ := va_join (wr := [(a0, .inr (2, [.ref ab, .int (nI bn), .int (nI bf), .int (nI kn), .ref ap, .ref aq, .ref ac, .int (zI room), .int (nI most), .int (nI bs)])), (ap, .inl (cI, 5, .inl (aN pi))), (aq, .inl (cI, 6, .inl (aN pf))), (ac, .inl (cI, 5, .inl (aN ct))), (k0, .inr (0, [.int (nI cw), .int (nI ck), .int (nI cr), .int (nI cf), .int (nI cn)])), (v0, .inr (5, [.ref vw, .ref vs, .int (nI cnt)])), (vw, .inl (cI, 5, .inl (aN wd))), (vs, .inl (cI, 5, .inl (aN st)))]) (w1 := [(ab, .inl (cI, 5, .inl (aN bc1)))]) hP hD [1] [0, 2, 3, 4, 5, 6, 7, 8] rfl rfl (by decide) (by decide) hk1 hFc hP1 hD1
    generalize H1 = H at hP hS ⊢
    have hP : va_P (dC, dI) vwCl [(a0, .inr (2, [.ref ab, .int (nI bn), .int (nI bf), .int (nI kn), .ref ap, .ref aq, .ref ac, .int (zI room), .int (nI most), .int (nI bs)])), (ab, .inl (cI, 5, .inl (aN bc1))), (ap, .inl (cI, 5, .inl (aN pi))), (aq, .inl (cI, 6, .inl (aN pf))), (ac, .inl (cI, 5, .inl (aN ct))), (k0, .inr (0, [.int (nI cw), .int (nI ck), .int (nI cr), .int (nI cf), .int (nI cn)])), (v0, .inr (5, [.ref vw, .ref vs, .int (nI cnt)])), (vw, .inl (cI, 5, .inl (aN wd))), (vs, .inl (cI, 5, .inl (aN st)))] H := hP.sub [0, 8, 1, 2, 3, 4, 5, 6, 7] rfl
    have hD : va_D A [(a0, .inr (2, [.ref ab, .int (nI bn), .int (nI bf), .int (nI kn), .ref ap, .ref aq, .ref ac, .int (zI room), .int (nI most), .int (nI bs)])), (ab, .inl (cI, 5, .inl (aN bc1))), (ap, .inl (cI, 5, .inl (aN pi))), (aq, .inl (cI, 6, .inl (aN pf))), (ac, .inl (cI, 5, .inl (aN ct))), (k0, .inr (0, [.int (nI cw), .int (nI ck), .int (nI cr), .int (nI cf), .int (nI cn)])), (v0, .inr (5, [.ref vw, .ref vs, .int (nI cnt)])), (vw, .inl (cI, 5, .inl (aN wd))), (vs, .inl (cI, 5, .inl (aN st)))] := hD.sub [0, 8, 1, 2, 3, 4, 5, 6, 7] (by decide) rfl
    have h0 := hw
    refine lv_aload_n hx hb d_PS_find_16 rfl (lv_at hl 0 rfl) ?_
    refine lv_iconst (v := nI 0) hx hb d_PS_find_17 (by decide +kernel) ?_
    refine va_put (D := (dC, dI)) (ci := 2) (v := .int (nI 0)) (ty := .int) (C := R_PS) (T := F_PS) (N := 10) hx hb hts in_PS t_PS t_PS_ok n_PS hown hK hP hD hS 0 rfl rfl 1 (by decide) (hts _ m_95) (fun _ h9 => h9) rfl (by decide +kernel) rfl rfl (Nat.le_of_ble_eq_true rfl) d_PS_find_18 (fun H locs hP hD hS => ?_)
    have hP : va_P (dC, dI) vwCl [(a0, .inr (2, [.ref ab, .int (nI 0), .int (nI bf), .int (nI kn), .ref ap, .ref aq, .ref ac, .int (zI room), .int (nI most), .int (nI bs)])), (ab, .inl (cI, 5, .inl (aN bc1))), (ap, .inl (cI, 5, .inl (aN pi))), (aq, .inl (cI, 6, .inl (aN pf))), (ac, .inl (cI, 5, .inl (aN ct))), (k0, .inr (0, [.int (nI cw), .int (nI ck), .int (nI cr), .int (nI cf), .int (nI cn)])), (v0, .inr (5, [.ref vw, .ref vs, .int (nI cnt)])), (vw, .inl (cI, 5, .inl (aN wd))), (vs, .inl (cI, 5, .inl (aN st)))] H := hP
    have hD : va_D A [(a0, .inr (2, [.ref ab, .int (nI 0), .int (nI bf), .int (nI kn), .ref ap, .ref aq, .ref ac, .int (zI room), .int (nI most), .int (nI bs)])), (ab, .inl (cI, 5, .inl (aN bc1))), (ap, .inl (cI, 5, .inl (aN pi))), (aq, .inl (cI, 6, .inl (aN pf))), (ac, .inl (cI, 5, .inl (aN ct))), (k0, .inr (0, [.int (nI cw), .int (nI ck), .int (nI cr), .int (nI cf), .int (nI cn)])), (v0, .inr (5, [.ref vw, .ref vs, .int (nI cnt)])), (vw, .inl (cI, 5, .inl (aN wd))), (vs, .inl (cI, 5, .inl (aN st)))] := hD
    refine lv_aload_n hx hb d_PS_find_21 rfl (lv_at hl 0 rfl) ?_
    refine lv_iconst (v := nI 0) hx hb d_PS_find_22 (by decide +kernel) ?_
    refine va_put (D := (dC, dI)) (ci := 2) (v := .int (nI 0)) (ty := .int) (C := R_PS) (T := F_PS) (N := 10) hx hb hts in_PS t_PS t_PS_ok n_PS hown hK hP hD hS 0 rfl rfl 9 (by decide) (hts _ m_107) (fun _ h9 => h9) rfl (by decide +kernel) rfl rfl (Nat.le_of_ble_eq_true rfl) d_PS_find_23 (fun H locs hP hD hS => ?_)
    have hP : va_P (dC, dI) vwCl [(a0, .inr (2, [.ref ab, .int (nI 0), .int (nI bf), .int (nI kn), .ref ap, .ref aq, .ref ac, .int (zI room), .int (nI most), .int (nI 0)])), (ab, .inl (cI, 5, .inl (aN bc1))), (ap, .inl (cI, 5, .inl (aN pi))), (aq, .inl (cI, 6, .inl (aN pf))), (ac, .inl (cI, 5, .inl (aN ct))), (k0, .inr (0, [.int (nI cw), .int (nI ck), .int (nI cr), .int (nI cf), .int (nI cn)])), (v0, .inr (5, [.ref vw, .ref vs, .int (nI cnt)])), (vw, .inl (cI, 5, .inl (aN wd))), (vs, .inl (cI, 5, .inl (aN st)))] H := hP
    have hD : va_D A [(a0, .inr (2, [.ref ab, .int (nI 0), .int (nI bf), .int (nI kn), .ref ap, .ref aq, .ref ac, .int (zI room), .int (nI most), .int (nI 0)])), (ab, .inl (cI, 5, .inl (aN bc1))), (ap, .inl (cI, 5, .inl (aN pi))), (aq, .inl (cI, 6, .inl (aN pf))), (ac, .inl (cI, 5, .inl (aN ct))), (k0, .inr (0, [.int (nI cw), .int (nI ck), .int (nI cr), .int (nI cf), .int (nI cn)])), (v0, .inr (5, [.ref vw, .ref vs, .int (nI cnt)])), (vw, .inl (cI, 5, .inl (aN wd))), (vs, .inl (cI, 5, .inl (aN st)))] := hD
    refine lv_aload_n hx hb d_PS_find_26 rfl (lv_at hl 0 rfl) ?_
    refine lv_aload_n hx hb d_PS_find_27 rfl (lv_at hl 1 rfl) ?_
    refine va_get (D := (dC, dI)) (ci := 0) (v := .int (nI cw)) (C := R_CO) (T := F_CO) (N := 5) hx hb hts in_CO hown hK hP 5 rfl rfl 0 (by decide) (hts _ m_34) (fun _ h9 => h9) rfl d_PS_find_28 ?_
    refine lv_iconst (v := nI 2) hx hb d_PS_find_31 (by decide +kernel) ?_
    refine lv_aload_n hx hb d_PS_find_32 rfl (lv_at hl 1 rfl) ?_
    refine va_get (D := (dC, dI)) (ci := 0) (v := .int (nI cr)) (C := R_CO) (T := F_CO) (N := 5) hx hb hts in_CO hown hK hP 5 rfl rfl 2 (by decide) (hts _ m_41) (fun _ h9 => h9) rfl d_PS_find_33 ?_
    refine lv_imul hx hb d_PS_find_36 ?_
    refine lv_topr (show _ = nI (2 * cr) from nn_mul _ _) ?_
    refine lv_isub hx hb d_PS_find_37 ?_
    refine lv_topr (show _ = zI (((cw : Nat) : Int) - ((2 * cr : Nat) : Int)) from nn_sub _ _) ?_
    refine lv_aload_n hx hb d_PS_find_38 rfl (lv_at hl 1 rfl) ?_
    refine va_get (D := (dC, dI)) (ci := 0) (v := .int (nI cf)) (C := R_CO) (T := F_CO) (N := 5) hx hb hts in_CO hown hK hP 5 rfl rfl 3 (by decide) (hts _ m_44) (fun _ h9 => h9) rfl d_PS_find_39 ?_
    refine lv_iadd hx hb d_PS_find_42 ?_
    refine lv_topr (show _ = zI ((((cw : Nat) : Int) - ((2 * cr : Nat) : Int)) + ((cf : Nat) : Int)) from zn_add _ _) ?_
    refine lv_topr (show _ = zI ((cw : Int) - 2 * cr + cf) from congrArg zI (by omega)) ?_
    refine va_put (D := (dC, dI)) (ci := 2) (v := .int (zI ((cw : Int) - 2 * cr + cf))) (ty := .int) (C := R_PS) (T := F_PS) (N := 10) hx hb hts in_PS t_PS t_PS_ok n_PS hown hK hP hD hS 0 rfl rfl 7 (by decide) (hts _ m_105) (fun _ h9 => h9) rfl (by decide +kernel) rfl rfl (Nat.le_of_ble_eq_true rfl) d_PS_find_43 (fun H locs hP hD hS => ?_)
    have hP : va_P (dC, dI) vwCl [(a0, .inr (2, [.ref ab, .int (nI 0), .int (nI bf), .int (nI kn), .ref ap, .ref aq, .ref ac, .int (zI ((cw : Int) - 2 * cr + cf)), .int (nI most), .int (nI 0)])), (ab, .inl (cI, 5, .inl (aN bc1))), (ap, .inl (cI, 5, .inl (aN pi))), (aq, .inl (cI, 6, .inl (aN pf))), (ac, .inl (cI, 5, .inl (aN ct))), (k0, .inr (0, [.int (nI cw), .int (nI ck), .int (nI cr), .int (nI cf), .int (nI cn)])), (v0, .inr (5, [.ref vw, .ref vs, .int (nI cnt)])), (vw, .inl (cI, 5, .inl (aN wd))), (vs, .inl (cI, 5, .inl (aN st)))] H := hP
    have hD : va_D A [(a0, .inr (2, [.ref ab, .int (nI 0), .int (nI bf), .int (nI kn), .ref ap, .ref aq, .ref ac, .int (zI ((cw : Int) - 2 * cr + cf)), .int (nI most), .int (nI 0)])), (ab, .inl (cI, 5, .inl (aN bc1))), (ap, .inl (cI, 5, .inl (aN pi))), (aq, .inl (cI, 6, .inl (aN pf))), (ac, .inl (cI, 5, .inl (aN ct))), (k0, .inr (0, [.int (nI cw), .int (nI ck), .int (nI cr), .int (nI cf), .int (nI cn)])), (v0, .inr (5, [.ref vw, .ref vs, .int (nI cnt)])), (vw, .inl (cI, 5, .inl (aN wd))), (vs, .inl (cI, 5, .inl (aN st)))] := hD
    refine lv_aload_n hx hb d_PS_find_46 rfl (lv_at hl 0 rfl) ?_
    refine lv_aload_n hx hb d_PS_find_47 rfl (lv_at hl 1 rfl) ?_
    refine va_get (D := (dC, dI)) (ci := 0) (v := .int (nI cn)) (C := R_CO) (T := F_CO) (N := 5) hx hb hts in_CO hown hK hP 5 rfl rfl 4 (by decide) (hts _ m_48) (fun _ h9 => h9) rfl d_PS_find_48 ?_
    refine lv_iconst (v := nI 1) hx hb d_PS_find_51 (by decide +kernel) ?_
    refine lv_isub hx hb d_PS_find_52 ?_
    refine lv_topr (show _ = nI (cn - 1) from nn_subN (by omega)) ?_
    refine va_put (D := (dC, dI)) (ci := 2) (v := .int (nI (cn - 1))) (ty := .int) (C := R_PS) (T := F_PS) (N := 10) hx hb hts in_PS t_PS t_PS_ok n_PS hown hK hP hD hS 0 rfl rfl 8 (by decide) (hts _ m_106) (fun _ h9 => h9) rfl (by decide +kernel) rfl rfl (Nat.le_of_ble_eq_true rfl) d_PS_find_53 (fun H locs hP hD hS => ?_)
    have hP : va_P (dC, dI) vwCl [(a0, .inr (2, [.ref ab, .int (nI 0), .int (nI bf), .int (nI kn), .ref ap, .ref aq, .ref ac, .int (zI ((cw : Int) - 2 * cr + cf)), .int (nI (cn - 1)), .int (nI 0)])), (ab, .inl (cI, 5, .inl (aN bc1))), (ap, .inl (cI, 5, .inl (aN pi))), (aq, .inl (cI, 6, .inl (aN pf))), (ac, .inl (cI, 5, .inl (aN ct))), (k0, .inr (0, [.int (nI cw), .int (nI ck), .int (nI cr), .int (nI cf), .int (nI cn)])), (v0, .inr (5, [.ref vw, .ref vs, .int (nI cnt)])), (vw, .inl (cI, 5, .inl (aN wd))), (vs, .inl (cI, 5, .inl (aN st)))] H := hP
    have hD : va_D A [(a0, .inr (2, [.ref ab, .int (nI 0), .int (nI bf), .int (nI kn), .ref ap, .ref aq, .ref ac, .int (zI ((cw : Int) - 2 * cr + cf)), .int (nI (cn - 1)), .int (nI 0)])), (ab, .inl (cI, 5, .inl (aN bc1))), (ap, .inl (cI, 5, .inl (aN pi))), (aq, .inl (cI, 6, .inl (aN pf))), (ac, .inl (cI, 5, .inl (aN ct))), (k0, .inr (0, [.int (nI cw), .int (nI ck), .int (nI cr), .int (nI cf), .int (nI cn)])), (v0, .inr (5, [.ref vw, .ref vs, .int (nI cnt)])), (vw, .inl (cI, 5, .inl (aN wd))), (vs, .inl (cI, 5, .inl (aN st)))] := hD
    refine lv_aload_n hx hb d_PS_find_56 rfl (lv_at hl 0 rfl) ?_
    refine lv_aload_n hx hb d_PS_find_57 rfl (lv_at hl 1 rfl) ?_
    refine lv_aload_n hx hb d_PS_find_58 rfl (lv_at hl 2 rfl) ?_
    have hPc := hP.sub (ws' := [(a0, .inr (2, [.ref ab, .int (nI 0), .int (nI bf), .int (nI kn), .ref ap, .ref aq, .ref ac, .int (zI ((cw : Int) - 2 * cr + cf)), .int (nI (cn - 1)), .int (nI 0)])), (ap, .inl (cI, 5, .inl (aN pi))), (aq, .inl (cI, 6, .inl (aN pf))), (k0, .inr (0, [.int (nI cw), .int (nI ck), .int (nI cr), .int (nI cf), .int (nI cn)])), (v0, .inr (5, [.ref vw, .ref vs, .int (nI cnt)])), (vw, .inl (cI, 5, .inl (aN wd))), (vs, .inl (cI, 5, .inl (aN st)))]) [0, 2, 3, 5, 6, 7, 8] rfl
    have hDc := hD.sub (ws' := [(a0, .inr (2, [.ref ab, .int (nI 0), .int (nI bf), .int (nI kn), .ref ap, .ref aq, .ref ac, .int (zI ((cw : Int) - 2 * cr + cf)), .int (nI (cn - 1)), .int (nI 0)])), (ap, .inl (cI, 5, .inl (aN pi))), (aq, .inl (cI, 6, .inl (aN pf))), (k0, .inr (0, [.int (nI cw), .int (nI ck), .int (nI cr), .int (nI cf), .int (nI cn)])), (v0, .inr (5, [.ref vw, .ref vs, .int (nI cnt)])), (vw, .inl (cI, 5, .inl (aN wd))), (vs, .inl (cI, 5, .inl (aN st)))]) [0, 2, 3, 5, 6, 7, 8] (by decide) rfl
    have hFc := va_free (wc := [(a0, .inr (2, [.ref ab, .int (nI 0), .int (nI bf), .int (nI kn), .ref ap, .ref aq, .ref ac, .int (zI ((cw : Int) - 2 * cr + cf)), .int (nI (cn - 1)), .int (nI 0)])), (ap, .inl (cI, 5, .inl (aN pi))), (aq, .inl (cI, 6, .inl (aN pf))), (k0, .inr (0, [.int (nI cw), .int (nI ck), .int (nI cr), .int (nI cf), .int (nI cn)])), (v0, .inr (5, [.ref vw, .ref vs, .int (nI cnt)])), (vw, .inl (cI, 5, .inl (aN wd))), (vs, .inl (cI, 5, .inl (aN st)))]) hD hS hA [0, 2, 3, 5, 6, 7, 8] rfl
    refine va_callv (va_runV (As := [.ref k0, .ref v0]) (rest := []) ⟨hx, hb, hml, hown, hts⟩ (c_PS_measure l dC dI H.size a0 ab ap aq ac k0 cI v0 vw vs pi pf wd st 0 bf kn (cn - 1) 0 cw ck cr cf cn cnt ((cw : Int) - 2 * cr + cf) hc5) (cwV 2 hts (gw_V m_255 m_257 s_0 m_4 m_258) rfl rfl rfl (by decide +kernel) ⟨Nat.le_of_ble_eq_true rfl, Nat.le_of_ble_eq_true rfl⟩) ⟨rw_blind, va_recv hK hPc (ci := 2) (q0 := 0) rfl rfl, fun U hU hW => ⟨rfl, by rw [hU], by rw [hU]; exact hPc, va_K.moved hW.alike hK, hDc.weaken (fun _ _ _ _ => trivial)⟩⟩ rfl rfl hl.1 rfl (lv_room (Nat.le_of_ble_eq_true rfl)) d_PS_find_59 ⟨Nat.le_of_ble_eq_true rfl, Nat.le_of_ble_eq_true rfl⟩) hS (fun q _ h => hFc q h) hFc (fun u t H1 locs ht hvm hw hB hz1 hk1 hS => ?_)
    obtain ⟨pi1, pf1⟩ := u
    obtain ⟨hP1, hK1, hD1⟩ := hB
    rw [ht] at hP1
    try dsimp only at hw
    obtain ⟨hP, hD⟩ := va_join (wr := [(ab, .inl (cI, 5, .inl (aN bc1))), (ac, .inl (cI, 5, .inl (aN ct)))]) (w1 := [(a0, .inr (2, [.ref ab, .int (nI 0), .int (nI bf), .int (nI kn), .ref ap, .ref aq, .ref ac, .int (zI ((cw : Int) - 2 * cr + cf)), .int (nI (cn - 1)), .int (nI 0)])), (ap, .inl (cI, 5, .inl (aN pi1))), (aq, .inl (cI, 6, .inl (aN pf1))), (k0, .inr (0, [.int (nI cw), .int (nI ck), .int (nI cr), .int (nI cf), .int (nI cn)])), (v0, .inr (5, [.ref vw, .ref vs, .int (nI cnt)])), (vw, .inl (cI, 5, .inl (aN wd))), (vs, .inl (cI, 5, .inl (aN st)))]) hP hD [0, 2, 3, 5, 6, 7, 8] [1, 4] rfl rfl (by decide) (by decide) hk1 hFc hP1 hD1
    generalize H1 = H at hP hS ⊢
    have hP : va_P (dC, dI) vwCl [(a0, .inr (2, [.ref ab, .int (nI 0), .int (nI bf), .int (nI kn), .ref ap, .ref aq, .ref ac, .int (zI ((cw : Int) - 2 * cr + cf)), .int (nI (cn - 1)), .int (nI 0)])), (ab, .inl (cI, 5, .inl (aN bc1))), (ap, .inl (cI, 5, .inl (aN pi1))), (aq, .inl (cI, 6, .inl (aN pf1))), (ac, .inl (cI, 5, .inl (aN ct))), (k0, .inr (0, [.int (nI cw), .int (nI ck), .int (nI cr), .int (nI cf), .int (nI cn)])), (v0, .inr (5, [.ref vw, .ref vs, .int (nI cnt)])), (vw, .inl (cI, 5, .inl (aN wd))), (vs, .inl (cI, 5, .inl (aN st)))] H := hP.sub [2, 0, 3, 4, 1, 5, 6, 7, 8] rfl
    have hD : va_D A [(a0, .inr (2, [.ref ab, .int (nI 0), .int (nI bf), .int (nI kn), .ref ap, .ref aq, .ref ac, .int (zI ((cw : Int) - 2 * cr + cf)), .int (nI (cn - 1)), .int (nI 0)])), (ab, .inl (cI, 5, .inl (aN bc1))), (ap, .inl (cI, 5, .inl (aN pi1))), (aq, .inl (cI, 6, .inl (aN pf1))), (ac, .inl (cI, 5, .inl (aN ct))), (k0, .inr (0, [.int (nI cw), .int (nI ck), .int (nI cr), .int (nI cf), .int (nI cn)])), (v0, .inr (5, [.ref vw, .ref vs, .int (nI cnt)])), (vw, .inl (cI, 5, .inl (aN wd))), (vs, .inl (cI, 5, .inl (aN st)))] := hD.sub [2, 0, 3, 4, 1, 5, 6, 7, 8] (by decide) rfl
    have hM := hw
    have hMl := hM.le hc5 hst hwd hcf
    refine lv_aload_n hx hb d_PS_find_62 rfl (lv_at hl 0 rfl) ?_
    refine lv_aload_n hx hb d_PS_find_63 rfl (lv_at hl 2 rfl) ?_
    refine lv_iconst (v := nI 0) hx hb d_PS_find_64 (by decide +kernel) ?_
    refine lv_iconst (v := nI 0) hx hb d_PS_find_65 (by decide +kernel) ?_
    refine lv_iconst (v := nI 0) hx hb d_PS_find_66 (by decide +kernel) ?_
    have hPc := hP.sub (ws' := [(a0, .inr (2, [.ref ab, .int (nI 0), .int (nI bf), .int (nI kn), .ref ap, .ref aq, .ref ac, .int (zI ((cw : Int) - 2 * cr + cf)), .int (nI (cn - 1)), .int (nI 0)])), (ab, .inl (cI, 5, .inl (aN bc1))), (ap, .inl (cI, 5, .inl (aN pi1))), (aq, .inl (cI, 6, .inl (aN pf1))), (ac, .inl (cI, 5, .inl (aN ct))), (v0, .inr (5, [.ref vw, .ref vs, .int (nI cnt)])), (vw, .inl (cI, 5, .inl (aN wd))), (vs, .inl (cI, 5, .inl (aN st)))]) [0, 1, 2, 3, 4, 6, 7, 8] rfl
    have hDc := hD.sub (ws' := [(a0, .inr (2, [.ref ab, .int (nI 0), .int (nI bf), .int (nI kn), .ref ap, .ref aq, .ref ac, .int (zI ((cw : Int) - 2 * cr + cf)), .int (nI (cn - 1)), .int (nI 0)])), (ab, .inl (cI, 5, .inl (aN bc1))), (ap, .inl (cI, 5, .inl (aN pi1))), (aq, .inl (cI, 6, .inl (aN pf1))), (ac, .inl (cI, 5, .inl (aN ct))), (v0, .inr (5, [.ref vw, .ref vs, .int (nI cnt)])), (vw, .inl (cI, 5, .inl (aN wd))), (vs, .inl (cI, 5, .inl (aN st)))]) [0, 1, 2, 3, 4, 6, 7, 8] (by decide) rfl
    have hFc := va_free (wc := [(a0, .inr (2, [.ref ab, .int (nI 0), .int (nI bf), .int (nI kn), .ref ap, .ref aq, .ref ac, .int (zI ((cw : Int) - 2 * cr + cf)), .int (nI (cn - 1)), .int (nI 0)])), (ab, .inl (cI, 5, .inl (aN bc1))), (ap, .inl (cI, 5, .inl (aN pi1))), (aq, .inl (cI, 6, .inl (aN pf1))), (ac, .inl (cI, 5, .inl (aN ct))), (v0, .inr (5, [.ref vw, .ref vs, .int (nI cnt)])), (vw, .inl (cI, 5, .inl (aN wd))), (vs, .inl (cI, 5, .inl (aN st)))]) hD hS hA [0, 1, 2, 3, 4, 6, 7, 8] rfl
    refine va_callv (va_runV (As := [.ref v0, .int (nI 0), .int (nI 0), .int (nI 0)]) (rest := []) ⟨hx, hb, hml, hown, hts⟩ (c_PS_tryTop l dC dI H.size a0 ab ap aq ac cI v0 vw vs pi1 pf1 wd st bf kn (cn - 1) cnt ((cw : Int) - 2 * cr + cf) hc5 hst (fun i hi => by have := (hM.2 i (by omega) hi).1; have := hwd i hi; omega) (fun i hi => by have := hMl (cnt - i) i (by omega); have : (cnt - i) * 120600 ≤ 5 * 120600 := Nat.mul_le_mul_right _ (by omega); omega) (by omega) (by omega) (by omega) bc1 ct) (cwV 4 hts (gw_V m_259 m_261 s_1 m_4 m_262) rfl rfl rfl (by decide +kernel) ⟨(by show cnt + 2 + 1 ≤ 8; omega), (by show 8 + (7 + 11) + (102 + 26 * cnt) ≤ 258; omega)⟩) ⟨rw_blind, va_recv hK hPc (ci := 2) (q0 := 0) rfl rfl, fun U hU hW => ⟨rfl, by rw [hU], by rw [hU]; exact hPc, va_K.moved hW.alike hK, hDc.weaken (fun _ _ _ _ => trivial)⟩⟩ rfl rfl hl.1 rfl (lv_room (Nat.le_of_ble_eq_true rfl)) d_PS_find_67 ⟨Nat.le_of_ble_eq_true rfl, Nat.le_of_ble_eq_true rfl⟩) hS (fun q _ h => hFc q h) hFc (fun u t H1 locs ht hvm hw hB hz1 hk1 hS => ?_)
    obtain ⟨bs2, bn2, bc2, ct2⟩ := u
    obtain ⟨hP1, hK1, hD1⟩ := hB
    rw [ht] at hP1
    try dsimp only at hw
    obtain ⟨hP, hD⟩ := va_join (wr := [(k0, .inr (0, [.int (nI cw), .int (nI ck), .int (nI cr), .int (nI cf), .int (nI cn)]))]) (w1 := [(a0, .inr (2, [.ref ab, .int (nI bn2), .int (nI bf), .int (nI kn), .ref ap, .ref aq, .ref ac, .int (zI ((cw : Int) - 2 * cr + cf)), .int (nI (cn - 1)), .int (nI bs2)])), (ab, .inl (cI, 5, .inl (aN bc2))), (ap, .inl (cI, 5, .inl (aN pi1))), (aq, .inl (cI, 6, .inl (aN pf1))), (ac, .inl (cI, 5, .inl (aN ct2))), (v0, .inr (5, [.ref vw, .ref vs, .int (nI cnt)])), (vw, .inl (cI, 5, .inl (aN wd))), (vs, .inl (cI, 5, .inl (aN st)))]) hP hD [0, 1, 2, 3, 4, 6, 7, 8] [5] rfl rfl (by decide) (by decide) hk1 hFc hP1 hD1
    generalize H1 = H at hP hS ⊢
    have hP : va_P (dC, dI) vwCl [(a0, .inr (2, [.ref ab, .int (nI bn2), .int (nI bf), .int (nI kn), .ref ap, .ref aq, .ref ac, .int (zI ((cw : Int) - 2 * cr + cf)), .int (nI (cn - 1)), .int (nI bs2)])), (ab, .inl (cI, 5, .inl (aN bc2))), (ap, .inl (cI, 5, .inl (aN pi1))), (aq, .inl (cI, 6, .inl (aN pf1))), (ac, .inl (cI, 5, .inl (aN ct2))), (k0, .inr (0, [.int (nI cw), .int (nI ck), .int (nI cr), .int (nI cf), .int (nI cn)])), (v0, .inr (5, [.ref vw, .ref vs, .int (nI cnt)])), (vw, .inl (cI, 5, .inl (aN wd))), (vs, .inl (cI, 5, .inl (aN st)))] H := hP.sub [1, 2, 3, 4, 5, 0, 6, 7, 8] rfl
    have hD : va_D A [(a0, .inr (2, [.ref ab, .int (nI bn2), .int (nI bf), .int (nI kn), .ref ap, .ref aq, .ref ac, .int (zI ((cw : Int) - 2 * cr + cf)), .int (nI (cn - 1)), .int (nI bs2)])), (ab, .inl (cI, 5, .inl (aN bc2))), (ap, .inl (cI, 5, .inl (aN pi1))), (aq, .inl (cI, 6, .inl (aN pf1))), (ac, .inl (cI, 5, .inl (aN ct2))), (k0, .inr (0, [.int (nI cw), .int (nI ck), .int (nI cr), .int (nI cf), .int (nI cn)])), (v0, .inr (5, [.ref vw, .ref vs, .int (nI cnt)])), (vw, .inl (cI, 5, .inl (aN wd))), (vs, .inl (cI, 5, .inl (aN st)))] := hD.sub [1, 2, 3, 4, 5, 0, 6, 7, 8] (by decide) rfl
    have hle := tcP_le (pi := pi1) (st := st) (pf := pf1) (room := (cw : Int) - 2 * cr + cf) (most := cn - 1) (B := 20100) (M := 39) (by omega) (by omega) cnt 0 0 0 (0, 0, bc1, ct) (by omega) (by omega) (Nat.zero_le _) (Nat.zero_le _)
    rw [← hw] at hle
    have hle1 : bs2 ≤ 20100 := hle.1
    have hle2 : bn2 ≤ 39 := hle.2
    obtain ⟨hcb, hGo⟩ := search_ok hc5 rfl hM h0 hw
    refine lv_aload_n hx hb d_PS_find_70 rfl (lv_at hl 0 rfl) ?_
    refine lv_aload_n hx hb d_PS_find_71 rfl (lv_at hl 0 rfl) ?_
    refine va_get (D := (dC, dI)) (ci := 2) (v := .int (nI bn2)) (C := R_PS) (T := F_PS) (N := 10) hx hb hts in_PS hown hK hP 0 rfl rfl 1 (by decide) (hts _ m_95) (fun _ h9 => h9) rfl d_PS_find_72 ?_
    refine ix_if_ne (tgt := 82) hx hb (nI_tI (n := bn2) (by omega)) d_PS_find_75 (by decide) (fun c_75 => ?_) (fun c_75 => ?_)
    · refine lv_aload_n hx hb d_PS_find_82 rfl (lv_at hl 0 rfl) ?_
      refine va_get (D := (dC, dI)) (ci := 2) (v := .int (nI bs2)) (C := R_PS) (T := F_PS) (N := 10) hx hb hts in_PS hown hK hP 0 rfl rfl 9 (by decide) (hts _ m_107) (fun _ h9 => h9) rfl d_PS_find_83 ?_
      refine lv_aload_n hx hb d_PS_find_86 rfl (lv_at hl 1 rfl) ?_
      refine va_get (D := (dC, dI)) (ci := 0) (v := .int (nI cf)) (C := R_CO) (T := F_CO) (N := 5) hx hb hts in_CO hown hK hP 5 rfl rfl 3 (by decide) (hts _ m_44) (fun _ h9 => h9) rfl d_PS_find_87 ?_
      refine lv_isub hx hb d_PS_find_90 ?_
      refine lv_topr (show _ = nI (bs2 - cf) from nn_subN (by exact hcb (by omega))) ?_
      refine va_put (D := (dC, dI)) (ci := 2) (v := .int (nI (bs2 - cf))) (ty := .int) (C := R_PS) (T := F_PS) (N := 10) hx hb hts in_PS t_PS t_PS_ok n_PS hown hK hP hD hS 0 rfl rfl 2 (by decide) (hts _ m_97) (fun _ h9 => h9) rfl (by decide +kernel) rfl rfl (Nat.le_of_ble_eq_true rfl) d_PS_find_91 (fun H locs hP hD hS => ?_)
      have hP : va_P (dC, dI) vwCl [(a0, .inr (2, [.ref ab, .int (nI bn2), .int (nI (bs2 - cf)), .int (nI kn), .ref ap, .ref aq, .ref ac, .int (zI ((cw : Int) - 2 * cr + cf)), .int (nI (cn - 1)), .int (nI bs2)])), (ab, .inl (cI, 5, .inl (aN bc2))), (ap, .inl (cI, 5, .inl (aN pi1))), (aq, .inl (cI, 6, .inl (aN pf1))), (ac, .inl (cI, 5, .inl (aN ct2))), (k0, .inr (0, [.int (nI cw), .int (nI ck), .int (nI cr), .int (nI cf), .int (nI cn)])), (v0, .inr (5, [.ref vw, .ref vs, .int (nI cnt)])), (vw, .inl (cI, 5, .inl (aN wd))), (vs, .inl (cI, 5, .inl (aN st)))] H := hP
      have hD : va_D A [(a0, .inr (2, [.ref ab, .int (nI bn2), .int (nI (bs2 - cf)), .int (nI kn), .ref ap, .ref aq, .ref ac, .int (zI ((cw : Int) - 2 * cr + cf)), .int (nI (cn - 1)), .int (nI bs2)])), (ab, .inl (cI, 5, .inl (aN bc2))), (ap, .inl (cI, 5, .inl (aN pi1))), (aq, .inl (cI, 6, .inl (aN pf1))), (ac, .inl (cI, 5, .inl (aN ct2))), (k0, .inr (0, [.int (nI cw), .int (nI ck), .int (nI cr), .int (nI cf), .int (nI cn)])), (v0, .inr (5, [.ref vw, .ref vs, .int (nI cnt)])), (vw, .inl (cI, 5, .inl (aN wd))), (vs, .inl (cI, 5, .inl (aN st)))] := hD
      refine lv_aload_n hx hb d_PS_find_94 rfl (lv_at hl 0 rfl) ?_
      refine lv_iconst (v := nI 1) hx hb d_PS_find_95 (by decide +kernel) ?_
      refine va_put (D := (dC, dI)) (ci := 2) (v := .int (nI 1)) (ty := .boolean) (C := R_PS) (T := F_PS) (N := 10) hx hb hts in_PS t_PS t_PS_ok n_PS hown hK hP hD hS 0 rfl rfl 3 (by decide) (hts _ m_100) (fun _ h9 => h9) rfl (by decide +kernel) (by decide +kernel) (by decide +kernel) (Nat.le_of_ble_eq_true rfl) d_PS_find_96 (fun H locs hP hD hS => ?_)
      have hP : va_P (dC, dI) vwCl [(a0, .inr (2, [.ref ab, .int (nI bn2), .int (nI (bs2 - cf)), .int (nI 1), .ref ap, .ref aq, .ref ac, .int (zI ((cw : Int) - 2 * cr + cf)), .int (nI (cn - 1)), .int (nI bs2)])), (ab, .inl (cI, 5, .inl (aN bc2))), (ap, .inl (cI, 5, .inl (aN pi1))), (aq, .inl (cI, 6, .inl (aN pf1))), (ac, .inl (cI, 5, .inl (aN ct2))), (k0, .inr (0, [.int (nI cw), .int (nI ck), .int (nI cr), .int (nI cf), .int (nI cn)])), (v0, .inr (5, [.ref vw, .ref vs, .int (nI cnt)])), (vw, .inl (cI, 5, .inl (aN wd))), (vs, .inl (cI, 5, .inl (aN st)))] H := hP
      have hD : va_D A [(a0, .inr (2, [.ref ab, .int (nI bn2), .int (nI (bs2 - cf)), .int (nI 1), .ref ap, .ref aq, .ref ac, .int (zI ((cw : Int) - 2 * cr + cf)), .int (nI (cn - 1)), .int (nI bs2)])), (ab, .inl (cI, 5, .inl (aN bc2))), (ap, .inl (cI, 5, .inl (aN pi1))), (aq, .inl (cI, 6, .inl (aN pf1))), (ac, .inl (cI, 5, .inl (aN ct2))), (k0, .inr (0, [.int (nI cw), .int (nI ck), .int (nI cr), .int (nI cf), .int (nI cn)])), (v0, .inr (5, [.ref vw, .ref vs, .int (nI cnt)])), (vw, .inl (cI, 5, .inl (aN wd))), (vs, .inl (cI, 5, .inl (aN st)))] := hD
      exact W.vret hx hb hr (fun t ht hW => ⟨⟨(bn2, bs2 - cf, 1, (cw : Int) - 2 * cr + cf, cn - 1, bs2, bc2, pi1, pf1, ct2), rfl, ⟨rfl, by have := hGo; rw [if_neg (by omega)] at this; exact this⟩, by rw [ht]; exact hP, va_K.moved hW.alike hK, hD⟩, hS.F ht⟩) hS.2.2 d_PS_find_99
    refine lv_iconst (v := nI 0) hx hb d_PS_find_78 (by decide +kernel) ?_
    refine lv_goto (tgt := 91) hx hb d_PS_find_79 (by decide) ?_
    refine va_put (D := (dC, dI)) (ci := 2) (v := .int (nI 0)) (ty := .int) (C := R_PS) (T := F_PS) (N := 10) hx hb hts in_PS t_PS t_PS_ok n_PS hown hK hP hD hS 0 rfl rfl 2 (by decide) (hts _ m_97) (fun _ h9 => h9) rfl (by decide +kernel) rfl rfl (Nat.le_of_ble_eq_true rfl) d_PS_find_91 (fun H locs hP hD hS => ?_)
    have hP : va_P (dC, dI) vwCl [(a0, .inr (2, [.ref ab, .int (nI bn2), .int (nI 0), .int (nI kn), .ref ap, .ref aq, .ref ac, .int (zI ((cw : Int) - 2 * cr + cf)), .int (nI (cn - 1)), .int (nI bs2)])), (ab, .inl (cI, 5, .inl (aN bc2))), (ap, .inl (cI, 5, .inl (aN pi1))), (aq, .inl (cI, 6, .inl (aN pf1))), (ac, .inl (cI, 5, .inl (aN ct2))), (k0, .inr (0, [.int (nI cw), .int (nI ck), .int (nI cr), .int (nI cf), .int (nI cn)])), (v0, .inr (5, [.ref vw, .ref vs, .int (nI cnt)])), (vw, .inl (cI, 5, .inl (aN wd))), (vs, .inl (cI, 5, .inl (aN st)))] H := hP
    have hD : va_D A [(a0, .inr (2, [.ref ab, .int (nI bn2), .int (nI 0), .int (nI kn), .ref ap, .ref aq, .ref ac, .int (zI ((cw : Int) - 2 * cr + cf)), .int (nI (cn - 1)), .int (nI bs2)])), (ab, .inl (cI, 5, .inl (aN bc2))), (ap, .inl (cI, 5, .inl (aN pi1))), (aq, .inl (cI, 6, .inl (aN pf1))), (ac, .inl (cI, 5, .inl (aN ct2))), (k0, .inr (0, [.int (nI cw), .int (nI ck), .int (nI cr), .int (nI cf), .int (nI cn)])), (v0, .inr (5, [.ref vw, .ref vs, .int (nI cnt)])), (vw, .inl (cI, 5, .inl (aN wd))), (vs, .inl (cI, 5, .inl (aN st)))] := hD
    refine lv_aload_n hx hb d_PS_find_94 rfl (lv_at hl 0 rfl) ?_
    refine lv_iconst (v := nI 1) hx hb d_PS_find_95 (by decide +kernel) ?_
    refine va_put (D := (dC, dI)) (ci := 2) (v := .int (nI 1)) (ty := .boolean) (C := R_PS) (T := F_PS) (N := 10) hx hb hts in_PS t_PS t_PS_ok n_PS hown hK hP hD hS 0 rfl rfl 3 (by decide) (hts _ m_100) (fun _ h9 => h9) rfl (by decide +kernel) (by decide +kernel) (by decide +kernel) (Nat.le_of_ble_eq_true rfl) d_PS_find_96 (fun H locs hP hD hS => ?_)
    have hP : va_P (dC, dI) vwCl [(a0, .inr (2, [.ref ab, .int (nI bn2), .int (nI 0), .int (nI 1), .ref ap, .ref aq, .ref ac, .int (zI ((cw : Int) - 2 * cr + cf)), .int (nI (cn - 1)), .int (nI bs2)])), (ab, .inl (cI, 5, .inl (aN bc2))), (ap, .inl (cI, 5, .inl (aN pi1))), (aq, .inl (cI, 6, .inl (aN pf1))), (ac, .inl (cI, 5, .inl (aN ct2))), (k0, .inr (0, [.int (nI cw), .int (nI ck), .int (nI cr), .int (nI cf), .int (nI cn)])), (v0, .inr (5, [.ref vw, .ref vs, .int (nI cnt)])), (vw, .inl (cI, 5, .inl (aN wd))), (vs, .inl (cI, 5, .inl (aN st)))] H := hP
    have hD : va_D A [(a0, .inr (2, [.ref ab, .int (nI bn2), .int (nI 0), .int (nI 1), .ref ap, .ref aq, .ref ac, .int (zI ((cw : Int) - 2 * cr + cf)), .int (nI (cn - 1)), .int (nI bs2)])), (ab, .inl (cI, 5, .inl (aN bc2))), (ap, .inl (cI, 5, .inl (aN pi1))), (aq, .inl (cI, 6, .inl (aN pf1))), (ac, .inl (cI, 5, .inl (aN ct2))), (k0, .inr (0, [.int (nI cw), .int (nI ck), .int (nI cr), .int (nI cf), .int (nI cn)])), (v0, .inr (5, [.ref vw, .ref vs, .int (nI cnt)])), (vw, .inl (cI, 5, .inl (aN wd))), (vs, .inl (cI, 5, .inl (aN st)))] := hD
    exact W.vret hx hb hr (fun t ht hW => ⟨⟨(bn2, 0, 1, (cw : Int) - 2 * cr + cf, cn - 1, bs2, bc2, pi1, pf1, ct2), rfl, ⟨rfl, by have := hGo; rw [if_pos (by omega)] at this; exact this⟩, by rw [ht]; exact hP, va_K.moved hW.alike hK, hD⟩, hS.F ht⟩) hS.2.2 d_PS_find_99
  exact W.vret hx hb hr (fun t ht hW => ⟨⟨(bn, bf, kn, room, most, bs, bc, pi, pf, ct), rfl, hk.resolve_left (by omega), by rw [ht]; exact hP, va_K.moved hW.alike hK, hD⟩, hS.F ht⟩) hS.2.2 d_PS_find_7
end
section
/-! the strips and knives of a set-up -/
def skn (kc : Nat) (kp : Nat → Nat) (x : Nat) : Nat × (Nat → Nat) := if 0 < kc ∧ kp (kc - 1) = x then (kc, kp) else (kc + 1, up kp kc x)
theorem skn_in {kc : Nat} {kp : Nat → Nat} {x : Nat} (h : 0 < kc ∧ kp (kc - 1) = x) : skn kc kp x = (kc, kp) := if_pos h
theorem skn_out {kc : Nat} {kp : Nat → Nat} {x : Nat} (h : ¬ (0 < kc ∧ kp (kc - 1) = x)) : skn kc kp x = (kc + 1, up kp kc x) := if_neg h
/-- a strip's begin is the end of the one before -/
def joi (bg en : Nat → Nat) (k : Nat) : Prop := 0 < k ∧ en (k - 1) = bg k
def joiB (bg en : Nat → Nat) (k : Nat) : Bool := decide (0 < k) && en (k - 1) == bg k
theorem joiB_iff {bg en : Nat → Nat} {k : Nat} : joiB bg en k = true ↔ joi bg en k := by simp [joiB, joi]
/-- how many knives the first k strips have -/
def kq (bg en : Nat → Nat) : Nat → Nat
  | 0 => 0
  | k + 1 => kq bg en k + (if joiB bg en k = true then 0 else 1) + 1
def KN (bg en : Nat → Nat) (sc kc : Nat) (kp : Nat → Nat) : Prop := kc = kq bg en sc ∧ ∀ k, k < sc → (joi bg en k → kp (kq bg en k - 1) = bg k) ∧ (¬ joi bg en k → kp (kq bg en k) = bg k) ∧ kp (kq bg en (k + 1) - 1) = en k
/-- the strips laid so far: numbers rise through the counts, each begins a kerf behind the one before -/
def LYI (bc wd : Nat → Nat) (cf sc : Nat) (nu bg en : Nat → Nat) : Prop := ∀ k, k < sc → (sumN bc (nu k) ≤ k ∧ k < sumN bc (nu k + 1)) ∧ bg k = sumN (fun j => wd (nu j) + cf) k ∧ en k = bg k + wd (nu k)
theorem kq_congr {bg en bg' en' : Nat → Nat} : ∀ {k : Nat}, (∀ j, j < k → bg j = bg' j ∧ en j = en' j) → kq bg en k = kq bg' en' k
  | 0, _ => rfl
  | k + 1, h => by
    have h1 := h k (by omega)
    have e : joiB bg en k = joiB bg' en' k := by
      unfold joiB
      by_cases h0 : 0 < k
      · rw [h1.1, (h (k - 1) (by omega)).2]
      · simp [h0]
    rw [kq, kq, kq_congr (fun j hj => h j (by omega)), e]
theorem kq_ge (bg en : Nat → Nat) : ∀ k, k ≤ kq bg en k ∧ kq bg en k ≤ 2 * k
  | 0 => ⟨Nat.le_refl _, Nat.le_refl _⟩
  | k + 1 => by
    have := kq_ge bg en k
    rw [kq]
    split <;> omega
theorem kq_S (bg en : Nat → Nat) (k : Nat) : kq bg en k < kq bg en (k + 1) := by
  rw [kq]
  omega
theorem kq_mono {bg en : Nat → Nat} {a b : Nat} (h : a ≤ b) : kq bg en a ≤ kq bg en b := by
  induction b with
  | zero => rw [show a = 0 by omega]; exact Nat.le_refl _
  | succ b ih =>
    by_cases e : a = b + 1
    · rw [e]; exact Nat.le_refl _
    · have := ih (by omega)
      have := kq_S bg en b
      omega
theorem joi_up {bg en : Nat → Nat} {sc b2 e2 k : Nat} (h : k ≤ sc) : joi (up bg sc b2) (up en sc e2) k ↔ (if k = sc then 0 < sc ∧ en (sc - 1) = b2 else joi bg en k) := by
  unfold joi
  by_cases e : k = sc
  · subst e
    rw [if_pos rfl, up_s]
    by_cases h0 : 0 < k
    · rw [up_n en e2 (by omega)]
    · constructor <;> intro g <;> omega
  · rw [if_neg e, up_n bg b2 e]
    by_cases h0 : 0 < k
    · rw [up_n en e2 (by omega)]
    · constructor <;> intro g <;> omega
/-- one strip more: its two places come behind the others -/
theorem KN.push {bg en : Nat → Nat} {sc kc : Nat} {kp : Nat → Nat} (h : KN bg en sc kc kp) {b2 e2 : Nat} (hbe : b2 < e2) : KN (up bg sc b2) (up en sc e2) (sc + 1) (skn (skn kc kp b2).1 (skn kc kp b2).2 e2).1 (skn (skn kc kp b2).1 (skn kc kp b2).2 e2).2 := by
  obtain ⟨hk, hp⟩ := h
  have ek : ∀ k, k ≤ sc → kq (up bg sc b2) (up en sc e2) k = kq bg en k := fun k hk => (kq_congr (fun j hj => ⟨(up_n _ _ (by omega)).symm, (up_n _ _ (by omega)).symm⟩)).symm
  have hlast : 0 < sc → 0 < kc ∧ kp (kc - 1) = en (sc - 1) := fun h0 => by
    have h1 := (hp (sc - 1) (by omega)).2.2
    rw [show sc - 1 + 1 = sc by omega, ← hk] at h1
    have := kq_ge bg en sc
    exact ⟨by omega, h1⟩
  have hz : sc = 0 → kc = 0 := fun h0 => by rw [hk, h0]; rfl
  have hj : joi (up bg sc b2) (up en sc e2) sc ↔ (0 < kc ∧ kp (kc - 1) = b2) := by
    rw [joi_up (Nat.le_refl _), if_pos rfl]
    by_cases h0 : 0 < sc
    · have := hlast h0
      constructor
      · intro g; exact ⟨this.1, by rw [this.2]; exact g.2⟩
      · intro g; exact ⟨h0, by rw [← this.2]; exact g.2⟩
    · have := hz (by omega)
      constructor <;> intro g <;> omega
  have key : ∀ k1 kp1, skn kc kp b2 = (k1, kp1) → k1 = kc + (if joiB (up bg sc b2) (up en sc e2) sc = true then 0 else 1) ∧ (∀ i, i < kc → kp1 i = kp i) ∧ 0 < k1 ∧ kp1 (k1 - 1) = b2 := by
    intro k1 kp1 e
    by_cases hin : 0 < kc ∧ kp (kc - 1) = b2
    · rw [skn_in hin] at e
      cases e
      rw [if_pos (joiB_iff.mpr (hj.mpr hin))]
      exact ⟨rfl, fun _ _ => rfl, hin.1, hin.2⟩
    · rw [skn_out hin] at e
      cases e
      rw [if_neg (fun g => hin (hj.mp (joiB_iff.mp g)))]
      exact ⟨rfl, fun i hi => up_n _ _ (by omega), by omega, by rw [show kc + 1 - 1 = kc by omega, up_s]⟩
  rcases hq : skn kc kp b2 with ⟨k1, kp1⟩
  obtain ⟨g1, g2, g3, g4⟩ := key k1 kp1 hq
  dsimp only
  rw [skn_out (show ¬ (0 < k1 ∧ kp1 (k1 - 1) = e2) by omega)]
  dsimp only
  refine ⟨?_, fun k hks => ?_⟩
  · rw [kq, ek sc (Nat.le_refl _), ← hk, g1]
  · by_cases e : k = sc
    · subst e
      rw [ek k (Nat.le_refl _), up_s, up_s]
      refine ⟨fun g => ?_, fun g => ?_, ?_⟩
      · have hin := hj.mp g
        rw [if_pos (joiB_iff.mpr g)] at g1
        rw [← hk, up_n _ _ (by omega), g2 _ (by omega)]
        exact hin.2
      · rw [if_neg (fun q => g (joiB_iff.mp q))] at g1
        rw [← hk, up_n _ _ (by omega)]
        rw [g1, show kc + 1 - 1 = kc by omega] at g4
        exact g4
      · rw [kq, ek k (Nat.le_refl _), ← hk, ← g1, show k1 + 1 - 1 = k1 by omega, up_s]
    · have hk2 : k < sc := by omega
      obtain ⟨p1, p2, p3⟩ := hp k hk2
      have q1 := kq_S bg en k
      have q2 : kq bg en (k + 1) ≤ kc := by rw [hk]; exact kq_mono hk2
      have q0 := kq_ge bg en k
      rw [ek k (by omega), ek (k + 1) (by omega), up_n bg b2 e, up_n en e2 e, joi_up (by omega), if_neg e]
      refine ⟨fun g => ?_, fun g => ?_, ?_⟩
      · rw [up_n _ _ (by omega), g2 _ (by omega)]; exact p1 g
      · rw [up_n _ _ (by omega), g2 _ (by omega)]; exact p2 g
      · rw [up_n _ _ (by omega), g2 _ (by omega)]; exact p3
theorem LYI.push {bc wd : Nat → Nat} {cf sc : Nat} {nu bg en : Nat → Nat} (h : LYI bc wd cf sc nu bg en) {w x : Nat} (h1 : sumN bc w ≤ sc) (h2 : sc < sumN bc (w + 1)) (hx : x = sumN (fun j => wd (nu j) + cf) sc) :
    LYI bc wd cf (sc + 1) (up nu sc w) (up bg sc x) (up en sc (x + wd w)) ∧ x + (wd w + cf) = sumN (fun j => wd (up nu sc w j) + cf) (sc + 1) := by
  have es : ∀ k, k ≤ sc → sumN (fun j => wd (up nu sc w j) + cf) k = sumN (fun j => wd (nu j) + cf) k := fun k hk => sumN_congr (fun j hj => by rw [up_n _ _ (by omega)])
  refine ⟨fun k hk => ?_, ?_⟩
  · by_cases e : k = sc
    · subst e
      rw [up_s, up_s, up_s, es k (Nat.le_refl _)]
      exact ⟨⟨h1, h2⟩, hx, rfl⟩
    · obtain ⟨a, b, d⟩ := h k (by omega)
      rw [up_n _ _ e, up_n _ _ e, up_n _ _ e, es k (by omega)]
      exact ⟨a, b, d⟩
  · rw [sumN, es sc (Nat.le_refl _), up_s, ← hx]
theorem skn_le (kc : Nat) (kp : Nat → Nat) (x : Nat) : (skn kc kp x).1 ≤ kc + 1 ∧ 0 < (skn kc kp x).1 ∧ (skn kc kp x).2 ((skn kc kp x).1 - 1) = x := by
  by_cases h : 0 < kc ∧ kp (kc - 1) = x
  · rw [skn_in h]
    exact ⟨by dsimp only; omega, h.1, h.2⟩
  · rw [skn_out h]
    exact ⟨Nat.le_refl _, by dsimp only; omega, by dsimp only; rw [show kc + 1 - 1 = kc by omega, up_s]⟩
end
section
set_option maxHeartbeats 4000000 in
set_option maxRecDepth 100000 in
/-- setKnife(place) -/
theorem c_SU_setKnife (l : Launch) (dC : Nat → ClassId) (dI : Nat → Nat → Nat) (sz : Nat) (o on ob oe ok : Nat) (cI : ClassId) (kp : Nat → Nat) (sc lf kc wi kg tr sp : Nat) (x9 : Nat) (h1 : kc < 60) (h2 : x9 < 2147483648) (h3 : 0 < kc → kp (kc - 1) < 2147483648) : Met l y_SU_setKnife w_SU_setKnife { frames := 0, cells := 0, slots := 0, locals := 0 } (rw_Pc (dC, dI) vwCl [(cI, .int)] sz [.ref o, .int (nI x9)] [(o, .inr (4, [.ref on, .ref ob, .ref oe, .int (nI sc), .int (nI lf), .ref ok, .int (nI kc), .int (nI wi), .int (nI kg), .int (nI tr), .int (nI sp)])), (ok, .inl (cI, 60, .inl (aN kp)))]) (va_Qv (fun (u : Nat × (Nat → Nat)) => (u.1, u.2) = skn kc kp x9) (rw_B (dC, dI) vwCl [(cI, .int)] (va_A [(o, .inr (4, [.ref on, .ref ob, .ref oe, .int (nI sc), .int (nI lf), .ref ok, .int (nI kc), .int (nI wi), .int (nI kg), .int (nI tr), .int (nI sp)])), (ok, .inl (cI, 60, .inl (aN kp)))] sz) (fun u : Nat × (Nat → Nat) => [(o, .inr (4, [.ref on, .ref ob, .ref oe, .int (nI sc), .int (nI lf), .ref ok, .int (nI u.1), .int (nI wi), .int (nI kg), .int (nI tr), .int (nI sp)])), (ok, .inl (cI, 60, .inl (aN u.2)))])) (va_A [(o, .inr (4, [.ref on, .ref ob, .ref oe, .int (nI sc), .int (nI lf), .ref ok, .int (nI kc), .int (nI wi), .int (nI kg), .int (nI tr), .int (nI sp)])), (ok, .inl (cI, 60, .inl (aN kp)))] sz)) 0 0 (va_A [(o, .inr (4, [.ref on, .ref ob, .ref oe, .int (nI sc), .int (nI lf), .ref ok, .int (nI kc), .int (nI wi), .int (nI kg), .int (nI tr), .int (nI sp)])), (ok, .inl (cI, 60, .inl (aN kp)))] sz) := by
  refine Met.ofW (cc := b_SU_setKnife) (maxL := 3) (ret := none) (by decide) rfl ?_
  intro p e s m args below meth c s₁ B hml hv
  obtain ⟨rfl, hsz, hP, hK, hD0⟩ := hv
  have hx := B.exec
  have hb := B.bytes
  have hr := B.returns
  have hts := gw_h (atoms_spec (ws := w_SU_setKnife) B.pre)
  have hown : s.vm.findClass R_SU = some m.cls := findClass_of_methodNamed B.named
  have hlocks := B.notSynchronized
  subst hsz
  have hD := hD0.self (sz := s.heap.size)
  generalize hAe : va_A [(o, .inr (4, [.ref on, .ref ob, .ref oe, .int (nI sc), .int (nI lf), .ref ok, .int (nI kc), .int (nI wi), .int (nI kg), .int (nI tr), .int (nI sp)])), (ok, .inl (cI, 60, .inl (aN kp)))] s.heap.size = A at hD ⊢
  have hA : ∀ q : Nat, s.heap.size ≤ q → A q := fun q h => by rw [← hAe]; exact Or.inr h
  have hS : va_S A s.heap s.heap [] := va_S.rf
  have hP : va_P (dC, dI) vwCl [(o, .inr (4, [.ref on, .ref ob, .ref oe, .int (nI sc), .int (nI lf), .ref ok, .int (nI kc), .int (nI wi), .int (nI kg), .int (nI tr), .int (nI sp)])), (ok, .inl (cI, 60, .inl (aN kp)))] s.heap := hP
  have hl := lv_entry ([.ref o, .int (nI x9)]) (n := 3) (Nat.le_of_ble_eq_true rfl)
  rw [lg_entry_eq]
  generalize (lg_sl ([.ref o, .int (nI x9)]) ++ List.replicate (3 - (lg_sl ([.ref o, .int (nI x9)])).length) Slot.unset).toArray = ls at hl ⊢
  have hl : lv_has ls 3 [(0, .ref o), (1, .int (nI x9))] := hl
  refine lv_aload_n hx hb d_SU_setKnife_0 rfl (lv_at hl 0 rfl) ?_
  refine va_get (D := (dC, dI)) (ci := 4) (v := .int (nI kc)) (C := R_SU) (T := F_SU) (N := 11) hx hb hts in_SU hown hK hP 0 rfl rfl 6 (by decide) (hts _ m_194) (fun _ h9 => h9) rfl d_SU_setKnife_1 ?_
  refine ix_if_le (tgt := 26) hx hb (nI_tI (n := kc) (by omega)) d_SU_setKnife_4 (by decide) (fun c_4 => ?_) (fun c_4 => ?_)
  · refine lv_iconst (v := nI 0) hx hb d_SU_setKnife_26 (by decide +kernel) ?_
    refine lv_istore_n (lv' := [(2, .int (nI 0)), (0, .ref o), (1, .int (nI x9))]) hx hb d_SU_setKnife_27 rfl hl (by decide) rfl (fun ls hl => ?_)
    refine lv_iload_n hx hb d_SU_setKnife_28 rfl (lv_at hl 0 rfl) ?_
    refine ix_if_ne (tgt := 64) hx hb (nI_tI (n := 0) (by omega)) d_SU_setKnife_29 (by decide) (fun c_29 => absurd c_29 (by omega)) (fun c_29 => ?_)
    refine lv_aload_n hx hb d_SU_setKnife_32 rfl (lv_at hl 1 rfl) ?_
    refine va_get (D := (dC, dI)) (ci := 4) (v := .int (nI kc)) (C := R_SU) (T := F_SU) (N := 11) hx hb hts in_SU hown hK hP 0 rfl rfl 6 (by decide) (hts _ m_194) (fun _ h9 => h9) rfl d_SU_setKnife_33 ?_
    refine lv_aload_n hx hb d_SU_setKnife_36 rfl (lv_at hl 1 rfl) ?_
    refine va_get (D := (dC, dI)) (ci := 4) (v := .ref ok) (C := R_SU) (T := F_SU) (N := 11) hx hb hts in_SU hown hK hP 0 rfl rfl 5 (by decide) (hts _ m_193) (fun _ h9 => h9) rfl d_SU_setKnife_37 ?_
    refine va_alen (v := nI 60) hx hb hK hP 1 0 rfl rfl rfl d_SU_setKnife_40 ?_
    refine ix_icmp_ge (tgt := 64) hx hb (nI_tI (n := kc) (by omega)) (nI_tI (n := 60) (by omega)) d_SU_setKnife_41 (by decide) (fun c_41 => absurd c_41 (by omega)) (fun c_41 => ?_)
    refine lv_aload_n hx hb d_SU_setKnife_44 rfl (lv_at hl 1 rfl) ?_
    refine va_get (D := (dC, dI)) (ci := 4) (v := .ref ok) (C := R_SU) (T := F_SU) (N := 11) hx hb hts in_SU hown hK hP 0 rfl rfl 5 (by decide) (hts _ m_193) (fun _ h9 => h9) rfl d_SU_setKnife_45 ?_
    refine lv_aload_n hx hb d_SU_setKnife_48 rfl (lv_at hl 1 rfl) ?_
    refine va_get (D := (dC, dI)) (ci := 4) (v := .int (nI kc)) (C := R_SU) (T := F_SU) (N := 11) hx hb hts in_SU hown hK hP 0 rfl rfl 6 (by decide) (hts _ m_194) (fun _ h9 => h9) rfl d_SU_setKnife_49 ?_
    refine lv_iload_n hx hb d_SU_setKnife_52 rfl (lv_at hl 2 rfl) ?_
    refine ix_iast (i := kc) hx hb hK hP hD hS 1 0 rfl rfl (by omega) (by decide) d_SU_setKnife_53 (fun H locs hP hD hS => ?_)
    have hP : va_P (dC, dI) vwCl [(o, .inr (4, [.ref on, .ref ob, .ref oe, .int (nI sc), .int (nI lf), .ref ok, .int (nI kc), .int (nI wi), .int (nI kg), .int (nI tr), .int (nI sp)])), (ok, .inl (cI, 60, .inl (aN (up kp kc x9))))] H := hP
    have hD : va_D A [(o, .inr (4, [.ref on, .ref ob, .ref oe, .int (nI sc), .int (nI lf), .ref ok, .int (nI kc), .int (nI wi), .int (nI kg), .int (nI tr), .int (nI sp)])), (ok, .inl (cI, 60, .inl (aN (up kp kc x9))))] := hD
    refine lv_aload_n hx hb d_SU_setKnife_54 rfl (lv_at hl 1 rfl) ?_
    refine lv_dup hx hb d_SU_setKnife_55 rfl ?_
    refine va_get (D := (dC, dI)) (ci := 4) (v := .int (nI kc)) (C := R_SU) (T := F_SU) (N := 11) hx hb hts in_SU hown hK hP 0 rfl rfl 6 (by decide) (hts _ m_194) (fun _ h9 => h9) rfl d_SU_setKnife_56 ?_
    refine lv_iconst (v := nI 1) hx hb d_SU_setKnife_59 (by decide +kernel) ?_
    refine lv_iadd hx hb d_SU_setKnife_60 ?_
    refine lv_topr (show _ = nI (kc + 1) from nn_add _ _) ?_
    refine va_put (D := (dC, dI)) (ci := 4) (v := .int (nI (kc + 1))) (ty := .int) (C := R_SU) (T := F_SU) (N := 11) hx hb hts in_SU t_SU t_SU_ok n_SU hown hK hP hD hS 0 rfl rfl 6 (by decide) (hts _ m_194) (fun _ h9 => h9) rfl (by decide +kernel) rfl rfl (Nat.le_of_ble_eq_true rfl) d_SU_setKnife_61 (fun H locs hP hD hS => ?_)
    have hP : va_P (dC, dI) vwCl [(o, .inr (4, [.ref on, .ref ob, .ref oe, .int (nI sc), .int (nI lf), .ref ok, .int (nI (kc + 1)), .int (nI wi), .int (nI kg), .int (nI tr), .int (nI sp)])), (ok, .inl (cI, 60, .inl (aN (up kp kc x9))))] H := hP
    have hD : va_D A [(o, .inr (4, [.ref on, .ref ob, .ref oe, .int (nI sc), .int (nI lf), .ref ok, .int (nI (kc + 1)), .int (nI wi), .int (nI kg), .int (nI tr), .int (nI sp)])), (ok, .inl (cI, 60, .inl (aN (up kp kc x9))))] := hD
    exact W.vret hx hb hr (fun t ht hW => ⟨⟨(kc + 1, up kp kc x9), rfl, (skn_out (kc := kc) (kp := kp) (x := x9) (by omega)).symm, by rw [ht]; exact hP, va_K.moved hW.alike hK, hD⟩, hS.F ht⟩) hS.2.2 d_SU_setKnife_64
  have h3a := h3 (by omega)
  refine lv_aload_n hx hb d_SU_setKnife_7 rfl (lv_at hl 0 rfl) ?_
  refine va_get (D := (dC, dI)) (ci := 4) (v := .ref ok) (C := R_SU) (T := F_SU) (N := 11) hx hb hts in_SU hown hK hP 0 rfl rfl 5 (by decide) (hts _ m_193) (fun _ h9 => h9) rfl d_SU_setKnife_8 ?_
  refine lv_aload_n hx hb d_SU_setKnife_11 rfl (lv_at hl 0 rfl) ?_
  refine va_get (D := (dC, dI)) (ci := 4) (v := .int (nI kc)) (C := R_SU) (T := F_SU) (N := 11) hx hb hts in_SU hown hK hP 0 rfl rfl 6 (by decide) (hts _ m_194) (fun _ h9 => h9) rfl d_SU_setKnife_12 ?_
  refine lv_iconst (v := nI 1) hx hb d_SU_setKnife_15 (by decide +kernel) ?_
  refine lv_isub hx hb d_SU_setKnife_16 ?_
  refine lv_topr (show _ = nI (kc - 1) from nn_subN (by omega)) ?_
  refine ix_ialdN (i := kc - 1) hx hb hK hP 1 0 rfl rfl (by omega) (by decide) d_SU_setKnife_17 ?_
  refine lv_iload_n hx hb d_SU_setKnife_18 rfl (lv_at hl 1 rfl) ?_
  refine ix_icmp_ne (tgt := 26) hx hb (nI_tI (n := kp (kc - 1)) (by omega)) (nI_tI (n := x9) (by omega)) d_SU_setKnife_19 (by decide) (fun c_19 => ?_) (fun c_19 => ?_)
  · refine lv_iconst (v := nI 0) hx hb d_SU_setKnife_26 (by decide +kernel) ?_
    refine lv_istore_n (lv' := [(2, .int (nI 0)), (0, .ref o), (1, .int (nI x9))]) hx hb d_SU_setKnife_27 rfl hl (by decide) rfl (fun ls hl => ?_)
    refine lv_iload_n hx hb d_SU_setKnife_28 rfl (lv_at hl 0 rfl) ?_
    refine ix_if_ne (tgt := 64) hx hb (nI_tI (n := 0) (by omega)) d_SU_setKnife_29 (by decide) (fun c_29 => absurd c_29 (by omega)) (fun c_29 => ?_)
    refine lv_aload_n hx hb d_SU_setKnife_32 rfl (lv_at hl 1 rfl) ?_
    refine va_get (D := (dC, dI)) (ci := 4) (v := .int (nI kc)) (C := R_SU) (T := F_SU) (N := 11) hx hb hts in_SU hown hK hP 0 rfl rfl 6 (by decide) (hts _ m_194) (fun _ h9 => h9) rfl d_SU_setKnife_33 ?_
    refine lv_aload_n hx hb d_SU_setKnife_36 rfl (lv_at hl 1 rfl) ?_
    refine va_get (D := (dC, dI)) (ci := 4) (v := .ref ok) (C := R_SU) (T := F_SU) (N := 11) hx hb hts in_SU hown hK hP 0 rfl rfl 5 (by decide) (hts _ m_193) (fun _ h9 => h9) rfl d_SU_setKnife_37 ?_
    refine va_alen (v := nI 60) hx hb hK hP 1 0 rfl rfl rfl d_SU_setKnife_40 ?_
    refine ix_icmp_ge (tgt := 64) hx hb (nI_tI (n := kc) (by omega)) (nI_tI (n := 60) (by omega)) d_SU_setKnife_41 (by decide) (fun c_41 => absurd c_41 (by omega)) (fun c_41 => ?_)
    refine lv_aload_n hx hb d_SU_setKnife_44 rfl (lv_at hl 1 rfl) ?_
    refine va_get (D := (dC, dI)) (ci := 4) (v := .ref ok) (C := R_SU) (T := F_SU) (N := 11) hx hb hts in_SU hown hK hP 0 rfl rfl 5 (by decide) (hts _ m_193) (fun _ h9 => h9) rfl d_SU_setKnife_45 ?_
    refine lv_aload_n hx hb d_SU_setKnife_48 rfl (lv_at hl 1 rfl) ?_
    refine va_get (D := (dC, dI)) (ci := 4) (v := .int (nI kc)) (C := R_SU) (T := F_SU) (N := 11) hx hb hts in_SU hown hK hP 0 rfl rfl 6 (by decide) (hts _ m_194) (fun _ h9 => h9) rfl d_SU_setKnife_49 ?_
    refine lv_iload_n hx hb d_SU_setKnife_52 rfl (lv_at hl 2 rfl) ?_
    refine ix_iast (i := kc) hx hb hK hP hD hS 1 0 rfl rfl (by omega) (by decide) d_SU_setKnife_53 (fun H locs hP hD hS => ?_)
    have hP : va_P (dC, dI) vwCl [(o, .inr (4, [.ref on, .ref ob, .ref oe, .int (nI sc), .int (nI lf), .ref ok, .int (nI kc), .int (nI wi), .int (nI kg), .int (nI tr), .int (nI sp)])), (ok, .inl (cI, 60, .inl (aN (up kp kc x9))))] H := hP
    have hD : va_D A [(o, .inr (4, [.ref on, .ref ob, .ref oe, .int (nI sc), .int (nI lf), .ref ok, .int (nI kc), .int (nI wi), .int (nI kg), .int (nI tr), .int (nI sp)])), (ok, .inl (cI, 60, .inl (aN (up kp kc x9))))] := hD
    refine lv_aload_n hx hb d_SU_setKnife_54 rfl (lv_at hl 1 rfl) ?_
    refine lv_dup hx hb d_SU_setKnife_55 rfl ?_
    refine va_get (D := (dC, dI)) (ci := 4) (v := .int (nI kc)) (C := R_SU) (T := F_SU) (N := 11) hx hb hts in_SU hown hK hP 0 rfl rfl 6 (by decide) (hts _ m_194) (fun _ h9 => h9) rfl d_SU_setKnife_56 ?_
    refine lv_iconst (v := nI 1) hx hb d_SU_setKnife_59 (by decide +kernel) ?_
    refine lv_iadd hx hb d_SU_setKnife_60 ?_
    refine lv_topr (show _ = nI (kc + 1) from nn_add _ _) ?_
    refine va_put (D := (dC, dI)) (ci := 4) (v := .int (nI (kc + 1))) (ty := .int) (C := R_SU) (T := F_SU) (N := 11) hx hb hts in_SU t_SU t_SU_ok n_SU hown hK hP hD hS 0 rfl rfl 6 (by decide) (hts _ m_194) (fun _ h9 => h9) rfl (by decide +kernel) rfl rfl (Nat.le_of_ble_eq_true rfl) d_SU_setKnife_61 (fun H locs hP hD hS => ?_)
    have hP : va_P (dC, dI) vwCl [(o, .inr (4, [.ref on, .ref ob, .ref oe, .int (nI sc), .int (nI lf), .ref ok, .int (nI (kc + 1)), .int (nI wi), .int (nI kg), .int (nI tr), .int (nI sp)])), (ok, .inl (cI, 60, .inl (aN (up kp kc x9))))] H := hP
    have hD : va_D A [(o, .inr (4, [.ref on, .ref ob, .ref oe, .int (nI sc), .int (nI lf), .ref ok, .int (nI (kc + 1)), .int (nI wi), .int (nI kg), .int (nI tr), .int (nI sp)])), (ok, .inl (cI, 60, .inl (aN (up kp kc x9))))] := hD
    exact W.vret hx hb hr (fun t ht hW => ⟨⟨(kc + 1, up kp kc x9), rfl, (skn_out (kc := kc) (kp := kp) (x := x9) (by omega)).symm, by rw [ht]; exact hP, va_K.moved hW.alike hK, hD⟩, hS.F ht⟩) hS.2.2 d_SU_setKnife_64
  refine lv_iconst (v := nI 1) hx hb d_SU_setKnife_22 (by decide +kernel) ?_
  refine lv_goto (tgt := 27) hx hb d_SU_setKnife_23 (by decide) ?_
  refine lv_istore_n (lv' := [(2, .int (nI 1)), (0, .ref o), (1, .int (nI x9))]) hx hb d_SU_setKnife_27 rfl hl (by decide) rfl (fun ls hl => ?_)
  refine lv_iload_n hx hb d_SU_setKnife_28 rfl (lv_at hl 0 rfl) ?_
  refine ix_if_ne (tgt := 64) hx hb (nI_tI (n := 1) (by omega)) d_SU_setKnife_29 (by decide) (fun c_29 => ?_) (fun c_29 => absurd c_29 (by omega))
  exact W.vret hx hb hr (fun t ht hW => ⟨⟨(kc, kp), rfl, (skn_in (kc := kc) (kp := kp) (x := x9) (by omega)).symm, by rw [ht]; exact hP, va_K.moved hW.alike hK, hD⟩, hS.F ht⟩) hS.2.2 d_SU_setKnife_64
set_option maxHeartbeats 4000000 in
set_option maxRecDepth 100000 in
/-- lay(number, begin, end) -/
theorem c_SU_lay (l : Launch) (dC : Nat → ClassId) (dI : Nat → Nat → Nat) (sz : Nat) (o on ob oe ok : Nat) (cI : ClassId) (nu bg en kp : Nat → Nat) (sc lf kc wi kg tr sp : Nat) (n9 b9 e9 : Nat) (h0 : sc < 30) (h1 : kc + 2 ≤ 60) (h2 : e9 < 2147483648) (h3 : 0 < kc → kp (kc - 1) < 2147483648) (h4 : b9 < e9) : Met l y_SU_lay w_SU_lay { frames := 1, cells := 0, slots := 0, locals := 22 } (rw_Pc (dC, dI) vwCl [(cI, .int)] sz [.ref o, .int (nI n9), .int (nI b9), .int (nI e9)] [(o, .inr (4, [.ref on, .ref ob, .ref oe, .int (nI sc), .int (nI lf), .ref ok, .int (nI kc), .int (nI wi), .int (nI kg), .int (nI tr), .int (nI sp)])), (on, .inl (cI, 30, .inl (aN nu))), (ob, .inl (cI, 30, .inl (aN bg))), (oe, .inl (cI, 30, .inl (aN en))), (ok, .inl (cI, 60, .inl (aN kp)))]) (va_Qv (fun (u : Nat × (Nat → Nat)) => (u.1, u.2) = skn (skn kc kp b9).1 (skn kc kp b9).2 e9) (rw_B (dC, dI) vwCl [(cI, .int)] (va_A [(o, .inr (4, [.ref on, .ref ob, .ref oe, .int (nI sc), .int (nI lf), .ref ok, .int (nI kc), .int (nI wi), .int (nI kg), .int (nI tr), .int (nI sp)])), (on, .inl (cI, 30, .inl (aN nu))), (ob, .inl (cI, 30, .inl (aN bg))), (oe, .inl (cI, 30, .inl (aN en))), (ok, .inl (cI, 60, .inl (aN kp)))] sz) (fun u : Nat × (Nat → Nat) => [(o, .inr (4, [.ref on, .ref ob, .ref oe, .int (nI (sc + 1)), .int (nI lf), .ref ok, .int (nI u.1), .int (nI wi), .int (nI kg), .int (nI tr), .int (nI sp)])), (on, .inl (cI, 30, .inl (aN (up nu sc n9)))), (ob, .inl (cI, 30, .inl (aN (up bg sc b9)))), (oe, .inl (cI, 30, .inl (aN (up en sc e9)))), (ok, .inl (cI, 60, .inl (aN u.2)))])) (va_A [(o, .inr (4, [.ref on, .ref ob, .ref oe, .int (nI sc), .int (nI lf), .ref ok, .int (nI kc), .int (nI wi), .int (nI kg), .int (nI tr), .int (nI sp)])), (on, .inl (cI, 30, .inl (aN nu))), (ob, .inl (cI, 30, .inl (aN bg))), (oe, .inl (cI, 30, .inl (aN en))), (ok, .inl (cI, 60, .inl (aN kp)))] sz)) 0 0 (va_A [(o, .inr (4, [.ref on, .ref ob, .ref oe, .int (nI sc), .int (nI lf), .ref ok, .int (nI kc), .int (nI wi), .int (nI kg), .int (nI tr), .int (nI sp)])), (on, .inl (cI, 30, .inl (aN nu))), (ob, .inl (cI, 30, .inl (aN bg))), (oe, .inl (cI, 30, .inl (aN en))), (ok, .inl (cI, 60, .inl (aN kp)))] sz) := by
  refine Met.ofW (cc := b_SU_lay) (maxL := 4) (ret := none) (by decide) rfl ?_
  intro p e s m args below meth c s₁ B hml hv
  obtain ⟨rfl, hsz, hP, hK, hD0⟩ := hv
  have hx := B.exec
  have hb := B.bytes
  have hr := B.returns
  have hts := gw_h (atoms_spec (ws := w_SU_lay) B.pre)
  have hown : s.vm.findClass R_SU = some m.cls := findClass_of_methodNamed B.named
  have hlocks := B.notSynchronized
  subst hsz
  have hD := hD0.self (sz := s.heap.size)
  generalize hAe : va_A [(o, .inr (4, [.ref on, .ref ob, .ref oe, .int (nI sc), .int (nI lf), .ref ok, .int (nI kc), .int (nI wi), .int (nI kg), .int (nI tr), .int (nI sp)])), (on, .inl (cI, 30, .inl (aN nu))), (ob, .inl (cI, 30, .inl (aN bg))), (oe, .inl (cI, 30, .inl (aN en))), (ok, .inl (cI, 60, .inl (aN kp)))] s.heap.size = A at hD ⊢
  have hA : ∀ q : Nat, s.heap.size ≤ q → A q := fun q h => by rw [← hAe]; exact Or.inr h
  have hS : va_S A s.heap s.heap [] := va_S.rf
  have hP : va_P (dC, dI) vwCl [(o, .inr (4, [.ref on, .ref ob, .ref oe, .int (nI sc), .int (nI lf), .ref ok, .int (nI kc), .int (nI wi), .int (nI kg), .int (nI tr), .int (nI sp)])), (on, .inl (cI, 30, .inl (aN nu))), (ob, .inl (cI, 30, .inl (aN bg))), (oe, .inl (cI, 30, .inl (aN en))), (ok, .inl (cI, 60, .inl (aN kp)))] s.heap := hP
  have hl := lv_entry ([.ref o, .int (nI n9), .int (nI b9), .int (nI e9)]) (n := 4) (Nat.le_of_ble_eq_true rfl)
  rw [lg_entry_eq]
  generalize (lg_sl ([.ref o, .int (nI n9), .int (nI b9), .int (nI e9)]) ++ List.replicate (4 - (lg_sl ([.ref o, .int (nI n9), .int (nI b9), .int (nI e9)])).length) Slot.unset).toArray = ls at hl ⊢
  have hl : lv_has ls 4 [(0, .ref o), (1, .int (nI n9)), (2, .int (nI b9)), (3, .int (nI e9))] := hl
  refine lv_aload_n hx hb d_SU_lay_0 rfl (lv_at hl 0 rfl) ?_
  refine va_get (D := (dC, dI)) (ci := 4) (v := .int (nI sc)) (C := R_SU) (T := F_SU) (N := 11) hx hb hts in_SU hown hK hP 0 rfl rfl 3 (by decide) (hts _ m_189) (fun _ h9 => h9) rfl d_SU_lay_1 ?_
  refine lv_bipush (v := nI 30) hx hb d_SU_lay_4 (by decide +kernel) ?_
  refine ix_icmp_lt (tgt := 10) hx hb (nI_tI (n := sc) (by omega)) (nI_tI (n := 30) (by omega)) d_SU_lay_6 (by decide) (fun c_6 => ?_) (fun c_6 => absurd c_6 (by omega))
  refine lv_aload_n hx hb d_SU_lay_10 rfl (lv_at hl 0 rfl) ?_
  refine va_get (D := (dC, dI)) (ci := 4) (v := .ref on) (C := R_SU) (T := F_SU) (N := 11) hx hb hts in_SU hown hK hP 0 rfl rfl 0 (by decide) (hts _ m_183) (fun _ h9 => h9) rfl d_SU_lay_11 ?_
  refine lv_aload_n hx hb d_SU_lay_14 rfl (lv_at hl 0 rfl) ?_
  refine va_get (D := (dC, dI)) (ci := 4) (v := .int (nI sc)) (C := R_SU) (T := F_SU) (N := 11) hx hb hts in_SU hown hK hP 0 rfl rfl 3 (by decide) (hts _ m_189) (fun _ h9 => h9) rfl d_SU_lay_15 ?_
  refine lv_iload_n hx hb d_SU_lay_18 rfl (lv_at hl 1 rfl) ?_
  refine ix_iast (i := sc) hx hb hK hP hD hS 1 0 rfl rfl (by omega) (by decide) d_SU_lay_19 (fun H locs hP hD hS => ?_)
  have hP : va_P (dC, dI) vwCl [(o, .inr (4, [.ref on, .ref ob, .ref oe, .int (nI sc), .int (nI lf), .ref ok, .int (nI kc), .int (nI wi), .int (nI kg), .int (nI tr), .int (nI sp)])), (on, .inl (cI, 30, .inl (aN (up nu sc n9)))), (ob, .inl (cI, 30, .inl (aN bg))), (oe, .inl (cI, 30, .inl (aN en))), (ok, .inl (cI, 60, .inl (aN kp)))] H := hP
  have hD : va_D A [(o, .inr (4, [.ref on, .ref ob, .ref oe, .int (nI sc), .int (nI lf), .ref ok, .int (nI kc), .int (nI wi), .int (nI kg), .int (nI tr), .int (nI sp)])), (on, .inl (cI, 30, .inl (aN (up nu sc n9)))), (ob, .inl (cI, 30, .inl (aN bg))), (oe, .inl (cI, 30, .inl (aN en))), (ok, .inl (cI, 60, .inl (aN kp)))] := hD
  refine lv_aload_n hx hb d_SU_lay_20 rfl (lv_at hl 0 rfl) ?_
  refine va_get (D := (dC, dI)) (ci := 4) (v := .ref ob) (C := R_SU) (T := F_SU) (N := 11) hx hb hts in_SU hown hK hP 0 rfl rfl 1 (by decide) (hts _ m_185) (fun _ h9 => h9) rfl d_SU_lay_21 ?_
  refine lv_aload_n hx hb d_SU_lay_24 rfl (lv_at hl 0 rfl) ?_
  refine va_get (D := (dC, dI)) (ci := 4) (v := .int (nI sc)) (C := R_SU) (T := F_SU) (N := 11) hx hb hts in_SU hown hK hP 0 rfl rfl 3 (by decide) (hts _ m_189) (fun _ h9 => h9) rfl d_SU_lay_25 ?_
  refine lv_iload_n hx hb d_SU_lay_28 rfl (lv_at hl 2 rfl) ?_
  refine ix_iast (i := sc) hx hb hK hP hD hS 2 0 rfl rfl (by omega) (by decide) d_SU_lay_29 (fun H locs hP hD hS => ?_)
  have hP : va_P (dC, dI) vwCl [(o, .inr (4, [.ref on, .ref ob, .ref oe, .int (nI sc), .int (nI lf), .ref ok, .int (nI kc), .int (nI wi), .int (nI kg), .int (nI tr), .int (nI sp)])), (on, .inl (cI, 30, .inl (aN (up nu sc n9)))), (ob, .inl (cI, 30, .inl (aN (up bg sc b9)))), (oe, .inl (cI, 30, .inl (aN en))), (ok, .inl (cI, 60, .inl (aN kp)))] H := hP
  have hD : va_D A [(o, .inr (4, [.ref on, .ref ob, .ref oe, .int (nI sc), .int (nI lf), .ref ok, .int (nI kc), .int (nI wi), .int (nI kg), .int (nI tr), .int (nI sp)])), (on, .inl (cI, 30, .inl (aN (up nu sc n9)))), (ob, .inl (cI, 30, .inl (aN (up bg sc b9)))), (oe, .inl (cI, 30, .inl (aN en))), (ok, .inl (cI, 60, .inl (aN kp)))] := hD
  refine lv_aload_n hx hb d_SU_lay_30 rfl (lv_at hl 0 rfl) ?_
  refine va_get (D := (dC, dI)) (ci := 4) (v := .ref oe) (C := R_SU) (T := F_SU) (N := 11) hx hb hts in_SU hown hK hP 0 rfl rfl 2 (by decide) (hts _ m_187) (fun _ h9 => h9) rfl d_SU_lay_31 ?_
  refine lv_aload_n hx hb d_SU_lay_34 rfl (lv_at hl 0 rfl) ?_
  refine va_get (D := (dC, dI)) (ci := 4) (v := .int (nI sc)) (C := R_SU) (T := F_SU) (N := 11) hx hb hts in_SU hown hK hP 0 rfl rfl 3 (by decide) (hts _ m_189) (fun _ h9 => h9) rfl d_SU_lay_35 ?_
  refine lv_iload_n hx hb d_SU_lay_38 rfl (lv_at hl 3 rfl) ?_
  refine ix_iast (i := sc) hx hb hK hP hD hS 3 0 rfl rfl (by omega) (by decide) d_SU_lay_39 (fun H locs hP hD hS => ?_)
  have hP : va_P (dC, dI) vwCl [(o, .inr (4, [.ref on, .ref ob, .ref oe, .int (nI sc), .int (nI lf), .ref ok, .int (nI kc), .int (nI wi), .int (nI kg), .int (nI tr), .int (nI sp)])), (on, .inl (cI, 30, .inl (aN (up nu sc n9)))), (ob, .inl (cI, 30, .inl (aN (up bg sc b9)))), (oe, .inl (cI, 30, .inl (aN (up en sc e9)))), (ok, .inl (cI, 60, .inl (aN kp)))] H := hP
  have hD : va_D A [(o, .inr (4, [.ref on, .ref ob, .ref oe, .int (nI sc), .int (nI lf), .ref ok, .int (nI kc), .int (nI wi), .int (nI kg), .int (nI tr), .int (nI sp)])), (on, .inl (cI, 30, .inl (aN (up nu sc n9)))), (ob, .inl (cI, 30, .inl (aN (up bg sc b9)))), (oe, .inl (cI, 30, .inl (aN (up en sc e9)))), (ok, .inl (cI, 60, .inl (aN kp)))] := hD
  refine lv_aload_n hx hb d_SU_lay_40 rfl (lv_at hl 0 rfl) ?_
  refine lv_dup hx hb d_SU_lay_41 rfl ?_
  refine va_get (D := (dC, dI)) (ci := 4) (v := .int (nI sc)) (C := R_SU) (T := F_SU) (N := 11) hx hb hts in_SU hown hK hP 0 rfl rfl 3 (by decide) (hts _ m_189) (fun _ h9 => h9) rfl d_SU_lay_42 ?_
  refine lv_iconst (v := nI 1) hx hb d_SU_lay_45 (by decide +kernel) ?_
  refine lv_iadd hx hb d_SU_lay_46 ?_
  refine lv_topr (show _ = nI (sc + 1) from nn_add _ _) ?_
  refine va_put (D := (dC, dI)) (ci := 4) (v := .int (nI (sc + 1))) (ty := .int) (C := R_SU) (T := F_SU) (N := 11) hx hb hts in_SU t_SU t_SU_ok n_SU hown hK hP hD hS 0 rfl rfl 3 (by decide) (hts _ m_189) (fun _ h9 => h9) rfl (by decide +kernel) rfl rfl (Nat.le_of_ble_eq_true rfl) d_SU_lay_47 (fun H locs hP hD hS => ?_)
  have hP : va_P (dC, dI) vwCl [(o, .inr (4, [.ref on, .ref ob, .ref oe, .int (nI (sc + 1)), .int (nI lf), .ref ok, .int (nI kc), .int (nI wi), .int (nI kg), .int (nI tr), .int (nI sp)])), (on, .inl (cI, 30, .inl (aN (up nu sc n9)))), (ob, .inl (cI, 30, .inl (aN (up bg sc b9)))), (oe, .inl (cI, 30, .inl (aN (up en sc e9)))), (ok, .inl (cI, 60, .inl (aN kp)))] H := hP
  have hD : va_D A [(o, .inr (4, [.ref on, .ref ob, .ref oe, .int (nI (sc + 1)), .int (nI lf), .ref ok, .int (nI kc), .int (nI wi), .int (nI kg), .int (nI tr), .int (nI sp)])), (on, .inl (cI, 30, .inl (aN (up nu sc n9)))), (ob, .inl (cI, 30, .inl (aN (up bg sc b9)))), (oe, .inl (cI, 30, .inl (aN (up en sc e9)))), (ok, .inl (cI, 60, .inl (aN kp)))] := hD
  refine lv_aload_n hx hb d_SU_lay_50 rfl (lv_at hl 0 rfl) ?_
  refine lv_iload_n hx hb d_SU_lay_51 rfl (lv_at hl 2 rfl) ?_
  have hPc := hP.sub (ws' := [(o, .inr (4, [.ref on, .ref ob, .ref oe, .int (nI (sc + 1)), .int (nI lf), .ref ok, .int (nI kc), .int (nI wi), .int (nI kg), .int (nI tr), .int (nI sp)])), (ok, .inl (cI, 60, .inl (aN kp)))]) [0, 4] rfl
  have hDc := hD.sub (ws' := [(o, .inr (4, [.ref on, .ref ob, .ref oe, .int (nI (sc + 1)), .int (nI lf), .ref ok, .int (nI kc), .int (nI wi), .int (nI kg), .int (nI tr), .int (nI sp)])), (ok, .inl (cI, 60, .inl (aN kp)))]) [0, 4] (by decide) rfl
  have hFc := va_free (wc := [(o, .inr (4, [.ref on, .ref ob, .ref oe, .int (nI (sc + 1)), .int (nI lf), .ref ok, .int (nI kc), .int (nI wi), .int (nI kg), .int (nI tr), .int (nI sp)])), (ok, .inl (cI, 60, .inl (aN kp)))]) hD hS hA [0, 4] rfl
  refine va_callv (va_runV (As := [.int (nI b9)]) (rest := []) ⟨hx, hb, hml, hown, hts⟩ (c_SU_setKnife l dC dI H.size o on ob oe ok cI kp (sc + 1) lf kc wi kg tr sp b9 (by omega) (by omega) h3) (cwV 1 hts (gw_V m_484 m_486 s_12 m_7 m_487) rfl rfl rfl (by decide +kernel) ⟨Nat.le_of_ble_eq_true rfl, Nat.le_of_ble_eq_true rfl⟩) ⟨rw_blind, va_recv hK hPc (ci := 4) (q0 := 0) rfl rfl, fun U hU hW => ⟨rfl, by rw [hU], by rw [hU]; exact hPc, va_K.moved hW.alike hK, hDc.weaken (fun _ _ _ _ => trivial)⟩⟩ rfl rfl hl.1 rfl (lv_room (Nat.le_of_ble_eq_true rfl)) d_SU_lay_52 ⟨Nat.le_of_ble_eq_true rfl, Nat.le_of_ble_eq_true rfl⟩) hS (fun q _ h => hFc q h) hFc (fun u t H1 locs ht hvm hw hB hz1 hk1 hS => ?_)
  obtain ⟨kc1, kp1⟩ := u
  obtain ⟨hP1, hK1, hD1⟩ := hB
  rw [ht] at hP1
  try dsimp only at hw
  obtain ⟨hP, hD⟩ := va_join (wr := [(on, .inl (cI, 30, .inl (aN (up nu sc n9)))), (ob, .inl (cI, 30, .inl (aN (up bg sc b9)))), (oe, .inl (cI, 30, .inl (aN (up en sc e9))))]) (w1 := [(o, .inr (4, [.ref on, .ref ob, .ref oe, .int (nI (sc + 1)), .int (nI lf), .ref ok, .int (nI kc1), .int (nI wi), .int (nI kg), .int (nI tr), .int (nI sp)])), (ok, .inl (cI, 60, .inl (aN kp1)))]) hP hD [0, 4] [1, 2, 3] rfl rfl (by decide) (by decide) hk1 hFc hP1 hD1
  generalize H1 = H at hP hS ⊢
  have hP : va_P (dC, dI) vwCl [(o, .inr (4, [.ref on, .ref ob, .ref oe, .int (nI (sc + 1)), .int (nI lf), .ref ok, .int (nI kc1), .int (nI wi), .int (nI kg), .int (nI tr), .int (nI sp)])), (on, .inl (cI, 30, .inl (aN (up nu sc n9)))), (ob, .inl (cI, 30, .inl (aN (up bg sc b9)))), (oe, .inl (cI, 30, .inl (aN (up en sc e9)))), (ok, .inl (cI, 60, .inl (aN kp1)))] H := hP.sub [3, 0, 1, 2, 4] rfl
  have hD : va_D A [(o, .inr (4, [.ref on, .ref ob, .ref oe, .int (nI (sc + 1)), .int (nI lf), .ref ok, .int (nI kc1), .int (nI wi), .int (nI kg), .int (nI tr), .int (nI sp)])), (on, .inl (cI, 30, .inl (aN (up nu sc n9)))), (ob, .inl (cI, 30, .inl (aN (up bg sc b9)))), (oe, .inl (cI, 30, .inl (aN (up en sc e9)))), (ok, .inl (cI, 60, .inl (aN kp1)))] := hD.sub [3, 0, 1, 2, 4] (by decide) rfl
  have hw1 := hw
  have hk1 := skn_le kc kp b9
  rw [← hw1] at hk1
  obtain ⟨hk1a, hk1b, hk1c⟩ := hk1
  dsimp only at hk1a hk1b hk1c
  refine lv_aload_n hx hb d_SU_lay_55 rfl (lv_at hl 0 rfl) ?_
  refine lv_iload_n hx hb d_SU_lay_56 rfl (lv_at hl 3 rfl) ?_
  have hPc := hP.sub (ws' := [(o, .inr (4, [.ref on, .ref ob, .ref oe, .int (nI (sc + 1)), .int (nI lf), .ref ok, .int (nI kc1), .int (nI wi), .int (nI kg), .int (nI tr), .int (nI sp)])), (ok, .inl (cI, 60, .inl (aN kp1)))]) [0, 4] rfl
  have hDc := hD.sub (ws' := [(o, .inr (4, [.ref on, .ref ob, .ref oe, .int (nI (sc + 1)), .int (nI lf), .ref ok, .int (nI kc1), .int (nI wi), .int (nI kg), .int (nI tr), .int (nI sp)])), (ok, .inl (cI, 60, .inl (aN kp1)))]) [0, 4] (by decide) rfl
  have hFc := va_free (wc := [(o, .inr (4, [.ref on, .ref ob, .ref oe, .int (nI (sc + 1)), .int (nI lf), .ref ok, .int (nI kc1), .int (nI wi), .int (nI kg), .int (nI tr), .int (nI sp)])), (ok, .inl (cI, 60, .inl (aN kp1)))]) hD hS hA [0, 4] rfl
  refine va_callv (va_runV (As := [.int (nI e9)]) (rest := []) ⟨hx, hb, hml, hown, hts⟩ (c_SU_setKnife l dC dI H.size o on ob oe ok cI kp1 (sc + 1) lf kc1 wi kg tr sp e9 (by omega) (by omega) (fun _ => by rw [hk1c]; omega)) (cwV 1 hts (gw_V m_484 m_486 s_12 m_7 m_487) rfl rfl rfl (by decide +kernel) ⟨Nat.le_of_ble_eq_true rfl, Nat.le_of_ble_eq_true rfl⟩) ⟨rw_blind, va_recv hK hPc (ci := 4) (q0 := 0) rfl rfl, fun U hU hW => ⟨rfl, by rw [hU], by rw [hU]; exact hPc, va_K.moved hW.alike hK, hDc.weaken (fun _ _ _ _ => trivial)⟩⟩ rfl rfl hl.1 rfl (lv_room (Nat.le_of_ble_eq_true rfl)) d_SU_lay_57 ⟨Nat.le_of_ble_eq_true rfl, Nat.le_of_ble_eq_true rfl⟩) hS (fun q _ h => hFc q h) hFc (fun u t H1 locs ht hvm hw hB hz1 hk1 hS => ?_)
  obtain ⟨kc2, kp2⟩ := u
  obtain ⟨hP1, hK1, hD1⟩ := hB
  rw [ht] at hP1
  try dsimp only at hw
  obtain ⟨hP, hD⟩ := va_join (wr := [(on, .inl (cI, 30, .inl (aN (up nu sc n9)))), (ob, .inl (cI, 30, .inl (aN (up bg sc b9)))), (oe, .inl (cI, 30, .inl (aN (up en sc e9))))]) (w1 := [(o, .inr (4, [.ref on, .ref ob, .ref oe, .int (nI (sc + 1)), .int (nI lf), .ref ok, .int (nI kc2), .int (nI wi), .int (nI kg), .int (nI tr), .int (nI sp)])), (ok, .inl (cI, 60, .inl (aN kp2)))]) hP hD [0, 4] [1, 2, 3] rfl rfl (by decide) (by decide) hk1 hFc hP1 hD1
  generalize H1 = H at hP hS ⊢
  have hP : va_P (dC, dI) vwCl [(o, .inr (4, [.ref on, .ref ob, .ref oe, .int (nI (sc + 1)), .int (nI lf), .ref ok, .int (nI kc2), .int (nI wi), .int (nI kg), .int (nI tr), .int (nI sp)])), (on, .inl (cI, 30, .inl (aN (up nu sc n9)))), (ob, .inl (cI, 30, .inl (aN (up bg sc b9)))), (oe, .inl (cI, 30, .inl (aN (up en sc e9)))), (ok, .inl (cI, 60, .inl (aN kp2)))] H := hP.sub [3, 0, 1, 2, 4] rfl
  have hD : va_D A [(o, .inr (4, [.ref on, .ref ob, .ref oe, .int (nI (sc + 1)), .int (nI lf), .ref ok, .int (nI kc2), .int (nI wi), .int (nI kg), .int (nI tr), .int (nI sp)])), (on, .inl (cI, 30, .inl (aN (up nu sc n9)))), (ob, .inl (cI, 30, .inl (aN (up bg sc b9)))), (oe, .inl (cI, 30, .inl (aN (up en sc e9)))), (ok, .inl (cI, 60, .inl (aN kp2)))] := hD.sub [3, 0, 1, 2, 4] (by decide) rfl
  have hw2 := hw
  exact W.vret hx hb hr (fun t ht hW => ⟨⟨(kc2, kp2), rfl, by rw [hw2, ← hw1], by rw [ht]; exact hP, va_K.moved hW.alike hK, hD⟩, hS.F ht⟩) hS.2.2 d_SU_lay_60
end
section
theorem KN.last {bg en : Nat → Nat} {sc kc : Nat} {kp : Nat → Nat} (h : KN bg en sc kc kp) (h0 : 0 < kc) : 0 < sc ∧ kp (kc - 1) = en (sc - 1) := by
  obtain ⟨hk, hp⟩ := h
  have hs : 0 < sc := by
    rcases Nat.eq_zero_or_pos sc with e | e
    · rw [e] at hk
      have : kq bg en 0 = 0 := rfl
      omega
    · exact e
  have h1 := (hp (sc - 1) (by omega)).2.2
  rw [show sc - 1 + 1 = sc by omega, ← hk] at h1
  exact ⟨hs, h1⟩
theorem LYI.last {bc wd : Nat → Nat} {cf sc : Nat} {nu bg en : Nat → Nat} (h : LYI bc wd cf sc nu bg en) (h0 : 0 < sc) : en (sc - 1) ≤ sumN (fun j => wd (nu j) + cf) sc := by
  obtain ⟨-, h2, h3⟩ := h (sc - 1) (by omega)
  have e : sumN (fun j => wd (nu j) + cf) (sc - 1 + 1) = sumN (fun j => wd (nu j) + cf) (sc - 1) + (wd (nu (sc - 1)) + cf) := rfl
  rw [show sc - 1 + 1 = sc by omega] at e
  omega
theorem d_WI_init_0 : decode b_WI_init 0 = .ok (.aload_n 0, 1) := by decide +kernel
theorem d_WI_init_1 : decode b_WI_init 1 = .ok (.invokespecial 3, 3) := by decide +kernel
theorem d_WI_init_4 : decode b_WI_init 4 = .ok (.aload_n 0, 1) := by decide +kernel
theorem d_WI_init_5 : decode b_WI_init 5 = .ok (.iconst 5, 1) := by decide +kernel
theorem d_WI_init_6 : decode b_WI_init 6 = .ok (.newarray .int, 2) := by decide +kernel
theorem d_WI_init_8 : decode b_WI_init 8 = .ok (.putfield 9, 3) := by decide +kernel
theorem d_WI_init_11 : decode b_WI_init 11 = .ok (.aload_n 0, 1) := by decide +kernel
theorem d_WI_init_12 : decode b_WI_init 12 = .ok (.iconst 5, 1) := by decide +kernel
theorem d_WI_init_13 : decode b_WI_init 13 = .ok (.newarray .int, 2) := by decide +kernel
theorem d_WI_init_15 : decode b_WI_init 15 = .ok (.putfield 15, 3) := by decide +kernel
theorem d_WI_init_18 : decode b_WI_init 18 = .ok (.aload_n 0, 1) := by decide +kernel
theorem d_WI_init_19 : decode b_WI_init 19 = .ok (.iconst 0, 1) := by decide +kernel
theorem d_WI_init_20 : decode b_WI_init 20 = .ok (.putfield 18, 3) := by decide +kernel
theorem d_WI_init_23 : decode b_WI_init 23 = .ok (.return_, 1) := by decide +kernel
theorem d_WI_deliver_0 : decode b_WI_deliver 0 = .ok (.iconst 0, 1) := by decide +kernel
theorem d_WI_deliver_1 : decode b_WI_deliver 1 = .ok (.istore_n 2, 1) := by decide +kernel
theorem d_WI_deliver_2 : decode b_WI_deliver 2 = .ok (.iload_n 2, 1) := by decide +kernel
theorem d_WI_deliver_3 : decode b_WI_deliver 3 = .ok (.aload_n 0, 1) := by decide +kernel
theorem d_WI_deliver_4 : decode b_WI_deliver 4 = .ok (.getfield 18, 3) := by decide +kernel
theorem d_WI_deliver_7 : decode b_WI_deliver 7 = .ok (.if_icmp .ge (21), 3) := by decide +kernel
theorem d_WI_deliver_10 : decode b_WI_deliver 10 = .ok (.aload_n 0, 1) := by decide +kernel
theorem d_WI_deliver_11 : decode b_WI_deliver 11 = .ok (.getfield 15, 3) := by decide +kernel
theorem d_WI_deliver_14 : decode b_WI_deliver 14 = .ok (.iload_n 2, 1) := by decide +kernel
theorem d_WI_deliver_15 : decode b_WI_deliver 15 = .ok (.dup2, 1) := by decide +kernel
theorem d_WI_deliver_16 : decode b_WI_deliver 16 = .ok (.iaload, 1) := by decide +kernel
theorem d_WI_deliver_17 : decode b_WI_deliver 17 = .ok (.aload_n 1, 1) := by decide +kernel
theorem d_WI_deliver_18 : decode b_WI_deliver 18 = .ok (.iload_n 2, 1) := by decide +kernel
theorem d_WI_deliver_19 : decode b_WI_deliver 19 = .ok (.iaload, 1) := by decide +kernel
theorem d_WI_deliver_20 : decode b_WI_deliver 20 = .ok (.isub, 1) := by decide +kernel
theorem d_WI_deliver_21 : decode b_WI_deliver 21 = .ok (.iastore, 1) := by decide +kernel
theorem d_WI_deliver_22 : decode b_WI_deliver 22 = .ok (.iinc 2 1, 3) := by decide +kernel
theorem d_WI_deliver_25 : decode b_WI_deliver 25 = .ok (.goto (-23), 3) := by decide +kernel
theorem d_WI_deliver_28 : decode b_WI_deliver 28 = .ok (.return_, 1) := by decide +kernel
set_option maxHeartbeats 4000000 in
set_option maxRecDepth 100000 in
/-- make(coil, wishes, search): the strips of the best pattern, from the trim on -/
theorem c_SU_make (l : Launch) (dC : Nat → ClassId) (dI : Nat → Nat → Nat) (sz : Nat) (o on ob oe ok : Nat) (cI : ClassId) (k0 v0 vw vs a0 ab ap aq ac : Nat) (nu bg en kp wd bc : Nat → Nat) (sc lf kc wi kg tr sp : Nat) (cw ck cr cf cn cnt bn bf kn most bs : Nat) (room : Int) (hc5 : cnt ≤ 5) (hwd : ∀ i, i < cnt → 1 ≤ wd i ∧ wd i ≤ 20000) (hcf : cf ≤ 100) (hbc : ∀ i, i < cnt → bc i ≤ 6) : Met l y_SU_make w_SU_make { frames := 2, cells := 0, slots := 0, locals := 45 } (rw_Pc (dC, dI) vwCl [(cI, .int)] sz [.ref o, .ref k0, .ref v0, .ref a0] [(o, .inr (4, [.ref on, .ref ob, .ref oe, .int (nI sc), .int (nI lf), .ref ok, .int (nI kc), .int (nI wi), .int (nI kg), .int (nI tr), .int (nI sp)])), (on, .inl (cI, 30, .inl (aN nu))), (ob, .inl (cI, 30, .inl (aN bg))), (oe, .inl (cI, 30, .inl (aN en))), (ok, .inl (cI, 60, .inl (aN kp))), (k0, .inr (0, [.int (nI cw), .int (nI ck), .int (nI cr), .int (nI cf), .int (nI cn)])), (v0, .inr (5, [.ref vw, .ref vs, .int (nI cnt)])), (vw, .inl (cI, 5, .inl (aN wd))), (a0, .inr (2, [.ref ab, .int (nI bn), .int (nI bf), .int (nI kn), .ref ap, .ref aq, .ref ac, .int (zI room), .int (nI most), .int (nI bs)])), (ab, .inl (cI, 5, .inl (aN bc)))]) (va_Qv (fun (u : Nat × Nat × (Nat → Nat) × (Nat → Nat) × (Nat → Nat) × (Nat → Nat)) => u.1 = sumN bc cnt ∧ LYI bc wd cf u.1 u.2.2.1 u.2.2.2.1 u.2.2.2.2.1 ∧ KN u.2.2.2.1 u.2.2.2.2.1 u.1 u.2.1 u.2.2.2.2.2) (rw_B (dC, dI) vwCl [(cI, .int)] (va_A [(o, .inr (4, [.ref on, .ref ob, .ref oe, .int (nI sc), .int (nI lf), .ref ok, .int (nI kc), .int (nI wi), .int (nI kg), .int (nI tr), .int (nI sp)])), (on, .inl (cI, 30, .inl (aN nu))), (ob, .inl (cI, 30, .inl (aN bg))), (oe, .inl (cI, 30, .inl (aN en))), (ok, .inl (cI, 60, .inl (aN kp))), (k0, .inr (0, [.int (nI cw), .int (nI ck), .int (nI cr), .int (nI cf), .int (nI cn)])), (v0, .inr (5, [.ref vw, .ref vs, .int (nI cnt)])), (vw, .inl (cI, 5, .inl (aN wd))), (a0, .inr (2, [.ref ab, .int (nI bn), .int (nI bf), .int (nI kn), .ref ap, .ref aq, .ref ac, .int (zI room), .int (nI most), .int (nI bs)])), (ab, .inl (cI, 5, .inl (aN bc)))] sz) (fun u : Nat × Nat × (Nat → Nat) × (Nat → Nat) × (Nat → Nat) × (Nat → Nat) => [(o, .inr (4, [.ref on, .ref ob, .ref oe, .int (nI u.1), .int (nI cr), .ref ok, .int (nI u.2.1), .int (nI cw), .int (nI ck), .int (nI cr), .int (nI bf)])), (on, .inl (cI, 30, .inl (aN u.2.2.1))), (ob, .inl (cI, 30, .inl (aN u.2.2.2.1))), (oe, .inl (cI, 30, .inl (aN u.2.2.2.2.1))), (ok, .inl (cI, 60, .inl (aN u.2.2.2.2.2))), (k0, .inr (0, [.int (nI cw), .int (nI ck), .int (nI cr), .int (nI cf), .int (nI cn)])), (v0, .inr (5, [.ref vw, .ref vs, .int (nI cnt)])), (vw, .inl (cI, 5, .inl (aN wd))), (a0, .inr (2, [.ref ab, .int (nI bn), .int (nI bf), .int (nI kn), .ref ap, .ref aq, .ref ac, .int (zI room), .int (nI most), .int (nI bs)])), (ab, .inl (cI, 5, .inl (aN bc)))])) (va_A [(o, .inr (4, [.ref on, .ref ob, .ref oe, .int (nI sc), .int (nI lf), .ref ok, .int (nI kc), .int (nI wi), .int (nI kg), .int (nI tr), .int (nI sp)])), (on, .inl (cI, 30, .inl (aN nu))), (ob, .inl (cI, 30, .inl (aN bg))), (oe, .inl (cI, 30, .inl (aN en))), (ok, .inl (cI, 60, .inl (aN kp))), (k0, .inr (0, [.int (nI cw), .int (nI ck), .int (nI cr), .int (nI cf), .int (nI cn)])), (v0, .inr (5, [.ref vw, .ref vs, .int (nI cnt)])), (vw, .inl (cI, 5, .inl (aN wd))), (a0, .inr (2, [.ref ab, .int (nI bn), .int (nI bf), .int (nI kn), .ref ap, .ref aq, .ref ac, .int (zI room), .int (nI most), .int (nI bs)])), (ab, .inl (cI, 5, .inl (aN bc)))] sz)) 0 0 (va_A [(o, .inr (4, [.ref on, .ref ob, .ref oe, .int (nI sc), .int (nI lf), .ref ok, .int (nI kc), .int (nI wi), .int (nI kg), .int (nI tr), .int (nI sp)])), (on, .inl (cI, 30, .inl (aN nu))), (ob, .inl (cI, 30, .inl (aN bg))), (oe, .inl (cI, 30, .inl (aN en))), (ok, .inl (cI, 60, .inl (aN kp))), (k0, .inr (0, [.int (nI cw), .int (nI ck), .int (nI cr), .int (nI cf), .int (nI cn)])), (v0, .inr (5, [.ref vw, .ref vs, .int (nI cnt)])), (vw, .inl (cI, 5, .inl (aN wd))), (a0, .inr (2, [.ref ab, .int (nI bn), .int (nI bf), .int (nI kn), .ref ap, .ref aq, .ref ac, .int (zI room), .int (nI most), .int (nI bs)])), (ab, .inl (cI, 5, .inl (aN bc)))] sz) := by
  refine Met.ofW (cc := b_SU_make) (maxL := 7) (ret := none) (by decide) rfl ?_
  intro p e s m args below meth c s₁ B hml hv
  obtain ⟨rfl, hsz, hP, hK, hD0⟩ := hv
  have hx := B.exec
  have hb := B.bytes
  have hr := B.returns
  have hts := gw_h (atoms_spec (ws := w_SU_make) B.pre)
  have hown : s.vm.findClass R_SU = some m.cls := findClass_of_methodNamed B.named
  have hlocks := B.notSynchronized
  subst hsz
  have hD := hD0.self (sz := s.heap.size)
  generalize hAe : va_A [(o, .inr (4, [.ref on, .ref ob, .ref oe, .int (nI sc), .int (nI lf), .ref ok, .int (nI kc), .int (nI wi), .int (nI kg), .int (nI tr), .int (nI sp)])), (on, .inl (cI, 30, .inl (aN nu))), (ob, .inl (cI, 30, .inl (aN bg))), (oe, .inl (cI, 30, .inl (aN en))), (ok, .inl (cI, 60, .inl (aN kp))), (k0, .inr (0, [.int (nI cw), .int (nI ck), .int (nI cr), .int (nI cf), .int (nI cn)])), (v0, .inr (5, [.ref vw, .ref vs, .int (nI cnt)])), (vw, .inl (cI, 5, .inl (aN wd))), (a0, .inr (2, [.ref ab, .int (nI bn), .int (nI bf), .int (nI kn), .ref ap, .ref aq, .ref ac, .int (zI room), .int (nI most), .int (nI bs)])), (ab, .inl (cI, 5, .inl (aN bc)))] s.heap.size = A at hD ⊢
  have hA : ∀ q : Nat, s.heap.size ≤ q → A q := fun q h => by rw [← hAe]; exact Or.inr h
  have hS : va_S A s.heap s.heap [] := va_S.rf
  have hP : va_P (dC, dI) vwCl [(o, .inr (4, [.ref on, .ref ob, .ref oe, .int (nI sc), .int (nI lf), .ref ok, .int (nI kc), .int (nI wi), .int (nI kg), .int (nI tr), .int (nI sp)])), (on, .inl (cI, 30, .inl (aN nu))), (ob, .inl (cI, 30, .inl (aN bg))), (oe, .inl (cI, 30, .inl (aN en))), (ok, .inl (cI, 60, .inl (aN kp))), (k0, .inr (0, [.int (nI cw), .int (nI ck), .int (nI cr), .int (nI cf), .int (nI cn)])), (v0, .inr (5, [.ref vw, .ref vs, .int (nI cnt)])), (vw, .inl (cI, 5, .inl (aN wd))), (a0, .inr (2, [.ref ab, .int (nI bn), .int (nI bf), .int (nI kn), .ref ap, .ref aq, .ref ac, .int (zI room), .int (nI most), .int (nI bs)])), (ab, .inl (cI, 5, .inl (aN bc)))] s.heap := hP
  have hl := lv_entry ([.ref o, .ref k0, .ref v0, .ref a0]) (n := 7) (Nat.le_of_ble_eq_true rfl)
  rw [lg_entry_eq]
  generalize (lg_sl ([.ref o, .ref k0, .ref v0, .ref a0]) ++ List.replicate (7 - (lg_sl ([.ref o, .ref k0, .ref v0, .ref a0])).length) Slot.unset).toArray = ls at hl ⊢
  have hl : lv_has ls 7 [(0, .ref o), (1, .ref k0), (2, .ref v0), (3, .ref a0)] := hl
  have htot : ∀ i, i ≤ cnt → sumN bc i ≤ 6 * i := by
    intro i
    induction i with
    | zero => intro _; exact Nat.le_refl _
    | succ i ih => intro hi; have h1 := ih (by omega); have h2 := hbc i (by omega); rw [sumN]; omega
  refine lv_aload_n hx hb d_SU_make_0 rfl (lv_at hl 0 rfl) ?_
  refine lv_aload_n hx hb d_SU_make_1 rfl (lv_at hl 1 rfl) ?_
  refine va_get (D := (dC, dI)) (ci := 0) (v := .int (nI cw)) (C := R_CO) (T := F_CO) (N := 5) hx hb hts in_CO hown hK hP 5 rfl rfl 0 (by decide) (hts _ m_33) (fun _ h9 => h9) rfl d_SU_make_2 ?_
  refine va_put (D := (dC, dI)) (ci := 4) (v := .int (nI cw)) (ty := .int) (C := R_SU) (T := F_SU) (N := 11) hx hb hts in_SU t_SU t_SU_ok n_SU hown hK hP hD hS 0 rfl rfl 7 (by decide) (hts _ m_195) (fun _ h9 => h9) rfl (by decide +kernel) rfl rfl (Nat.le_of_ble_eq_true rfl) d_SU_make_5 (fun H locs hP hD hS => ?_)
  have hP : va_P (dC, dI) vwCl [(o, .inr (4, [.ref on, .ref ob, .ref oe, .int (nI sc), .int (nI lf), .ref ok, .int (nI kc), .int (nI cw), .int (nI kg), .int (nI tr), .int (nI sp)])), (on, .inl (cI, 30, .inl (aN nu))), (ob, .inl (cI, 30, .inl (aN bg))), (oe, .inl (cI, 30, .inl (aN en))), (ok, .inl (cI, 60, .inl (aN kp))), (k0, .inr (0, [.int (nI cw), .int (nI ck), .int (nI cr), .int (nI cf), .int (nI cn)])), (v0, .inr (5, [.ref vw, .ref vs, .int (nI cnt)])), (vw, .inl (cI, 5, .inl (aN wd))), (a0, .inr (2, [.ref ab, .int (nI bn), .int (nI bf), .int (nI kn), .ref ap, .ref aq, .ref ac, .int (zI room), .int (nI most), .int (nI bs)])), (ab, .inl (cI, 5, .inl (aN bc)))] H := hP
  have hD : va_D A [(o, .inr (4, [.ref on, .ref ob, .ref oe, .int (nI sc), .int (nI lf), .ref ok, .int (nI kc), .int (nI cw), .int (nI kg), .int (nI tr), .int (nI sp)])), (on, .inl (cI, 30, .inl (aN nu))), (ob, .inl (cI, 30, .inl (aN bg))), (oe, .inl (cI, 30, .inl (aN en))), (ok, .inl (cI, 60, .inl (aN kp))), (k0, .inr (0, [.int (nI cw), .int (nI ck), .int (nI cr), .int (nI cf), .int (nI cn)])), (v0, .inr (5, [.ref vw, .ref vs, .int (nI cnt)])), (vw, .inl (cI, 5, .inl (aN wd))), (a0, .inr (2, [.ref ab, .int (nI bn), .int (nI bf), .int (nI kn), .ref ap, .ref aq, .ref ac, .int (zI room), .int (nI most), .int (nI bs)])), (ab, .inl (cI, 5, .inl (aN bc)))] := hD
  refine lv_aload_n hx hb d_SU_make_8 rfl (lv_at hl 0 rfl) ?_
  refine lv_aload_n hx hb d_SU_make_9 rfl (lv_at hl 1 rfl) ?_
  refine va_get (D := (dC, dI)) (ci := 0) (v := .int (nI ck)) (C := R_CO) (T := F_CO) (N := 5) hx hb hts in_CO hown hK hP 5 rfl rfl 1 (by decide) (hts _ m_37) (fun _ h9 => h9) rfl d_SU_make_10 ?_
  refine va_put (D := (dC, dI)) (ci := 4) (v := .int (nI ck)) (ty := .int) (C := R_SU) (T := F_SU) (N := 11) hx hb hts in_SU t_SU t_SU_ok n_SU hown hK hP hD hS 0 rfl rfl 8 (by decide) (hts _ m_196) (fun _ h9 => h9) rfl (by decide +kernel) rfl rfl (Nat.le_of_ble_eq_true rfl) d_SU_make_13 (fun H locs hP hD hS => ?_)
  have hP : va_P (dC, dI) vwCl [(o, .inr (4, [.ref on, .ref ob, .ref oe, .int (nI sc), .int (nI lf), .ref ok, .int (nI kc), .int (nI cw), .int (nI ck), .int (nI tr), .int (nI sp)])), (on, .inl (cI, 30, .inl (aN nu))), (ob, .inl (cI, 30, .inl (aN bg))), (oe, .inl (cI, 30, .inl (aN en))), (ok, .inl (cI, 60, .inl (aN kp))), (k0, .inr (0, [.int (nI cw), .int (nI ck), .int (nI cr), .int (nI cf), .int (nI cn)])), (v0, .inr (5, [.ref vw, .ref vs, .int (nI cnt)])), (vw, .inl (cI, 5, .inl (aN wd))), (a0, .inr (2, [.ref ab, .int (nI bn), .int (nI bf), .int (nI kn), .ref ap, .ref aq, .ref ac, .int (zI room), .int (nI most), .int (nI bs)])), (ab, .inl (cI, 5, .inl (aN bc)))] H := hP
  have hD : va_D A [(o, .inr (4, [.ref on, .ref ob, .ref oe, .int (nI sc), .int (nI lf), .ref ok, .int (nI kc), .int (nI cw), .int (nI ck), .int (nI tr), .int (nI sp)])), (on, .inl (cI, 30, .inl (aN nu))), (ob, .inl (cI, 30, .inl (aN bg))), (oe, .inl (cI, 30, .inl (aN en))), (ok, .inl (cI, 60, .inl (aN kp))), (k0, .inr (0, [.int (nI cw), .int (nI ck), .int (nI cr), .int (nI cf), .int (nI cn)])), (v0, .inr (5, [.ref vw, .ref vs, .int (nI cnt)])), (vw, .inl (cI, 5, .inl (aN wd))), (a0, .inr (2, [.ref ab, .int (nI bn), .int (nI bf), .int (nI kn), .ref ap, .ref aq, .ref ac, .int (zI room), .int (nI most), .int (nI bs)])), (ab, .inl (cI, 5, .inl (aN bc)))] := hD
  refine lv_aload_n hx hb d_SU_make_16 rfl (lv_at hl 0 rfl) ?_
  refine lv_aload_n hx hb d_SU_make_17 rfl (lv_at hl 1 rfl) ?_
  refine va_get (D := (dC, dI)) (ci := 0) (v := .int (nI cr)) (C := R_CO) (T := F_CO) (N := 5) hx hb hts in_CO hown hK hP 5 rfl rfl 2 (by decide) (hts _ m_40) (fun _ h9 => h9) rfl d_SU_make_18 ?_
  refine va_put (D := (dC, dI)) (ci := 4) (v := .int (nI cr)) (ty := .int) (C := R_SU) (T := F_SU) (N := 11) hx hb hts in_SU t_SU t_SU_ok n_SU hown hK hP hD hS 0 rfl rfl 9 (by decide) (hts _ m_197) (fun _ h9 => h9) rfl (by decide +kernel) rfl rfl (Nat.le_of_ble_eq_true rfl) d_SU_make_21 (fun H locs hP hD hS => ?_)
  have hP : va_P (dC, dI) vwCl [(o, .inr (4, [.ref on, .ref ob, .ref oe, .int (nI sc), .int (nI lf), .ref ok, .int (nI kc), .int (nI cw), .int (nI ck), .int (nI cr), .int (nI sp)])), (on, .inl (cI, 30, .inl (aN nu))), (ob, .inl (cI, 30, .inl (aN bg))), (oe, .inl (cI, 30, .inl (aN en))), (ok, .inl (cI, 60, .inl (aN kp))), (k0, .inr (0, [.int (nI cw), .int (nI ck), .int (nI cr), .int (nI cf), .int (nI cn)])), (v0, .inr (5, [.ref vw, .ref vs, .int (nI cnt)])), (vw, .inl (cI, 5, .inl (aN wd))), (a0, .inr (2, [.ref ab, .int (nI bn), .int (nI bf), .int (nI kn), .ref ap, .ref aq, .ref ac, .int (zI room), .int (nI most), .int (nI bs)])), (ab, .inl (cI, 5, .inl (aN bc)))] H := hP
  have hD : va_D A [(o, .inr (4, [.ref on, .ref ob, .ref oe, .int (nI sc), .int (nI lf), .ref ok, .int (nI kc), .int (nI cw), .int (nI ck), .int (nI cr), .int (nI sp)])), (on, .inl (cI, 30, .inl (aN nu))), (ob, .inl (cI, 30, .inl (aN bg))), (oe, .inl (cI, 30, .inl (aN en))), (ok, .inl (cI, 60, .inl (aN kp))), (k0, .inr (0, [.int (nI cw), .int (nI ck), .int (nI cr), .int (nI cf), .int (nI cn)])), (v0, .inr (5, [.ref vw, .ref vs, .int (nI cnt)])), (vw, .inl (cI, 5, .inl (aN wd))), (a0, .inr (2, [.ref ab, .int (nI bn), .int (nI bf), .int (nI kn), .ref ap, .ref aq, .ref ac, .int (zI room), .int (nI most), .int (nI bs)])), (ab, .inl (cI, 5, .inl (aN bc)))] := hD
  refine lv_aload_n hx hb d_SU_make_24 rfl (lv_at hl 0 rfl) ?_
  refine lv_aload_n hx hb d_SU_make_25 rfl (lv_at hl 1 rfl) ?_
  refine va_get (D := (dC, dI)) (ci := 0) (v := .int (nI cr)) (C := R_CO) (T := F_CO) (N := 5) hx hb hts in_CO hown hK hP 5 rfl rfl 2 (by decide) (hts _ m_40) (fun _ h9 => h9) rfl d_SU_make_26 ?_
  refine va_put (D := (dC, dI)) (ci := 4) (v := .int (nI cr)) (ty := .int) (C := R_SU) (T := F_SU) (N := 11) hx hb hts in_SU t_SU t_SU_ok n_SU hown hK hP hD hS 0 rfl rfl 4 (by decide) (hts _ m_191) (fun _ h9 => h9) rfl (by decide +kernel) rfl rfl (Nat.le_of_ble_eq_true rfl) d_SU_make_29 (fun H locs hP hD hS => ?_)
  have hP : va_P (dC, dI) vwCl [(o, .inr (4, [.ref on, .ref ob, .ref oe, .int (nI sc), .int (nI cr), .ref ok, .int (nI kc), .int (nI cw), .int (nI ck), .int (nI cr), .int (nI sp)])), (on, .inl (cI, 30, .inl (aN nu))), (ob, .inl (cI, 30, .inl (aN bg))), (oe, .inl (cI, 30, .inl (aN en))), (ok, .inl (cI, 60, .inl (aN kp))), (k0, .inr (0, [.int (nI cw), .int (nI ck), .int (nI cr), .int (nI cf), .int (nI cn)])), (v0, .inr (5, [.ref vw, .ref vs, .int (nI cnt)])), (vw, .inl (cI, 5, .inl (aN wd))), (a0, .inr (2, [.ref ab, .int (nI bn), .int (nI bf), .int (nI kn), .ref ap, .ref aq, .ref ac, .int (zI room), .int (nI most), .int (nI bs)])), (ab, .inl (cI, 5, .inl (aN bc)))] H := hP
  have hD : va_D A [(o, .inr (4, [.ref on, .ref ob, .ref oe, .int (nI sc), .int (nI cr), .ref ok, .int (nI kc), .int (nI cw), .int (nI ck), .int (nI cr), .int (nI sp)])), (on, .inl (cI, 30, .inl (aN nu))), (ob, .inl (cI, 30, .inl (aN bg))), (oe, .inl (cI, 30, .inl (aN en))), (ok, .inl (cI, 60, .inl (aN kp))), (k0, .inr (0, [.int (nI cw), .int (nI ck), .int (nI cr), .int (nI cf), .int (nI cn)])), (v0, .inr (5, [.ref vw, .ref vs, .int (nI cnt)])), (vw, .inl (cI, 5, .inl (aN wd))), (a0, .inr (2, [.ref ab, .int (nI bn), .int (nI bf), .int (nI kn), .ref ap, .ref aq, .ref ac, .int (zI room), .int (nI most), .int (nI bs)])), (ab, .inl (cI, 5, .inl (aN bc)))] := hD
  refine lv_aload_n hx hb d_SU_make_32 rfl (lv_at hl 0 rfl) ?_
  refine lv_aload_n hx hb d_SU_make_33 rfl (lv_at hl 3 rfl) ?_
  refine va_get (D := (dC, dI)) (ci := 2) (v := .int (nI bf)) (C := R_PS) (T := F_PS) (N := 10) hx hb hts in_PS hown hK hP 8 rfl rfl 2 (by decide) (hts _ m_98) (fun _ h9 => h9) rfl d_SU_make_34 ?_
  refine va_put (D := (dC, dI)) (ci := 4) (v := .int (nI bf)) (ty := .int) (C := R_SU) (T := F_SU) (N := 11) hx hb hts in_SU t_SU t_SU_ok n_SU hown hK hP hD hS 0 rfl rfl 10 (by decide) (hts _ m_198) (fun _ h9 => h9) rfl (by decide +kernel) rfl rfl (Nat.le_of_ble_eq_true rfl) d_SU_make_37 (fun H locs hP hD hS => ?_)
  have hP : va_P (dC, dI) vwCl [(o, .inr (4, [.ref on, .ref ob, .ref oe, .int (nI sc), .int (nI cr), .ref ok, .int (nI kc), .int (nI cw), .int (nI ck), .int (nI cr), .int (nI bf)])), (on, .inl (cI, 30, .inl (aN nu))), (ob, .inl (cI, 30, .inl (aN bg))), (oe, .inl (cI, 30, .inl (aN en))), (ok, .inl (cI, 60, .inl (aN kp))), (k0, .inr (0, [.int (nI cw), .int (nI ck), .int (nI cr), .int (nI cf), .int (nI cn)])), (v0, .inr (5, [.ref vw, .ref vs, .int (nI cnt)])), (vw, .inl (cI, 5, .inl (aN wd))), (a0, .inr (2, [.ref ab, .int (nI bn), .int (nI bf), .int (nI kn), .ref ap, .ref aq, .ref ac, .int (zI room), .int (nI most), .int (nI bs)])), (ab, .inl (cI, 5, .inl (aN bc)))] H := hP
  have hD : va_D A [(o, .inr (4, [.ref on, .ref ob, .ref oe, .int (nI sc), .int (nI cr), .ref ok, .int (nI kc), .int (nI cw), .int (nI ck), .int (nI cr), .int (nI bf)])), (on, .inl (cI, 30, .inl (aN nu))), (ob, .inl (cI, 30, .inl (aN bg))), (oe, .inl (cI, 30, .inl (aN en))), (ok, .inl (cI, 60, .inl (aN kp))), (k0, .inr (0, [.int (nI cw), .int (nI ck), .int (nI cr), .int (nI cf), .int (nI cn)])), (v0, .inr (5, [.ref vw, .ref vs, .int (nI cnt)])), (vw, .inl (cI, 5, .inl (aN wd))), (a0, .inr (2, [.ref ab, .int (nI bn), .int (nI bf), .int (nI kn), .ref ap, .ref aq, .ref ac, .int (zI room), .int (nI most), .int (nI bs)])), (ab, .inl (cI, 5, .inl (aN bc)))] := hD
  refine lv_aload_n hx hb d_SU_make_40 rfl (lv_at hl 0 rfl) ?_
  refine lv_iconst (v := nI 0) hx hb d_SU_make_41 (by decide +kernel) ?_
  refine va_put (D := (dC, dI)) (ci := 4) (v := .int (nI 0)) (ty := .int) (C := R_SU) (T := F_SU) (N := 11) hx hb hts in_SU t_SU t_SU_ok n_SU hown hK hP hD hS 0 rfl rfl 3 (by decide) (hts _ m_189) (fun _ h9 => h9) rfl (by decide +kernel) rfl rfl (Nat.le_of_ble_eq_true rfl) d_SU_make_42 (fun H locs hP hD hS => ?_)
  have hP : va_P (dC, dI) vwCl [(o, .inr (4, [.ref on, .ref ob, .ref oe, .int (nI 0), .int (nI cr), .ref ok, .int (nI kc), .int (nI cw), .int (nI ck), .int (nI cr), .int (nI bf)])), (on, .inl (cI, 30, .inl (aN nu))), (ob, .inl (cI, 30, .inl (aN bg))), (oe, .inl (cI, 30, .inl (aN en))), (ok, .inl (cI, 60, .inl (aN kp))), (k0, .inr (0, [.int (nI cw), .int (nI ck), .int (nI cr), .int (nI cf), .int (nI cn)])), (v0, .inr (5, [.ref vw, .ref vs, .int (nI cnt)])), (vw, .inl (cI, 5, .inl (aN wd))), (a0, .inr (2, [.ref ab, .int (nI bn), .int (nI bf), .int (nI kn), .ref ap, .ref aq, .ref ac, .int (zI room), .int (nI most), .int (nI bs)])), (ab, .inl (cI, 5, .inl (aN bc)))] H := hP
  have hD : va_D A [(o, .inr (4, [.ref on, .ref ob, .ref oe, .int (nI 0), .int (nI cr), .ref ok, .int (nI kc), .int (nI cw), .int (nI ck), .int (nI cr), .int (nI bf)])), (on, .inl (cI, 30, .inl (aN nu))), (ob, .inl (cI, 30, .inl (aN bg))), (oe, .inl (cI, 30, .inl (aN en))), (ok, .inl (cI, 60, .inl (aN kp))), (k0, .inr (0, [.int (nI cw), .int (nI ck), .int (nI cr), .int (nI cf), .int (nI cn)])), (v0, .inr (5, [.ref vw, .ref vs, .int (nI cnt)])), (vw, .inl (cI, 5, .inl (aN wd))), (a0, .inr (2, [.ref ab, .int (nI bn), .int (nI bf), .int (nI kn), .ref ap, .ref aq, .ref ac, .int (zI room), .int (nI most), .int (nI bs)])), (ab, .inl (cI, 5, .inl (aN bc)))] := hD
  refine lv_aload_n hx hb d_SU_make_45 rfl (lv_at hl 0 rfl) ?_
  refine lv_iconst (v := nI 0) hx hb d_SU_make_46 (by decide +kernel) ?_
  refine va_put (D := (dC, dI)) (ci := 4) (v := .int (nI 0)) (ty := .int) (C := R_SU) (T := F_SU) (N := 11) hx hb hts in_SU t_SU t_SU_ok n_SU hown hK hP hD hS 0 rfl rfl 6 (by decide) (hts _ m_194) (fun _ h9 => h9) rfl (by decide +kernel) rfl rfl (Nat.le_of_ble_eq_true rfl) d_SU_make_47 (fun H locs hP hD hS => ?_)
  have hP : va_P (dC, dI) vwCl [(o, .inr (4, [.ref on, .ref ob, .ref oe, .int (nI 0), .int (nI cr), .ref ok, .int (nI 0), .int (nI cw), .int (nI ck), .int (nI cr), .int (nI bf)])), (on, .inl (cI, 30, .inl (aN nu))), (ob, .inl (cI, 30, .inl (aN bg))), (oe, .inl (cI, 30, .inl (aN en))), (ok, .inl (cI, 60, .inl (aN kp))), (k0, .inr (0, [.int (nI cw), .int (nI ck), .int (nI cr), .int (nI cf), .int (nI cn)])), (v0, .inr (5, [.ref vw, .ref vs, .int (nI cnt)])), (vw, .inl (cI, 5, .inl (aN wd))), (a0, .inr (2, [.ref ab, .int (nI bn), .int (nI bf), .int (nI kn), .ref ap, .ref aq, .ref ac, .int (zI room), .int (nI most), .int (nI bs)])), (ab, .inl (cI, 5, .inl (aN bc)))] H := hP
  have hD : va_D A [(o, .inr (4, [.ref on, .ref ob, .ref oe, .int (nI 0), .int (nI cr), .ref ok, .int (nI 0), .int (nI cw), .int (nI ck), .int (nI cr), .int (nI bf)])), (on, .inl (cI, 30, .inl (aN nu))), (ob, .inl (cI, 30, .inl (aN bg))), (oe, .inl (cI, 30, .inl (aN en))), (ok, .inl (cI, 60, .inl (aN kp))), (k0, .inr (0, [.int (nI cw), .int (nI ck), .int (nI cr), .int (nI cf), .int (nI cn)])), (v0, .inr (5, [.ref vw, .ref vs, .int (nI cnt)])), (vw, .inl (cI, 5, .inl (aN wd))), (a0, .inr (2, [.ref ab, .int (nI bn), .int (nI bf), .int (nI kn), .ref ap, .ref aq, .ref ac, .int (zI room), .int (nI most), .int (nI bs)])), (ab, .inl (cI, 5, .inl (aN bc)))] := hD
  refine lv_iconst (v := nI 0) hx hb d_SU_make_50 (by decide +kernel) ?_
  refine lv_istore (lv' := [(4, .int (nI 0)), (0, .ref o), (1, .ref k0), (2, .ref v0), (3, .ref a0)]) hx hb d_SU_make_51 hl (by decide) rfl (fun ls hl => ?_)
  refine lv_iconst (v := nI 0) hx hb d_SU_make_53 (by decide +kernel) ?_
  refine lv_istore (lv' := [(5, .int (nI 0)), (4, .int (nI 0)), (0, .ref o), (1, .ref k0), (2, .ref v0), (3, .ref a0)]) hx hb d_SU_make_54 hl (by decide) rfl (fun ls hl => ?_)
  have out : ∀ (n_out : Nat) (i9 : Nat) (sc : Nat) (kc : Nat) (x9 : Nat) (nu : Nat → Nat) (bg : Nat → Nat) (en : Nat → Nat) (kp : Nat → Nat), (cnt + 1 ≤ i9 + n_out) → (i9 ≤ cnt) → (sc = sumN bc i9) → (x9 = sumN (fun j => wd (nu j) + cf) sc) → (x9 ≤ sc * 20100) → (LYI bc wd cf sc nu bg en) → (KN bg en sc kc kp) → ∀ (H : Heap) (locs : List Loc) (ls : Array Slot), va_P (dC, dI) vwCl [(o, .inr (4, [.ref on, .ref ob, .ref oe, .int (nI sc), .int (nI cr), .ref ok, .int (nI kc), .int (nI cw), .int (nI ck), .int (nI cr), .int (nI bf)])), (on, .inl (cI, 30, .inl (aN nu))), (ob, .inl (cI, 30, .inl (aN bg))), (oe, .inl (cI, 30, .inl (aN en))), (ok, .inl (cI, 60, .inl (aN kp))), (k0, .inr (0, [.int (nI cw), .int (nI ck), .int (nI cr), .int (nI cf), .int (nI cn)])), (v0, .inr (5, [.ref vw, .ref vs, .int (nI cnt)])), (vw, .inl (cI, 5, .inl (aN wd))), (a0, .inr (2, [.ref ab, .int (nI bn), .int (nI bf), .int (nI kn), .ref ap, .ref aq, .ref ac, .int (zI room), .int (nI most), .int (nI bs)])), (ab, .inl (cI, 5, .inl (aN bc)))] H → va_D A [(o, .inr (4, [.ref on, .ref ob, .ref oe, .int (nI sc), .int (nI cr), .ref ok, .int (nI kc), .int (nI cw), .int (nI ck), .int (nI cr), .int (nI bf)])), (on, .inl (cI, 30, .inl (aN nu))), (ob, .inl (cI, 30, .inl (aN bg))), (oe, .inl (cI, 30, .inl (aN en))), (ok, .inl (cI, 60, .inl (aN kp))), (k0, .inr (0, [.int (nI cw), .int (nI ck), .int (nI cr), .int (nI cf), .int (nI cn)])), (v0, .inr (5, [.ref vw, .ref vs, .int (nI cnt)])), (vw, .inl (cI, 5, .inl (aN wd))), (a0, .inr (2, [.ref ab, .int (nI bn), .int (nI bf), .int (nI kn), .ref ap, .ref aq, .ref ac, .int (zI room), .int (nI most), .int (nI bs)])), (ab, .inl (cI, 5, .inl (aN bc)))] → va_S A s.heap H locs → lv_has ls 7 [(0, .ref o), (1, .ref k0), (2, .ref v0), (3, .ref a0), (4, .int (nI x9)), (5, .int (nI i9))] → W p l e (headSpec w_SU_make { frames := 2, cells := 0, slots := 0, locals := 45 }).room s m [.ref o, .ref k0, .ref v0, .ref a0].toArray below meth c H locs 0 0 (MQ below (va_Qv (fun (u : Nat × Nat × (Nat → Nat) × (Nat → Nat) × (Nat → Nat) × (Nat → Nat)) => u.1 = sumN bc cnt ∧ LYI bc wd cf u.1 u.2.2.1 u.2.2.2.1 u.2.2.2.2.1 ∧ KN u.2.2.2.1 u.2.2.2.2.1 u.1 u.2.1 u.2.2.2.2.2) (rw_B (dC, dI) vwCl [(cI, .int)] A (fun u : Nat × Nat × (Nat → Nat) × (Nat → Nat) × (Nat → Nat) × (Nat → Nat) => [(o, .inr (4, [.ref on, .ref ob, .ref oe, .int (nI u.1), .int (nI cr), .ref ok, .int (nI u.2.1), .int (nI cw), .int (nI ck), .int (nI cr), .int (nI bf)])), (on, .inl (cI, 30, .inl (aN u.2.2.1))), (ob, .inl (cI, 30, .inl (aN u.2.2.2.1))), (oe, .inl (cI, 30, .inl (aN u.2.2.2.2.1))), (ok, .inl (cI, 60, .inl (aN u.2.2.2.2.2))), (k0, .inr (0, [.int (nI cw), .int (nI ck), .int (nI cr), .int (nI cf), .int (nI cn)])), (v0, .inr (5, [.ref vw, .ref vs, .int (nI cnt)])), (vw, .inl (cI, 5, .inl (aN wd))), (a0, .inr (2, [.ref ab, .int (nI bn), .int (nI bf), .int (nI kn), .ref ap, .ref aq, .ref ac, .int (zI room), .int (nI most), .int (nI bs)])), (ab, .inl (cI, 5, .inl (aN bc)))])) A) [.ref o, .ref k0, .ref v0, .ref a0].toArray s 0 0 A) (F0 m 56 ls []) := by
    intro n_out
    induction n_out with
    | zero =>
      intro i9 sc kc x9 nu bg en kp hm hi9 hsc hxx hx2 hLY hKN
      exact absurd hm (by omega)
    | succ n_out ih_out =>
      intro i9 sc kc x9 nu bg en kp hm hi9 hsc hxx hx2 hLY hKN H locs ls hP hD hS hl
      refine lv_iload hx hb d_SU_make_56 (lv_at hl 5 rfl) ?_
      refine lv_aload_n hx hb d_SU_make_58 rfl (lv_at hl 2 rfl) ?_
      refine va_get (D := (dC, dI)) (ci := 5) (v := .int (nI cnt)) (C := R_WI) (T := F_WI) (N := 3) hx hb hts in_WI hown hK hP 6 rfl rfl 2 (by decide) (hts _ m_75) (fun _ h9 => h9) rfl d_SU_make_59 ?_
      refine ix_icmp_ge (tgt := 127) hx hb (nI_tI (n := i9) (by omega)) (nI_tI (n := cnt) (by omega)) d_SU_make_62 (by decide) (fun c_62 => ?_) (fun c_62 => ?_)
      · exact W.vret hx hb hr (fun t ht hW => ⟨⟨(sc, kc, nu, bg, en, kp), rfl, ⟨(show i9 = cnt by omega) ▸ hsc, hLY, hKN⟩, by rw [ht]; exact hP, va_K.moved hW.alike hK, hD⟩, hS.F ht⟩) hS.2.2 d_SU_make_127
      refine lv_iconst (v := nI 0) hx hb d_SU_make_65 (by decide +kernel) ?_
      refine lv_istore (lv' := [(6, .int (nI 0)), (0, .ref o), (1, .ref k0), (2, .ref v0), (3, .ref a0), (4, .int (nI x9)), (5, .int (nI i9))]) hx hb d_SU_make_66 hl (by decide) rfl (fun ls hl => ?_)
      have hic : i9 < cnt := by omega
      have hwi := hwd i9 hic
      have hbi := hbc i9 hic
      have hti := htot i9 (by omega)
      have inn : ∀ (n_inn : Nat) (n9 : Nat) (sc : Nat) (kc : Nat) (x9 : Nat) (nu : Nat → Nat) (bg : Nat → Nat) (en : Nat → Nat) (kp : Nat → Nat), (bc i9 + 1 ≤ n9 + n_inn) → (n9 ≤ bc i9) → (sc = sumN bc i9 + n9) → (x9 = sumN (fun j => wd (nu j) + cf) sc) → (x9 ≤ sc * 20100) → (LYI bc wd cf sc nu bg en) → (KN bg en sc kc kp) → ∀ (H : Heap) (locs : List Loc) (ls : Array Slot), va_P (dC, dI) vwCl [(o, .inr (4, [.ref on, .ref ob, .ref oe, .int (nI sc), .int (nI cr), .ref ok, .int (nI kc), .int (nI cw), .int (nI ck), .int (nI cr), .int (nI bf)])), (on, .inl (cI, 30, .inl (aN nu))), (ob, .inl (cI, 30, .inl (aN bg))), (oe, .inl (cI, 30, .inl (aN en))), (ok, .inl (cI, 60, .inl (aN kp))), (k0, .inr (0, [.int (nI cw), .int (nI ck), .int (nI cr), .int (nI cf), .int (nI cn)])), (v0, .inr (5, [.ref vw, .ref vs, .int (nI cnt)])), (vw, .inl (cI, 5, .inl (aN wd))), (a0, .inr (2, [.ref ab, .int (nI bn), .int (nI bf), .int (nI kn), .ref ap, .ref aq, .ref ac, .int (zI room), .int (nI most), .int (nI bs)])), (ab, .inl (cI, 5, .inl (aN bc)))] H → va_D A [(o, .inr (4, [.ref on, .ref ob, .ref oe, .int (nI sc), .int (nI cr), .ref ok, .int (nI kc), .int (nI cw), .int (nI ck), .int (nI cr), .int (nI bf)])), (on, .inl (cI, 30, .inl (aN nu))), (ob, .inl (cI, 30, .inl (aN bg))), (oe, .inl (cI, 30, .inl (aN en))), (ok, .inl (cI, 60, .inl (aN kp))), (k0, .inr (0, [.int (nI cw), .int (nI ck), .int (nI cr), .int (nI cf), .int (nI cn)])), (v0, .inr (5, [.ref vw, .ref vs, .int (nI cnt)])), (vw, .inl (cI, 5, .inl (aN wd))), (a0, .inr (2, [.ref ab, .int (nI bn), .int (nI bf), .int (nI kn), .ref ap, .ref aq, .ref ac, .int (zI room), .int (nI most), .int (nI bs)])), (ab, .inl (cI, 5, .inl (aN bc)))] → va_S A s.heap H locs → lv_has ls 7 [(0, .ref o), (1, .ref k0), (2, .ref v0), (3, .ref a0), (4, .int (nI x9)), (5, .int (nI i9)), (6, .int (nI n9))] → W p l e (headSpec w_SU_make { frames := 2, cells := 0, slots := 0, locals := 45 }).room s m [.ref o, .ref k0, .ref v0, .ref a0].toArray below meth c H locs 0 0 (MQ below (va_Qv (fun (u : Nat × Nat × (Nat → Nat) × (Nat → Nat) × (Nat → Nat) × (Nat → Nat)) => u.1 = sumN bc cnt ∧ LYI bc wd cf u.1 u.2.2.1 u.2.2.2.1 u.2.2.2.2.1 ∧ KN u.2.2.2.1 u.2.2.2.2.1 u.1 u.2.1 u.2.2.2.2.2) (rw_B (dC, dI) vwCl [(cI, .int)] A (fun u : Nat × Nat × (Nat → Nat) × (Nat → Nat) × (Nat → Nat) × (Nat → Nat) => [(o, .inr (4, [.ref on, .ref ob, .ref oe, .int (nI u.1), .int (nI cr), .ref ok, .int (nI u.2.1), .int (nI cw), .int (nI ck), .int (nI cr), .int (nI bf)])), (on, .inl (cI, 30, .inl (aN u.2.2.1))), (ob, .inl (cI, 30, .inl (aN u.2.2.2.1))), (oe, .inl (cI, 30, .inl (aN u.2.2.2.2.1))), (ok, .inl (cI, 60, .inl (aN u.2.2.2.2.2))), (k0, .inr (0, [.int (nI cw), .int (nI ck), .int (nI cr), .int (nI cf), .int (nI cn)])), (v0, .inr (5, [.ref vw, .ref vs, .int (nI cnt)])), (vw, .inl (cI, 5, .inl (aN wd))), (a0, .inr (2, [.ref ab, .int (nI bn), .int (nI bf), .int (nI kn), .ref ap, .ref aq, .ref ac, .int (zI room), .int (nI most), .int (nI bs)])), (ab, .inl (cI, 5, .inl (aN bc)))])) A) [.ref o, .ref k0, .ref v0, .ref a0].toArray s 0 0 A) (F0 m 68 ls []) := by
        intro n_inn
        induction n_inn with
        | zero =>
          intro n9 sc kc x9 nu bg en kp hm2 hn9 hsc hxx hx2 hLY hKN
          exact absurd hm2 (by omega)
        | succ n_inn ih_inn =>
          intro n9 sc kc x9 nu bg en kp hm2 hn9 hsc hxx hx2 hLY hKN H locs ls hP hD hS hl
          refine lv_iload hx hb d_SU_make_68 (lv_at hl 6 rfl) ?_
          refine lv_aload_n hx hb d_SU_make_70 rfl (lv_at hl 3 rfl) ?_
          refine va_get (D := (dC, dI)) (ci := 2) (v := .ref ab) (C := R_PS) (T := F_PS) (N := 10) hx hb hts in_PS hown hK hP 8 rfl rfl 0 (by decide) (hts _ m_93) (fun _ h9 => h9) rfl d_SU_make_71 ?_
          refine lv_iload hx hb d_SU_make_74 (lv_at hl 5 rfl) ?_
          refine ix_ialdN (i := i9) hx hb hK hP 9 0 rfl rfl (by omega) (by decide) d_SU_make_76 ?_
          refine ix_icmp_ge (tgt := 121) hx hb (nI_tI (n := n9) (by omega)) (nI_tI (n := bc i9) (by omega)) d_SU_make_77 (by decide) (fun c_77 => ?_) (fun c_77 => ?_)
          · refine lv_iinc (v := nI (i9 + 1)) (lv' := [(5, .int (nI (i9 + 1))), (0, .ref o), (1, .ref k0), (2, .ref v0), (3, .ref a0), (4, .int (nI x9)), (6, .int (nI n9))]) hx hb d_SU_make_121 hl (k := 5) rfl (n_incN i9 1) (by decide) rfl (fun ls hl => ?_)
            refine lv_goto (tgt := 56) hx hb d_SU_make_124 (by decide) ?_
            exact ih_out (i9 + 1) sc kc x9 nu bg en kp (by omega) (by omega) (by rw [hsc, show n9 = bc i9 by omega]; rfl) hxx hx2 hLY hKN _ _ _ hP hD hS (lv_sub hl [1, 2, 3, 4, 5, 0] rfl)
          have hkc : kc ≤ 2 * sc := by rw [hKN.1]; exact (kq_ge bg en sc).2
          have hpu := hLY.push (w := i9) (x := x9) (by omega) (by show sc < sumN bc i9 + bc i9; omega) hxx
          refine lv_aload_n hx hb d_SU_make_80 rfl (lv_at hl 0 rfl) ?_
          refine lv_iload hx hb d_SU_make_81 (lv_at hl 5 rfl) ?_
          refine lv_iload hx hb d_SU_make_83 (lv_at hl 4 rfl) ?_
          refine lv_iload hx hb d_SU_make_85 (lv_at hl 4 rfl) ?_
          refine lv_aload_n hx hb d_SU_make_87 rfl (lv_at hl 2 rfl) ?_
          refine va_get (D := (dC, dI)) (ci := 5) (v := .ref vw) (C := R_WI) (T := F_WI) (N := 3) hx hb hts in_WI hown hK hP 6 rfl rfl 0 (by decide) (hts _ m_68) (fun _ h9 => h9) rfl d_SU_make_88 ?_
          refine lv_iload hx hb d_SU_make_91 (lv_at hl 5 rfl) ?_
          refine ix_ialdN (i := i9) hx hb hK hP 7 0 rfl rfl (by omega) (by decide) d_SU_make_93 ?_
          refine lv_iadd hx hb d_SU_make_94 ?_
          refine lv_topr (show _ = nI (x9 + (wd i9)) from nn_add _ _) ?_
          have hPc := hP.sub (ws' := [(o, .inr (4, [.ref on, .ref ob, .ref oe, .int (nI sc), .int (nI cr), .ref ok, .int (nI kc), .int (nI cw), .int (nI ck), .int (nI cr), .int (nI bf)])), (on, .inl (cI, 30, .inl (aN nu))), (ob, .inl (cI, 30, .inl (aN bg))), (oe, .inl (cI, 30, .inl (aN en))), (ok, .inl (cI, 60, .inl (aN kp)))]) [0, 1, 2, 3, 4] rfl
          have hDc := hD.sub (ws' := [(o, .inr (4, [.ref on, .ref ob, .ref oe, .int (nI sc), .int (nI cr), .ref ok, .int (nI kc), .int (nI cw), .int (nI ck), .int (nI cr), .int (nI bf)])), (on, .inl (cI, 30, .inl (aN nu))), (ob, .inl (cI, 30, .inl (aN bg))), (oe, .inl (cI, 30, .inl (aN en))), (ok, .inl (cI, 60, .inl (aN kp)))]) [0, 1, 2, 3, 4] (by decide) rfl
          have hFc := va_free (wc := [(o, .inr (4, [.ref on, .ref ob, .ref oe, .int (nI sc), .int (nI cr), .ref ok, .int (nI kc), .int (nI cw), .int (nI ck), .int (nI cr), .int (nI bf)])), (on, .inl (cI, 30, .inl (aN nu))), (ob, .inl (cI, 30, .inl (aN bg))), (oe, .inl (cI, 30, .inl (aN en))), (ok, .inl (cI, 60, .inl (aN kp)))]) hD hS hA [0, 1, 2, 3, 4] rfl
          refine va_callv (va_runV (As := [.int (nI i9), .int (nI x9), .int (nI (x9 + (wd i9)))]) (rest := []) ⟨hx, hb, hml, hown, hts⟩ (c_SU_lay l dC dI H.size o on ob oe ok cI nu bg en kp sc cr kc cw ck cr bf i9 x9 (x9 + wd i9) (by omega) (by omega) (by omega) (fun h0 => by have := hKN.last h0; have := hLY.last this.1; omega) (by omega)) (cwV 3 hts (gw_V m_480 m_482 s_11 m_7 m_483) rfl rfl rfl (by decide +kernel) ⟨Nat.le_of_ble_eq_true rfl, Nat.le_of_ble_eq_true rfl⟩) ⟨rw_blind, va_recv hK hPc (ci := 4) (q0 := 0) rfl rfl, fun U hU hW => ⟨rfl, by rw [hU], by rw [hU]; exact hPc, va_K.moved hW.alike hK, hDc.weaken (fun _ _ _ _ => trivial)⟩⟩ rfl rfl hl.1 rfl (lv_room (Nat.le_of_ble_eq_true rfl)) d_SU_make_95 ⟨Nat.le_of_ble_eq_true rfl, Nat.le_of_ble_eq_true rfl⟩) hS (fun q _ h => hFc q h) hFc (fun u t H1 locs ht hvm hw hB hz1 hk1 hS => ?_)
          obtain ⟨kc1, kp1⟩ := u
          obtain ⟨hP1, hK1, hD1⟩ := hB
          rw [ht] at hP1
          try dsimp only at hw
          obtain ⟨hP, hD⟩ := va_join (wr := [(k0, .inr (0, [.int (nI cw), .int (nI ck), .int (nI cr), .int (nI cf), .int (nI cn)])), (v0, .inr (5, [.ref vw, .ref vs, .int (nI cnt)])), (vw, .inl (cI, 5, .inl (aN wd))), (a0, .inr (2, [.ref ab, .int (nI bn), .int (nI bf), .int (nI kn), .ref ap, .ref aq, .ref ac, .int (zI room), .int (nI most), .int (nI bs)])), (ab, .inl (cI, 5, .inl (aN bc)))]) (w1 := [(o, .inr (4, [.ref on, .ref ob, .ref oe, .int (nI (sc + 1)), .int (nI cr), .ref ok, .int (nI kc1), .int (nI cw), .int (nI ck), .int (nI cr), .int (nI bf)])), (on, .inl (cI, 30, .inl (aN (up nu sc i9)))), (ob, .inl (cI, 30, .inl (aN (up bg sc x9)))), (oe, .inl (cI, 30, .inl (aN (up en sc (x9 + wd i9))))), (ok, .inl (cI, 60, .inl (aN kp1)))]) hP hD [0, 1, 2, 3, 4] [5, 6, 7, 8, 9] rfl rfl (by decide) (by decide) hk1 hFc hP1 hD1
          generalize H1 = H at hP hS ⊢
          have hP : va_P (dC, dI) vwCl [(o, .inr (4, [.ref on, .ref ob, .ref oe, .int (nI (sc + 1)), .int (nI cr), .ref ok, .int (nI kc1), .int (nI cw), .int (nI ck), .int (nI cr), .int (nI bf)])), (on, .inl (cI, 30, .inl (aN (up nu sc i9)))), (ob, .inl (cI, 30, .inl (aN (up bg sc x9)))), (oe, .inl (cI, 30, .inl (aN (up en sc (x9 + wd i9))))), (ok, .inl (cI, 60, .inl (aN kp1))), (k0, .inr (0, [.int (nI cw), .int (nI ck), .int (nI cr), .int (nI cf), .int (nI cn)])), (v0, .inr (5, [.ref vw, .ref vs, .int (nI cnt)])), (vw, .inl (cI, 5, .inl (aN wd))), (a0, .inr (2, [.ref ab, .int (nI bn), .int (nI bf), .int (nI kn), .ref ap, .ref aq, .ref ac, .int (zI room), .int (nI most), .int (nI bs)])), (ab, .inl (cI, 5, .inl (aN bc)))] H := hP.sub [5, 6, 7, 8, 9, 0, 1, 2, 3, 4] rfl
          have hD : va_D A [(o, .inr (4, [.ref on, .ref ob, .ref oe, .int (nI (sc + 1)), .int (nI cr), .ref ok, .int (nI kc1), .int (nI cw), .int (nI ck), .int (nI cr), .int (nI bf)])), (on, .inl (cI, 30, .inl (aN (up nu sc i9)))), (ob, .inl (cI, 30, .inl (aN (up bg sc x9)))), (oe, .inl (cI, 30, .inl (aN (up en sc (x9 + wd i9))))), (ok, .inl (cI, 60, .inl (aN kp1))), (k0, .inr (0, [.int (nI cw), .int (nI ck), .int (nI cr), .int (nI cf), .int (nI cn)])), (v0, .inr (5, [.ref vw, .ref vs, .int (nI cnt)])), (vw, .inl (cI, 5, .inl (aN wd))), (a0, .inr (2, [.ref ab, .int (nI bn), .int (nI bf), .int (nI kn), .ref ap, .ref aq, .ref ac, .int (zI room), .int (nI most), .int (nI bs)])), (ab, .inl (cI, 5, .inl (aN bc)))] := hD.sub [5, 6, 7, 8, 9, 0, 1, 2, 3, 4] (by decide) rfl
          refine lv_iload hx hb d_SU_make_98 (lv_at hl 4 rfl) ?_
          refine lv_aload_n hx hb d_SU_make_100 rfl (lv_at hl 2 rfl) ?_
          refine va_get (D := (dC, dI)) (ci := 5) (v := .ref vw) (C := R_WI) (T := F_WI) (N := 3) hx hb hts in_WI hown hK hP 6 rfl rfl 0 (by decide) (hts _ m_68) (fun _ h9 => h9) rfl d_SU_make_101 ?_
          refine lv_iload hx hb d_SU_make_104 (lv_at hl 5 rfl) ?_
          refine ix_ialdN (i := i9) hx hb hK hP 7 0 rfl rfl (by omega) (by decide) d_SU_make_106 ?_
          refine lv_aload_n hx hb d_SU_make_107 rfl (lv_at hl 1 rfl) ?_
          refine va_get (D := (dC, dI)) (ci := 0) (v := .int (nI cf)) (C := R_CO) (T := F_CO) (N := 5) hx hb hts in_CO hown hK hP 5 rfl rfl 3 (by decide) (hts _ m_46) (fun _ h9 => h9) rfl d_SU_make_108 ?_
          refine lv_iadd hx hb d_SU_make_111 ?_
          refine lv_topr (show _ = nI ((wd i9) + cf) from nn_add _ _) ?_
          refine lv_iadd hx hb d_SU_make_112 ?_
          refine lv_topr (show _ = nI (x9 + ((wd i9) + cf)) from nn_add _ _) ?_
          refine lv_istore (lv' := [(4, .int (nI (x9 + ((wd i9) + cf)))), (0, .ref o), (1, .ref k0), (2, .ref v0), (3, .ref a0), (5, .int (nI i9)), (6, .int (nI n9))]) hx hb d_SU_make_113 hl (by decide) rfl (fun ls hl => ?_)
          refine lv_iinc (v := nI (n9 + 1)) (lv' := [(6, .int (nI (n9 + 1))), (4, .int (nI (x9 + ((wd i9) + cf)))), (0, .ref o), (1, .ref k0), (2, .ref v0), (3, .ref a0), (5, .int (nI i9))]) hx hb d_SU_make_115 hl (k := 6) rfl (n_incN n9 1) (by decide) rfl (fun ls hl => ?_)
          refine lv_goto (tgt := 68) hx hb d_SU_make_118 (by decide) ?_
          exact ih_inn (n9 + 1) (sc + 1) kc1 (x9 + ((wd i9) + cf)) (up nu sc i9) (up bg sc x9) (up en sc (x9 + wd i9)) kp1 (by omega) (by omega) (by omega) hpu.2 (by rw [Nat.succ_mul]; omega) hpu.1 (by have := hKN.push (b2 := x9) (e2 := x9 + wd i9) (by omega); rw [← hw] at this; exact this) _ _ _ hP hD hS (lv_sub hl [2, 3, 4, 5, 1, 6, 0] rfl)
      exact inn (bc i9 + 1) 0 sc kc x9 nu bg en kp (by omega) (by omega) (by omega) hxx hx2 hLY hKN _ _ _ hP hD hS (lv_sub hl [1, 2, 3, 4, 5, 6, 0] rfl)
  exact out (cnt + 1) 0 0 0 0 nu bg en kp (by omega) (by omega) rfl rfl (by omega) (fun _ h => absurd h (Nat.not_lt_zero _)) ⟨rfl, fun _ h => absurd h (Nat.not_lt_zero _)⟩ _ _ _ hP hD hS (lv_sub hl [2, 3, 4, 5, 1, 0] rfl)
set_option maxHeartbeats 4000000 in
set_option maxRecDepth 100000 in
/-- deliver(counts): so many fewer are wanted -/
theorem c_WI_deliver (l : Launch) (dC : Nat → ClassId) (dI : Nat → Nat → Nat) (sz : Nat) (v0 vw vs : Nat) (ab : Nat) (cI : ClassId) (st bc : Nat → Nat) (cnt : Nat) (hc5 : cnt ≤ 5) (hbc : ∀ i, i < cnt → bc i ≤ st i) : Met l y_WI_deliver w_WI_deliver { frames := 0, cells := 0, slots := 0, locals := 0 } (rw_Pc (dC, dI) vwCl [(cI, .int)] sz [.ref v0, .ref ab] [(v0, .inr (5, [.ref vw, .ref vs, .int (nI cnt)])), (vs, .inl (cI, 5, .inl (aN st))), (ab, .inl (cI, 5, .inl (aN bc)))]) (va_Qv (fun (u : (Nat → Nat)) => (∀ j, j < cnt → u j = st j - bc j) ∧ ∀ j, cnt ≤ j → u j = st j) (rw_B (dC, dI) vwCl [(cI, .int)] (va_A [(v0, .inr (5, [.ref vw, .ref vs, .int (nI cnt)])), (vs, .inl (cI, 5, .inl (aN st))), (ab, .inl (cI, 5, .inl (aN bc)))] sz) (fun u : (Nat → Nat) => [(v0, .inr (5, [.ref vw, .ref vs, .int (nI cnt)])), (vs, .inl (cI, 5, .inl (aN u))), (ab, .inl (cI, 5, .inl (aN bc)))])) (va_A [(v0, .inr (5, [.ref vw, .ref vs, .int (nI cnt)])), (vs, .inl (cI, 5, .inl (aN st))), (ab, .inl (cI, 5, .inl (aN bc)))] sz)) 0 0 (va_A [(v0, .inr (5, [.ref vw, .ref vs, .int (nI cnt)])), (vs, .inl (cI, 5, .inl (aN st))), (ab, .inl (cI, 5, .inl (aN bc)))] sz) := by
  refine Met.ofW (cc := b_WI_deliver) (maxL := 3) (ret := none) (by decide) rfl ?_
  intro p e s m args below meth c s₁ B hml hv
  obtain ⟨rfl, hsz, hP, hK, hD0⟩ := hv
  have hx := B.exec
  have hb := B.bytes
  have hr := B.returns
  have hts := gw_h (atoms_spec (ws := w_WI_deliver) B.pre)
  have hown : s.vm.findClass R_WI = some m.cls := findClass_of_methodNamed B.named
  have hlocks := B.notSynchronized
  subst hsz
  have hD := hD0.self (sz := s.heap.size)
  generalize hAe : va_A [(v0, .inr (5, [.ref vw, .ref vs, .int (nI cnt)])), (vs, .inl (cI, 5, .inl (aN st))), (ab, .inl (cI, 5, .inl (aN bc)))] s.heap.size = A at hD ⊢
  have hA : ∀ q : Nat, s.heap.size ≤ q → A q := fun q h => by rw [← hAe]; exact Or.inr h
  have hS : va_S A s.heap s.heap [] := va_S.rf
  have hP : va_P (dC, dI) vwCl [(v0, .inr (5, [.ref vw, .ref vs, .int (nI cnt)])), (vs, .inl (cI, 5, .inl (aN st))), (ab, .inl (cI, 5, .inl (aN bc)))] s.heap := hP
  have hl := lv_entry ([.ref v0, .ref ab]) (n := 3) (Nat.le_of_ble_eq_true rfl)
  rw [lg_entry_eq]
  generalize (lg_sl ([.ref v0, .ref ab]) ++ List.replicate (3 - (lg_sl ([.ref v0, .ref ab])).length) Slot.unset).toArray = ls at hl ⊢
  have hl : lv_has ls 3 [(0, .ref v0), (1, .ref ab)] := hl
  refine lv_iconst (v := nI 0) hx hb d_WI_deliver_0 (by decide +kernel) ?_
  refine lv_istore_n (lv' := [(2, .int (nI 0)), (0, .ref v0), (1, .ref ab)]) hx hb d_WI_deliver_1 rfl hl (by decide) rfl (fun ls hl => ?_)
  have out : ∀ (n_out : Nat) (i9 : Nat) (sT : Nat → Nat), (cnt + 1 ≤ i9 + n_out) → (i9 ≤ cnt) → (∀ j, j < i9 → sT j = st j - bc j) → (∀ j, i9 ≤ j → sT j = st j) → ∀ (H : Heap) (locs : List Loc) (ls : Array Slot), va_P (dC, dI) vwCl [(v0, .inr (5, [.ref vw, .ref vs, .int (nI cnt)])), (vs, .inl (cI, 5, .inl (aN sT))), (ab, .inl (cI, 5, .inl (aN bc)))] H → va_D A [(v0, .inr (5, [.ref vw, .ref vs, .int (nI cnt)])), (vs, .inl (cI, 5, .inl (aN sT))), (ab, .inl (cI, 5, .inl (aN bc)))] → va_S A s.heap H locs → lv_has ls 3 [(0, .ref v0), (1, .ref ab), (2, .int (nI i9))] → W p l e (headSpec w_WI_deliver { frames := 0, cells := 0, slots := 0, locals := 0 }).room s m [.ref v0, .ref ab].toArray below meth c H locs 0 0 (MQ below (va_Qv (fun (u : (Nat → Nat)) => (∀ j, j < cnt → u j = st j - bc j) ∧ ∀ j, cnt ≤ j → u j = st j) (rw_B (dC, dI) vwCl [(cI, .int)] A (fun u : (Nat → Nat) => [(v0, .inr (5, [.ref vw, .ref vs, .int (nI cnt)])), (vs, .inl (cI, 5, .inl (aN u))), (ab, .inl (cI, 5, .inl (aN bc)))])) A) [.ref v0, .ref ab].toArray s 0 0 A) (F0 m 2 ls []) := by
    intro n_out
    induction n_out with
    | zero =>
      intro i9 sT hm hi9 hI1 hI2
      exact absurd hm (by omega)
    | succ n_out ih_out =>
      intro i9 sT hm hi9 hI1 hI2 H locs ls hP hD hS hl
      refine lv_iload_n hx hb d_WI_deliver_2 rfl (lv_at hl 2 rfl) ?_
      refine lv_aload_n hx hb d_WI_deliver_3 rfl (lv_at hl 0 rfl) ?_
      refine va_get (D := (dC, dI)) (ci := 5) (v := .int (nI cnt)) (C := R_WI) (T := F_WI) (N := 3) hx hb hts in_WI hown hK hP 0 rfl rfl 2 (by decide) (hts _ m_74) (fun _ h9 => h9) rfl d_WI_deliver_4 ?_
      refine ix_icmp_ge (tgt := 28) hx hb (nI_tI (n := i9) (by omega)) (nI_tI (n := cnt) (by omega)) d_WI_deliver_7 (by decide) (fun c_7 => ?_) (fun c_7 => ?_)
      · exact W.vret hx hb hr (fun t ht hW => ⟨⟨sT, rfl, ⟨fun j hj => hI1 j (by omega), fun j hj => hI2 j (by omega)⟩, by rw [ht]; exact hP, va_K.moved hW.alike hK, hD⟩, hS.F ht⟩) hS.2.2 d_WI_deliver_28
      refine lv_aload_n hx hb d_WI_deliver_10 rfl (lv_at hl 0 rfl) ?_
      refine va_get (D := (dC, dI)) (ci := 5) (v := .ref vs) (C := R_WI) (T := F_WI) (N := 3) hx hb hts in_WI hown hK hP 0 rfl rfl 1 (by decide) (hts _ m_71) (fun _ h9 => h9) rfl d_WI_deliver_11 ?_
      refine lv_iload_n hx hb d_WI_deliver_14 rfl (lv_at hl 2 rfl) ?_
      refine lv_dup2_11 hx hb d_WI_deliver_15 rfl rfl ?_
      refine ix_ialdN (i := i9) hx hb hK hP 1 0 rfl rfl (by omega) (by decide) d_WI_deliver_16 ?_
      refine lv_aload_n hx hb d_WI_deliver_17 rfl (lv_at hl 1 rfl) ?_
      refine lv_iload_n hx hb d_WI_deliver_18 rfl (lv_at hl 2 rfl) ?_
      refine ix_ialdN (i := i9) hx hb hK hP 2 0 rfl rfl (by omega) (by decide) d_WI_deliver_19 ?_
      refine lv_isub hx hb d_WI_deliver_20 ?_
      refine lv_topr (show _ = nI ((sT i9) - (bc i9)) from nn_subN (by rw [hI2 i9 (by omega)]; exact hbc i9 (by omega))) ?_
      refine ix_iast (i := i9) hx hb hK hP hD hS 1 0 rfl rfl (by omega) (by decide) d_WI_deliver_21 (fun H locs hP hD hS => ?_)
      have hP : va_P (dC, dI) vwCl [(v0, .inr (5, [.ref vw, .ref vs, .int (nI cnt)])), (vs, .inl (cI, 5, .inl (aN (up sT i9 ((sT i9) - (bc i9)))))), (ab, .inl (cI, 5, .inl (aN bc)))] H := hP
      have hD : va_D A [(v0, .inr (5, [.ref vw, .ref vs, .int (nI cnt)])), (vs, .inl (cI, 5, .inl (aN (up sT i9 ((sT i9) - (bc i9)))))), (ab, .inl (cI, 5, .inl (aN bc)))] := hD
      refine lv_iinc (v := nI (i9 + 1)) (lv' := [(2, .int (nI (i9 + 1))), (0, .ref v0), (1, .ref ab)]) hx hb d_WI_deliver_22 hl (k := 2) rfl (n_incN i9 1) (by decide) rfl (fun ls hl => ?_)
      refine lv_goto (tgt := 2) hx hb d_WI_deliver_25 (by decide) ?_
      exact ih_out (i9 + 1) (up sT i9 (sT i9 - bc i9)) (by omega) (by omega) (lt_s (fun j hj => by rw [up_n _ _ (by omega)]; exact hI1 j hj) (by rw [up_s, hI2 i9 (Nat.le_refl _)])) (fun j hj => by rw [up_n _ _ (by omega)]; exact hI2 j (by omega)) _ _ _ hP hD hS (lv_sub hl [1, 2, 0] rfl)
  exact out (cnt + 1) 0 st (by omega) (by omega) (fun _ h => absurd h (Nat.not_lt_zero _)) (fun _ _ => rfl) _ _ _ hP hD hS (lv_sub hl [1, 2, 0] rfl)
end
section
theorem cI_eq {D : va_G} {cl : List vw_C} {s : State} {cI cA : ClassId} (h : va_K D cl ([(cI, .int)] ++ [(cA, .int)]) s) : cI = cA := Option.some.inj ((h.2 0 _ rfl).2.symm.trans (h.2 1 _ rfl).2)
theorem d_CO_init_0 : decode b_CO_init 0 = .ok (.aload_n 0, 1) := by decide +kernel
theorem d_CO_init_1 : decode b_CO_init 1 = .ok (.invokespecial 1, 3) := by decide +kernel
theorem d_CO_init_4 : decode b_CO_init 4 = .ok (.aload_n 0, 1) := by decide +kernel
theorem d_CO_init_5 : decode b_CO_init 5 = .ok (.sipush 10000, 3) := by decide +kernel
theorem d_CO_init_8 : decode b_CO_init 8 = .ok (.putfield 7, 3) := by decide +kernel
theorem d_CO_init_11 : decode b_CO_init 11 = .ok (.aload_n 0, 1) := by decide +kernel
theorem d_CO_init_12 : decode b_CO_init 12 = .ok (.sipush 10000, 3) := by decide +kernel
theorem d_CO_init_15 : decode b_CO_init 15 = .ok (.putfield 13, 3) := by decide +kernel
theorem d_CO_init_18 : decode b_CO_init 18 = .ok (.aload_n 0, 1) := by decide +kernel
theorem d_CO_init_19 : decode b_CO_init 19 = .ok (.bipush 50, 2) := by decide +kernel
theorem d_CO_init_21 : decode b_CO_init 21 = .ok (.putfield 16, 3) := by decide +kernel
theorem d_CO_init_24 : decode b_CO_init 24 = .ok (.aload_n 0, 1) := by decide +kernel
theorem d_CO_init_25 : decode b_CO_init 25 = .ok (.iconst 0, 1) := by decide +kernel
theorem d_CO_init_26 : decode b_CO_init 26 = .ok (.putfield 19, 3) := by decide +kernel
theorem d_CO_init_29 : decode b_CO_init 29 = .ok (.aload_n 0, 1) := by decide +kernel
theorem d_CO_init_30 : decode b_CO_init 30 = .ok (.bipush 20, 2) := by decide +kernel
theorem d_CO_init_32 : decode b_CO_init 32 = .ok (.putfield 22, 3) := by decide +kernel
theorem d_CO_init_35 : decode b_CO_init 35 = .ok (.return_, 1) := by decide +kernel
theorem d_DE_init_0 : decode b_DE_init 0 = .ok (.aload_n 0, 1) := by decide +kernel
theorem d_DE_init_1 : decode b_DE_init 1 = .ok (.invokespecial 3, 3) := by decide +kernel
theorem d_DE_init_4 : decode b_DE_init 4 = .ok (.aload_n 0, 1) := by decide +kernel
theorem d_DE_init_5 : decode b_DE_init 5 = .ok (.bipush 10, 2) := by decide +kernel
theorem d_DE_init_7 : decode b_DE_init 7 = .ok (.newarray .int, 2) := by decide +kernel
theorem d_DE_init_9 : decode b_DE_init 9 = .ok (.putfield 9, 3) := by decide +kernel
theorem d_DE_init_12 : decode b_DE_init 12 = .ok (.aload_n 0, 1) := by decide +kernel
theorem d_DE_init_13 : decode b_DE_init 13 = .ok (.bipush 10, 2) := by decide +kernel
theorem d_DE_init_15 : decode b_DE_init 15 = .ok (.newarray .int, 2) := by decide +kernel
theorem d_DE_init_17 : decode b_DE_init 17 = .ok (.putfield 15, 3) := by decide +kernel
theorem d_DE_init_20 : decode b_DE_init 20 = .ok (.aload_n 0, 1) := by decide +kernel
theorem d_DE_init_21 : decode b_DE_init 21 = .ok (.iconst 0, 1) := by decide +kernel
theorem d_DE_init_22 : decode b_DE_init 22 = .ok (.putfield 18, 3) := by decide +kernel
theorem d_DE_init_25 : decode b_DE_init 25 = .ok (.return_, 1) := by decide +kernel
set_option maxHeartbeats 4000000 in
set_option maxRecDepth 100000 in
/-- the constructor -/
theorem c_CO_init (l : Launch) (dC : Nat → ClassId) (dI : Nat → Nat → Nat) (sz : Nat) (o : Nat) (cI : ClassId) : Met l y_CO_init w_CO_init { frames := 1, cells := 0, slots := 0, locals := 12 } (rw_Pc (dC, dI) vwCl [(cI, .int)] sz [.ref o] [(o, .inr (0, [.int (nI 0), .int (nI 0), .int (nI 0), .int (nI 0), .int (nI 0)]))]) (va_Qv (fun (u : Unit) => True) (rw_B (dC, dI) vwCl [(cI, .int)] (va_A [(o, .inr (0, [.int (nI 0), .int (nI 0), .int (nI 0), .int (nI 0), .int (nI 0)]))] sz) (fun u : Unit => [(o, .inr (0, [.int (nI 10000), .int (nI 10000), .int (nI 50), .int (nI 0), .int (nI 20)]))])) (va_A [(o, .inr (0, [.int (nI 0), .int (nI 0), .int (nI 0), .int (nI 0), .int (nI 0)]))] sz)) 0 0 (va_A [(o, .inr (0, [.int (nI 0), .int (nI 0), .int (nI 0), .int (nI 0), .int (nI 0)]))] sz) := by
  refine Met.ofW (cc := b_CO_init) (maxL := 1) (ret := none) (by decide) rfl ?_
  intro p e s m args below meth c s₁ B hml hv
  obtain ⟨rfl, hsz, hP, hK, hD0⟩ := hv
  have hx := B.exec
  have hb := B.bytes
  have hr := B.returns
  have hts := gw_h (atoms_spec (ws := w_CO_init) B.pre)
  have hown : s.vm.findClass R_CO = some m.cls := findClass_of_methodNamed B.named
  have hlocks := B.notSynchronized
  have hin : meth.name = "<init>" := (name_of_methodNamed B.named B.method).1
  subst hsz
  have hD := hD0.self (sz := s.heap.size)
  generalize hAe : va_A [(o, .inr (0, [.int (nI 0), .int (nI 0), .int (nI 0), .int (nI 0), .int (nI 0)]))] s.heap.size = A at hD ⊢
  have hA : ∀ q : Nat, s.heap.size ≤ q → A q := fun q h => by rw [← hAe]; exact Or.inr h
  have hS : va_S A s.heap s.heap [] := va_S.rf
  have hP : va_P (dC, dI) vwCl [(o, .inr (0, [.int (nI 0), .int (nI 0), .int (nI 0), .int (nI 0), .int (nI 0)]))] s.heap := hP
  have hl := lv_entry ([.ref o]) (n := 1) (Nat.le_of_ble_eq_true rfl)
  rw [lg_entry_eq]
  generalize (lg_sl ([.ref o]) ++ List.replicate (1 - (lg_sl ([.ref o])).length) Slot.unset).toArray = ls at hl ⊢
  have hl : lv_has ls 1 [(0, .ref o)] := hl
  refine lv_aload_n hx hb d_CO_init_0 rfl (lv_at hl 0 rfl) ?_
  refine W.objInit hx hb hown (hts _ m_31) (hts _ m_24) (hts _ m_25) rfl (by rw [hml]; exact hl.1) rfl d_CO_init_1 (Nat.le_of_ble_eq_true rfl) (Nat.le_of_ble_eq_true rfl) ?_
  refine W.eq (g2 := F0 m 4 ls []) rfl ?_
  refine lv_aload_n hx hb d_CO_init_4 rfl (lv_at hl 0 rfl) ?_
  refine lv_sipush (v := nI 10000) hx hb d_CO_init_5 (by decide +kernel) ?_
  refine va_put (D := (dC, dI)) (ci := 0) (v := .int (nI 10000)) (ty := .int) (C := R_CO) (T := F_CO) (N := 5) hx hb hts in_CO t_CO t_CO_ok n_CO hown hK hP hD hS 0 rfl rfl 0 (by decide) (hts _ m_32) (fun _ h9 => h9) rfl (by decide +kernel) rfl rfl (Nat.le_of_ble_eq_true rfl) d_CO_init_8 (fun H locs hP hD hS => ?_)
  have hP : va_P (dC, dI) vwCl [(o, .inr (0, [.int (nI 10000), .int (nI 0), .int (nI 0), .int (nI 0), .int (nI 0)]))] H := hP
  have hD : va_D A [(o, .inr (0, [.int (nI 10000), .int (nI 0), .int (nI 0), .int (nI 0), .int (nI 0)]))] := hD
  refine lv_aload_n hx hb d_CO_init_11 rfl (lv_at hl 0 rfl) ?_
  refine lv_sipush (v := nI 10000) hx hb d_CO_init_12 (by decide +kernel) ?_
  refine va_put (D := (dC, dI)) (ci := 0) (v := .int (nI 10000)) (ty := .int) (C := R_CO) (T := F_CO) (N := 5) hx hb hts in_CO t_CO t_CO_ok n_CO hown hK hP hD hS 0 rfl rfl 1 (by decide) (hts _ m_36) (fun _ h9 => h9) rfl (by decide +kernel) rfl rfl (Nat.le_of_ble_eq_true rfl) d_CO_init_15 (fun H locs hP hD hS => ?_)
  have hP : va_P (dC, dI) vwCl [(o, .inr (0, [.int (nI 10000), .int (nI 10000), .int (nI 0), .int (nI 0), .int (nI 0)]))] H := hP
  have hD : va_D A [(o, .inr (0, [.int (nI 10000), .int (nI 10000), .int (nI 0), .int (nI 0), .int (nI 0)]))] := hD
  refine lv_aload_n hx hb d_CO_init_18 rfl (lv_at hl 0 rfl) ?_
  refine lv_bipush (v := nI 50) hx hb d_CO_init_19 (by decide +kernel) ?_
  refine va_put (D := (dC, dI)) (ci := 0) (v := .int (nI 50)) (ty := .int) (C := R_CO) (T := F_CO) (N := 5) hx hb hts in_CO t_CO t_CO_ok n_CO hown hK hP hD hS 0 rfl rfl 2 (by decide) (hts _ m_39) (fun _ h9 => h9) rfl (by decide +kernel) rfl rfl (Nat.le_of_ble_eq_true rfl) d_CO_init_21 (fun H locs hP hD hS => ?_)
  have hP : va_P (dC, dI) vwCl [(o, .inr (0, [.int (nI 10000), .int (nI 10000), .int (nI 50), .int (nI 0), .int (nI 0)]))] H := hP
  have hD : va_D A [(o, .inr (0, [.int (nI 10000), .int (nI 10000), .int (nI 50), .int (nI 0), .int (nI 0)]))] := hD
  refine lv_aload_n hx hb d_CO_init_24 rfl (lv_at hl 0 rfl) ?_
  refine lv_iconst (v := nI 0) hx hb d_CO_init_25 (by decide +kernel) ?_
  refine va_put (D := (dC, dI)) (ci := 0) (v := .int (nI 0)) (ty := .int) (C := R_CO) (T := F_CO) (N := 5) hx hb hts in_CO t_CO t_CO_ok n_CO hown hK hP hD hS 0 rfl rfl 3 (by decide) (hts _ m_43) (fun _ h9 => h9) rfl (by decide +kernel) rfl rfl (Nat.le_of_ble_eq_true rfl) d_CO_init_26 (fun H locs hP hD hS => ?_)
  have hP : va_P (dC, dI) vwCl [(o, .inr (0, [.int (nI 10000), .int (nI 10000), .int (nI 50), .int (nI 0), .int (nI 0)]))] H := hP
  have hD : va_D A [(o, .inr (0, [.int (nI 10000), .int (nI 10000), .int (nI 50), .int (nI 0), .int (nI 0)]))] := hD
  refine lv_aload_n hx hb d_CO_init_29 rfl (lv_at hl 0 rfl) ?_
  refine lv_bipush (v := nI 20) hx hb d_CO_init_30 (by decide +kernel) ?_
  refine va_put (D := (dC, dI)) (ci := 0) (v := .int (nI 20)) (ty := .int) (C := R_CO) (T := F_CO) (N := 5) hx hb hts in_CO t_CO t_CO_ok n_CO hown hK hP hD hS 0 rfl rfl 4 (by decide) (hts _ m_47) (fun _ h9 => h9) rfl (by decide +kernel) rfl rfl (Nat.le_of_ble_eq_true rfl) d_CO_init_32 (fun H locs hP hD hS => ?_)
  have hP : va_P (dC, dI) vwCl [(o, .inr (0, [.int (nI 10000), .int (nI 10000), .int (nI 50), .int (nI 0), .int (nI 20)]))] H := hP
  have hD : va_D A [(o, .inr (0, [.int (nI 10000), .int (nI 10000), .int (nI 50), .int (nI 0), .int (nI 20)]))] := hD
  exact W.vret hx hb hr (fun t ht hW => ⟨⟨(), rfl, trivial, by rw [ht]; exact hP, va_K.moved hW.alike hK, hD⟩, hS.F ht⟩) hS.2.2 d_CO_init_35
set_option maxHeartbeats 4000000 in
set_option maxRecDepth 100000 in
/-- the constructor -/
theorem c_DE_init (l : Launch) (dC : Nat → ClassId) (dI : Nat → Nat → Nat) (sz : Nat) (o : Nat) (cI : ClassId) : Met l y_DE_init w_DE_init { frames := 1, cells := 2, slots := 20, locals := 12 } (rw_Pc (dC, dI) vwCl [(cI, .int)] sz [.ref o] [(o, .inr (1, [.null, .null, .int (nI 0)]))]) (va_Qv (fun (u : Nat × Nat) => True) (rw_B (dC, dI) vwCl [(cI, .int)] (va_A [(o, .inr (1, [.null, .null, .int (nI 0)]))] sz) (fun u : Nat × Nat => [(o, .inr (1, [.ref u.1, .ref u.2, .int (nI 0)])), (u.1, .inl (cI, 10, .inl (aN (fun _ => 0)))), (u.2, .inl (cI, 10, .inl (aN (fun _ => 0))))])) (va_A [(o, .inr (1, [.null, .null, .int (nI 0)]))] sz)) 2 20 (va_A [(o, .inr (1, [.null, .null, .int (nI 0)]))] sz) := by
  refine Met.ofW (cc := b_DE_init) (maxL := 1) (ret := none) (by decide) rfl ?_
  intro p e s m args below meth c s₁ B hml hv
  obtain ⟨rfl, hsz, hP, hK, hD0⟩ := hv
  have hx := B.exec
  have hb := B.bytes
  have hr := B.returns
  have hts := gw_h (atoms_spec (ws := w_DE_init) B.pre)
  have hown : s.vm.findClass R_DE = some m.cls := findClass_of_methodNamed B.named
  have hlocks := B.notSynchronized
  have hin : meth.name = "<init>" := (name_of_methodNamed B.named B.method).1
  subst hsz
  have hD := hD0.self (sz := s.heap.size)
  generalize hAe : va_A [(o, .inr (1, [.null, .null, .int (nI 0)]))] s.heap.size = A at hD ⊢
  have hA : ∀ q : Nat, s.heap.size ≤ q → A q := fun q h => by rw [← hAe]; exact Or.inr h
  have hS : va_S A s.heap s.heap [] := va_S.rf
  have hP : va_P (dC, dI) vwCl [(o, .inr (1, [.null, .null, .int (nI 0)]))] s.heap := hP
  have hl := lv_entry ([.ref o]) (n := 1) (Nat.le_of_ble_eq_true rfl)
  rw [lg_entry_eq]
  generalize (lg_sl ([.ref o]) ++ List.replicate (1 - (lg_sl ([.ref o])).length) Slot.unset).toArray = ls at hl ⊢
  have hl : lv_has ls 1 [(0, .ref o)] := hl
  refine lv_aload_n hx hb d_DE_init_0 rfl (lv_at hl 0 rfl) ?_
  refine W.objInit hx hb hown (hts _ m_134) (hts _ m_24) (hts _ m_25) rfl (by rw [hml]; exact hl.1) rfl d_DE_init_1 (Nat.le_of_ble_eq_true rfl) (Nat.le_of_ble_eq_true rfl) ?_
  refine W.eq (g2 := F0 m 4 ls []) rfl ?_
  refine lv_aload_n hx hb d_DE_init_4 rfl (lv_at hl 0 rfl) ?_
  refine lv_bipush (v := nI 10) hx hb d_DE_init_5 (by decide +kernel) ?_
  refine va_newa (atype := .int) (a0 := (10, .inl (aN (fun _ => 0)))) (ty := .int) (N' := 10) hx hb (hts _ m_85) rfl hK hP hD hS hA (fun _ => rfl) (by decide +kernel) (by decide +kernel) (by decide) (Nat.le_of_ble_eq_true rfl) (Nat.le_of_ble_eq_true rfl) d_DE_init_7 (fun n7 cA H hK hP hD hS => ?_)
  obtain rfl := cI_eq hK
  have hK := hK.sub (tys' := [(cI, .int)]) [0] rfl
  refine W.widen (k := 1) (n := 10) (Nat.le_refl _) (Nat.le_refl _) ?_
  have hP : va_P (dC, dI) vwCl [(o, .inr (1, [.null, .null, .int (nI 0)])), (n7, .inl (cI, 10, .inl (aN (fun _ => 0))))] H := hP
  have hD : va_D A [(o, .inr (1, [.null, .null, .int (nI 0)])), (n7, .inl (cI, 10, .inl (aN (fun _ => 0))))] := hD
  refine va_putF (D := (dC, dI)) (ci := 1) (v := .ref n7) (ty := .array .int) (C := R_DE) (T := F_DE) (N := 3) hx hb hts in_DE t_DE t_DE_ok n_DE hown hK hP hD hS 0 rfl rfl 0 (by decide) (hts _ m_135) (fun _ h9 => h9) rfl hin rfl (by decide +kernel) rfl rfl (Nat.le_of_ble_eq_true rfl) d_DE_init_9 (fun H locs hP hD hS => ?_)
  have hP : va_P (dC, dI) vwCl [(o, .inr (1, [.ref n7, .null, .int (nI 0)])), (n7, .inl (cI, 10, .inl (aN (fun _ => 0))))] H := hP
  have hD : va_D A [(o, .inr (1, [.ref n7, .null, .int (nI 0)])), (n7, .inl (cI, 10, .inl (aN (fun _ => 0))))] := hD
  refine lv_aload_n hx hb d_DE_init_12 rfl (lv_at hl 0 rfl) ?_
  refine lv_bipush (v := nI 10) hx hb d_DE_init_13 (by decide +kernel) ?_
  refine va_newa (atype := .int) (a0 := (10, .inl (aN (fun _ => 0)))) (ty := .int) (N' := 10) hx hb (hts _ m_85) rfl hK hP hD hS hA (fun _ => rfl) (by decide +kernel) (by decide +kernel) (by decide) (Nat.le_of_ble_eq_true rfl) (Nat.le_of_ble_eq_true rfl) d_DE_init_15 (fun n15 cA H hK hP hD hS => ?_)
  obtain rfl := cI_eq hK
  have hK := hK.sub (tys' := [(cI, .int)]) [0] rfl
  refine W.widen (k := 2) (n := 20) (Nat.le_refl _) (Nat.le_refl _) ?_
  have hP : va_P (dC, dI) vwCl [(o, .inr (1, [.ref n7, .null, .int (nI 0)])), (n7, .inl (cI, 10, .inl (aN (fun _ => 0)))), (n15, .inl (cI, 10, .inl (aN (fun _ => 0))))] H := hP
  have hD : va_D A [(o, .inr (1, [.ref n7, .null, .int (nI 0)])), (n7, .inl (cI, 10, .inl (aN (fun _ => 0)))), (n15, .inl (cI, 10, .inl (aN (fun _ => 0))))] := hD
  refine va_putF (D := (dC, dI)) (ci := 1) (v := .ref n15) (ty := .array .int) (C := R_DE) (T := F_DE) (N := 3) hx hb hts in_DE t_DE t_DE_ok n_DE hown hK hP hD hS 0 rfl rfl 1 (by decide) (hts _ m_138) (fun _ h9 => h9) rfl hin rfl (by decide +kernel) rfl rfl (Nat.le_of_ble_eq_true rfl) d_DE_init_17 (fun H locs hP hD hS => ?_)
  have hP : va_P (dC, dI) vwCl [(o, .inr (1, [.ref n7, .ref n15, .int (nI 0)])), (n7, .inl (cI, 10, .inl (aN (fun _ => 0)))), (n15, .inl (cI, 10, .inl (aN (fun _ => 0))))] H := hP
  have hD : va_D A [(o, .inr (1, [.ref n7, .ref n15, .int (nI 0)])), (n7, .inl (cI, 10, .inl (aN (fun _ => 0)))), (n15, .inl (cI, 10, .inl (aN (fun _ => 0))))] := hD
  refine lv_aload_n hx hb d_DE_init_20 rfl (lv_at hl 0 rfl) ?_
  refine lv_iconst (v := nI 0) hx hb d_DE_init_21 (by decide +kernel) ?_
  refine va_put (D := (dC, dI)) (ci := 1) (v := .int (nI 0)) (ty := .int) (C := R_DE) (T := F_DE) (N := 3) hx hb hts in_DE t_DE t_DE_ok n_DE hown hK hP hD hS 0 rfl rfl 2 (by decide) (hts _ m_141) (fun _ h9 => h9) rfl (by decide +kernel) rfl rfl (Nat.le_of_ble_eq_true rfl) d_DE_init_22 (fun H locs hP hD hS => ?_)
  have hP : va_P (dC, dI) vwCl [(o, .inr (1, [.ref n7, .ref n15, .int (nI 0)])), (n7, .inl (cI, 10, .inl (aN (fun _ => 0)))), (n15, .inl (cI, 10, .inl (aN (fun _ => 0))))] H := hP
  have hD : va_D A [(o, .inr (1, [.ref n7, .ref n15, .int (nI 0)])), (n7, .inl (cI, 10, .inl (aN (fun _ => 0)))), (n15, .inl (cI, 10, .inl (aN (fun _ => 0))))] := hD
  exact W.vret hx hb hr (fun t ht hW => ⟨⟨(n7, n15), rfl, trivial, by rw [ht]; exact hP, va_K.moved hW.alike hK, hD⟩, hS.F ht⟩) hS.2.2 d_DE_init_25
set_option maxHeartbeats 4000000 in
set_option maxRecDepth 100000 in
/-- the constructor -/
theorem c_WI_init (l : Launch) (dC : Nat → ClassId) (dI : Nat → Nat → Nat) (sz : Nat) (o : Nat) (cI : ClassId) : Met l y_WI_init w_WI_init { frames := 1, cells := 2, slots := 10, locals := 12 } (rw_Pc (dC, dI) vwCl [(cI, .int)] sz [.ref o] [(o, .inr (5, [.null, .null, .int (nI 0)]))]) (va_Qv (fun (u : Nat × Nat) => True) (rw_B (dC, dI) vwCl [(cI, .int)] (va_A [(o, .inr (5, [.null, .null, .int (nI 0)]))] sz) (fun u : Nat × Nat => [(o, .inr (5, [.ref u.1, .ref u.2, .int (nI 0)])), (u.1, .inl (cI, 5, .inl (aN (fun _ => 0)))), (u.2, .inl (cI, 5, .inl (aN (fun _ => 0))))])) (va_A [(o, .inr (5, [.null, .null, .int (nI 0)]))] sz)) 2 10 (va_A [(o, .inr (5, [.null, .null, .int (nI 0)]))] sz) := by
  refine Met.ofW (cc := b_WI_init) (maxL := 1) (ret := none) (by decide) rfl ?_
  intro p e s m args below meth c s₁ B hml hv
  obtain ⟨rfl, hsz, hP, hK, hD0⟩ := hv
  have hx := B.exec
  have hb := B.bytes
  have hr := B.returns
  have hts := gw_h (atoms_spec (ws := w_WI_init) B.pre)
  have hown : s.vm.findClass R_WI = some m.cls := findClass_of_methodNamed B.named
  have hlocks := B.notSynchronized
  have hin : meth.name = "<init>" := (name_of_methodNamed B.named B.method).1
  subst hsz
  have hD := hD0.self (sz := s.heap.size)
  generalize hAe : va_A [(o, .inr (5, [.null, .null, .int (nI 0)]))] s.heap.size = A at hD ⊢
  have hA : ∀ q : Nat, s.heap.size ≤ q → A q := fun q h => by rw [← hAe]; exact Or.inr h
  have hS : va_S A s.heap s.heap [] := va_S.rf
  have hP : va_P (dC, dI) vwCl [(o, .inr (5, [.null, .null, .int (nI 0)]))] s.heap := hP
  have hl := lv_entry ([.ref o]) (n := 1) (Nat.le_of_ble_eq_true rfl)
  rw [lg_entry_eq]
  generalize (lg_sl ([.ref o]) ++ List.replicate (1 - (lg_sl ([.ref o])).length) Slot.unset).toArray = ls at hl ⊢
  have hl : lv_has ls 1 [(0, .ref o)] := hl
  refine lv_aload_n hx hb d_WI_init_0 rfl (lv_at hl 0 rfl) ?_
  refine W.objInit hx hb hown (hts _ m_66) (hts _ m_24) (hts _ m_25) rfl (by rw [hml]; exact hl.1) rfl d_WI_init_1 (Nat.le_of_ble_eq_true rfl) (Nat.le_of_ble_eq_true rfl) ?_
  refine W.eq (g2 := F0 m 4 ls []) rfl ?_
  refine lv_aload_n hx hb d_WI_init_4 rfl (lv_at hl 0 rfl) ?_
  refine lv_iconst (v := nI 5) hx hb d_WI_init_5 (by decide +kernel) ?_
  refine va_newa (atype := .int) (a0 := (5, .inl (aN (fun _ => 0)))) (ty := .int) (N' := 5) hx hb (hts _ m_85) rfl hK hP hD hS hA (fun _ => rfl) (by decide +kernel) (by decide +kernel) (by decide) (Nat.le_of_ble_eq_true rfl) (Nat.le_of_ble_eq_true rfl) d_WI_init_6 (fun n6 cA H hK hP hD hS => ?_)
  obtain rfl := cI_eq hK
  have hK := hK.sub (tys' := [(cI, .int)]) [0] rfl
  refine W.widen (k := 1) (n := 5) (Nat.le_refl _) (Nat.le_refl _) ?_
  have hP : va_P (dC, dI) vwCl [(o, .inr (5, [.null, .null, .int (nI 0)])), (n6, .inl (cI, 5, .inl (aN (fun _ => 0))))] H := hP
  have hD : va_D A [(o, .inr (5, [.null, .null, .int (nI 0)])), (n6, .inl (cI, 5, .inl (aN (fun _ => 0))))] := hD
  refine va_putF (D := (dC, dI)) (ci := 5) (v := .ref n6) (ty := .array .int) (C := R_WI) (T := F_WI) (N := 3) hx hb hts in_WI t_WI t_WI_ok n_WI hown hK hP hD hS 0 rfl rfl 0 (by decide) (hts _ m_67) (fun _ h9 => h9) rfl hin rfl (by decide +kernel) rfl rfl (Nat.le_of_ble_eq_true rfl) d_WI_init_8 (fun H locs hP hD hS => ?_)
  have hP : va_P (dC, dI) vwCl [(o, .inr (5, [.ref n6, .null, .int (nI 0)])), (n6, .inl (cI, 5, .inl (aN (fun _ => 0))))] H := hP
  have hD : va_D A [(o, .inr (5, [.ref n6, .null, .int (nI 0)])), (n6, .inl (cI, 5, .inl (aN (fun _ => 0))))] := hD
  refine lv_aload_n hx hb d_WI_init_11 rfl (lv_at hl 0 rfl) ?_
  refine lv_iconst (v := nI 5) hx hb d_WI_init_12 (by decide +kernel) ?_
  refine va_newa (atype := .int) (a0 := (5, .inl (aN (fun _ => 0)))) (ty := .int) (N' := 5) hx hb (hts _ m_85) rfl hK hP hD hS hA (fun _ => rfl) (by decide +kernel) (by decide +kernel) (by decide) (Nat.le_of_ble_eq_true rfl) (Nat.le_of_ble_eq_true rfl) d_WI_init_13 (fun n13 cA H hK hP hD hS => ?_)
  obtain rfl := cI_eq hK
  have hK := hK.sub (tys' := [(cI, .int)]) [0] rfl
  refine W.widen (k := 2) (n := 10) (Nat.le_refl _) (Nat.le_refl _) ?_
  have hP : va_P (dC, dI) vwCl [(o, .inr (5, [.ref n6, .null, .int (nI 0)])), (n6, .inl (cI, 5, .inl (aN (fun _ => 0)))), (n13, .inl (cI, 5, .inl (aN (fun _ => 0))))] H := hP
  have hD : va_D A [(o, .inr (5, [.ref n6, .null, .int (nI 0)])), (n6, .inl (cI, 5, .inl (aN (fun _ => 0)))), (n13, .inl (cI, 5, .inl (aN (fun _ => 0))))] := hD
  refine va_putF (D := (dC, dI)) (ci := 5) (v := .ref n13) (ty := .array .int) (C := R_WI) (T := F_WI) (N := 3) hx hb hts in_WI t_WI t_WI_ok n_WI hown hK hP hD hS 0 rfl rfl 1 (by decide) (hts _ m_71) (fun _ h9 => h9) rfl hin rfl (by decide +kernel) rfl rfl (Nat.le_of_ble_eq_true rfl) d_WI_init_15 (fun H locs hP hD hS => ?_)
  have hP : va_P (dC, dI) vwCl [(o, .inr (5, [.ref n6, .ref n13, .int (nI 0)])), (n6, .inl (cI, 5, .inl (aN (fun _ => 0)))), (n13, .inl (cI, 5, .inl (aN (fun _ => 0))))] H := hP
  have hD : va_D A [(o, .inr (5, [.ref n6, .ref n13, .int (nI 0)])), (n6, .inl (cI, 5, .inl (aN (fun _ => 0)))), (n13, .inl (cI, 5, .inl (aN (fun _ => 0))))] := hD
  refine lv_aload_n hx hb d_WI_init_18 rfl (lv_at hl 0 rfl) ?_
  refine lv_iconst (v := nI 0) hx hb d_WI_init_19 (by decide +kernel) ?_
  refine va_put (D := (dC, dI)) (ci := 5) (v := .int (nI 0)) (ty := .int) (C := R_WI) (T := F_WI) (N := 3) hx hb hts in_WI t_WI t_WI_ok n_WI hown hK hP hD hS 0 rfl rfl 2 (by decide) (hts _ m_74) (fun _ h9 => h9) rfl (by decide +kernel) rfl rfl (Nat.le_of_ble_eq_true rfl) d_WI_init_20 (fun H locs hP hD hS => ?_)
  have hP : va_P (dC, dI) vwCl [(o, .inr (5, [.ref n6, .ref n13, .int (nI 0)])), (n6, .inl (cI, 5, .inl (aN (fun _ => 0)))), (n13, .inl (cI, 5, .inl (aN (fun _ => 0))))] H := hP
  have hD : va_D A [(o, .inr (5, [.ref n6, .ref n13, .int (nI 0)])), (n6, .inl (cI, 5, .inl (aN (fun _ => 0)))), (n13, .inl (cI, 5, .inl (aN (fun _ => 0))))] := hD
  exact W.vret hx hb hr (fun t ht hW => ⟨⟨(n6, n13), rfl, trivial, by rw [ht]; exact hP, va_K.moved hW.alike hK, hD⟩, hS.F ht⟩) hS.2.2 d_WI_init_23
set_option maxHeartbeats 4000000 in
set_option maxRecDepth 100000 in
/-- the constructor -/
theorem c_PS_init (l : Launch) (dC : Nat → ClassId) (dI : Nat → Nat → Nat) (sz : Nat) (o : Nat) (cI : ClassId) : Met l y_PS_init w_PS_init { frames := 1, cells := 4, slots := 21, locals := 12 } (rw_Pc (dC, dI) vwCl [(cI, .int)] sz [.ref o] [(o, .inr (2, [.null, .int (nI 0), .int (nI 0), .int (nI 0), .null, .null, .null, .int (nI 0), .int (nI 0), .int (nI 0)]))]) (va_Qv (fun (u : Nat × Nat × Nat × Nat) => True) (rw_B (dC, dI) vwCl [(cI, .int)] (va_A [(o, .inr (2, [.null, .int (nI 0), .int (nI 0), .int (nI 0), .null, .null, .null, .int (nI 0), .int (nI 0), .int (nI 0)]))] sz) (fun u : Nat × Nat × Nat × Nat => [(o, .inr (2, [.ref u.1, .int (nI 0), .int (nI 0), .int (nI 0), .ref u.2.1, .ref u.2.2.1, .ref u.2.2.2, .int (nI 0), .int (nI 0), .int (nI 0)])), (u.1, .inl (cI, 5, .inl (aN (fun _ => 0)))), (u.2.1, .inl (cI, 5, .inl (aN (fun _ => 0)))), (u.2.2.1, .inl (cI, 6, .inl (aN (fun _ => 0)))), (u.2.2.2, .inl (cI, 5, .inl (aN (fun _ => 0))))])) (va_A [(o, .inr (2, [.null, .int (nI 0), .int (nI 0), .int (nI 0), .null, .null, .null, .int (nI 0), .int (nI 0), .int (nI 0)]))] sz)) 4 21 (va_A [(o, .inr (2, [.null, .int (nI 0), .int (nI 0), .int (nI 0), .null, .null, .null, .int (nI 0), .int (nI 0), .int (nI 0)]))] sz) := by
  refine Met.ofW (cc := b_PS_init) (maxL := 1) (ret := none) (by decide) rfl ?_
  intro p e s m args below meth c s₁ B hml hv
  obtain ⟨rfl, hsz, hP, hK, hD0⟩ := hv
  have hx := B.exec
  have hb := B.bytes
  have hr := B.returns
  have hts := gw_h (atoms_spec (ws := w_PS_init) B.pre)
  have hown : s.vm.findClass R_PS = some m.cls := findClass_of_methodNamed B.named
  have hlocks := B.notSynchronized
  have hin : meth.name = "<init>" := (name_of_methodNamed B.named B.method).1
  subst hsz
  have hD := hD0.self (sz := s.heap.size)
  generalize hAe : va_A [(o, .inr (2, [.null, .int (nI 0), .int (nI 0), .int (nI 0), .null, .null, .null, .int (nI 0), .int (nI 0), .int (nI 0)]))] s.heap.size = A at hD ⊢
  have hA : ∀ q : Nat, s.heap.size ≤ q → A q := fun q h => by rw [← hAe]; exact Or.inr h
  have hS : va_S A s.heap s.heap [] := va_S.rf
  have hP : va_P (dC, dI) vwCl [(o, .inr (2, [.null, .int (nI 0), .int (nI 0), .int (nI 0), .null, .null, .null, .int (nI 0), .int (nI 0), .int (nI 0)]))] s.heap := hP
  have hl := lv_entry ([.ref o]) (n := 1) (Nat.le_of_ble_eq_true rfl)
  rw [lg_entry_eq]
  generalize (lg_sl ([.ref o]) ++ List.replicate (1 - (lg_sl ([.ref o])).length) Slot.unset).toArray = ls at hl ⊢
  have hl : lv_has ls 1 [(0, .ref o)] := hl
  refine lv_aload_n hx hb d_PS_init_0 rfl (lv_at hl 0 rfl) ?_
  refine W.objInit hx hb hown (hts _ m_91) (hts _ m_24) (hts _ m_25) rfl (by rw [hml]; exact hl.1) rfl d_PS_init_1 (Nat.le_of_ble_eq_true rfl) (Nat.le_of_ble_eq_true rfl) ?_
  refine W.eq (g2 := F0 m 4 ls []) rfl ?_
  refine lv_aload_n hx hb d_PS_init_4 rfl (lv_at hl 0 rfl) ?_
  refine lv_iconst (v := nI 5) hx hb d_PS_init_5 (by decide +kernel) ?_
  refine va_newa (atype := .int) (a0 := (5, .inl (aN (fun _ => 0)))) (ty := .int) (N' := 5) hx hb (hts _ m_85) rfl hK hP hD hS hA (fun _ => rfl) (by decide +kernel) (by decide +kernel) (by decide) (Nat.le_of_ble_eq_true rfl) (Nat.le_of_ble_eq_true rfl) d_PS_init_6 (fun n6 cA H hK hP hD hS => ?_)
  obtain rfl := cI_eq hK
  have hK := hK.sub (tys' := [(cI, .int)]) [0] rfl
  refine W.widen (k := 1) (n := 5) (Nat.le_refl _) (Nat.le_refl _) ?_
  have hP : va_P (dC, dI) vwCl [(o, .inr (2, [.null, .int (nI 0), .int (nI 0), .int (nI 0), .null, .null, .null, .int (nI 0), .int (nI 0), .int (nI 0)])), (n6, .inl (cI, 5, .inl (aN (fun _ => 0))))] H := hP
  have hD : va_D A [(o, .inr (2, [.null, .int (nI 0), .int (nI 0), .int (nI 0), .null, .null, .null, .int (nI 0), .int (nI 0), .int (nI 0)])), (n6, .inl (cI, 5, .inl (aN (fun _ => 0))))] := hD
  refine va_putF (D := (dC, dI)) (ci := 2) (v := .ref n6) (ty := .array .int) (C := R_PS) (T := F_PS) (N := 10) hx hb hts in_PS t_PS t_PS_ok n_PS hown hK hP hD hS 0 rfl rfl 0 (by decide) (hts _ m_92) (fun _ h9 => h9) rfl hin rfl (by decide +kernel) rfl rfl (Nat.le_of_ble_eq_true rfl) d_PS_init_8 (fun H locs hP hD hS => ?_)
  have hP : va_P (dC, dI) vwCl [(o, .inr (2, [.ref n6, .int (nI 0), .int (nI 0), .int (nI 0), .null, .null, .null, .int (nI 0), .int (nI 0), .int (nI 0)])), (n6, .inl (cI, 5, .inl (aN (fun _ => 0))))] H := hP
  have hD : va_D A [(o, .inr (2, [.ref n6, .int (nI 0), .int (nI 0), .int (nI 0), .null, .null, .null, .int (nI 0), .int (nI 0), .int (nI 0)])), (n6, .inl (cI, 5, .inl (aN (fun _ => 0))))] := hD
  refine lv_aload_n hx hb d_PS_init_11 rfl (lv_at hl 0 rfl) ?_
  refine lv_iconst (v := nI 0) hx hb d_PS_init_12 (by decide +kernel) ?_
  refine va_put (D := (dC, dI)) (ci := 2) (v := .int (nI 0)) (ty := .int) (C := R_PS) (T := F_PS) (N := 10) hx hb hts in_PS t_PS t_PS_ok n_PS hown hK hP hD hS 0 rfl rfl 1 (by decide) (hts _ m_95) (fun _ h9 => h9) rfl (by decide +kernel) rfl rfl (Nat.le_of_ble_eq_true rfl) d_PS_init_13 (fun H locs hP hD hS => ?_)
  have hP : va_P (dC, dI) vwCl [(o, .inr (2, [.ref n6, .int (nI 0), .int (nI 0), .int (nI 0), .null, .null, .null, .int (nI 0), .int (nI 0), .int (nI 0)])), (n6, .inl (cI, 5, .inl (aN (fun _ => 0))))] H := hP
  have hD : va_D A [(o, .inr (2, [.ref n6, .int (nI 0), .int (nI 0), .int (nI 0), .null, .null, .null, .int (nI 0), .int (nI 0), .int (nI 0)])), (n6, .inl (cI, 5, .inl (aN (fun _ => 0))))] := hD
  refine lv_aload_n hx hb d_PS_init_16 rfl (lv_at hl 0 rfl) ?_
  refine lv_iconst (v := nI 0) hx hb d_PS_init_17 (by decide +kernel) ?_
  refine va_put (D := (dC, dI)) (ci := 2) (v := .int (nI 0)) (ty := .int) (C := R_PS) (T := F_PS) (N := 10) hx hb hts in_PS t_PS t_PS_ok n_PS hown hK hP hD hS 0 rfl rfl 2 (by decide) (hts _ m_97) (fun _ h9 => h9) rfl (by decide +kernel) rfl rfl (Nat.le_of_ble_eq_true rfl) d_PS_init_18 (fun H locs hP hD hS => ?_)
  have hP : va_P (dC, dI) vwCl [(o, .inr (2, [.ref n6, .int (nI 0), .int (nI 0), .int (nI 0), .null, .null, .null, .int (nI 0), .int (nI 0), .int (nI 0)])), (n6, .inl (cI, 5, .inl (aN (fun _ => 0))))] H := hP
  have hD : va_D A [(o, .inr (2, [.ref n6, .int (nI 0), .int (nI 0), .int (nI 0), .null, .null, .null, .int (nI 0), .int (nI 0), .int (nI 0)])), (n6, .inl (cI, 5, .inl (aN (fun _ => 0))))] := hD
  refine lv_aload_n hx hb d_PS_init_21 rfl (lv_at hl 0 rfl) ?_
  refine lv_iconst (v := nI 0) hx hb d_PS_init_22 (by decide +kernel) ?_
  refine va_put (D := (dC, dI)) (ci := 2) (v := .int (nI 0)) (ty := .boolean) (C := R_PS) (T := F_PS) (N := 10) hx hb hts in_PS t_PS t_PS_ok n_PS hown hK hP hD hS 0 rfl rfl 3 (by decide) (hts _ m_100) (fun _ h9 => h9) rfl (by decide +kernel) (by decide +kernel) (by decide +kernel) (Nat.le_of_ble_eq_true rfl) d_PS_init_23 (fun H locs hP hD hS => ?_)
  have hP : va_P (dC, dI) vwCl [(o, .inr (2, [.ref n6, .int (nI 0), .int (nI 0), .int (nI 0), .null, .null, .null, .int (nI 0), .int (nI 0), .int (nI 0)])), (n6, .inl (cI, 5, .inl (aN (fun _ => 0))))] H := hP
  have hD : va_D A [(o, .inr (2, [.ref n6, .int (nI 0), .int (nI 0), .int (nI 0), .null, .null, .null, .int (nI 0), .int (nI 0), .int (nI 0)])), (n6, .inl (cI, 5, .inl (aN (fun _ => 0))))] := hD
  refine lv_aload_n hx hb d_PS_init_26 rfl (lv_at hl 0 rfl) ?_
  refine lv_iconst (v := nI 5) hx hb d_PS_init_27 (by decide +kernel) ?_
  refine va_newa (atype := .int) (a0 := (5, .inl (aN (fun _ => 0)))) (ty := .int) (N' := 5) hx hb (hts _ m_85) rfl hK hP hD hS hA (fun _ => rfl) (by decide +kernel) (by decide +kernel) (by decide) (Nat.le_of_ble_eq_true rfl) (Nat.le_of_ble_eq_true rfl) d_PS_init_28 (fun n28 cA H hK hP hD hS => ?_)
  obtain rfl := cI_eq hK
  have hK := hK.sub (tys' := [(cI, .int)]) [0] rfl
  refine W.widen (k := 2) (n := 10) (Nat.le_refl _) (Nat.le_refl _) ?_
  have hP : va_P (dC, dI) vwCl [(o, .inr (2, [.ref n6, .int (nI 0), .int (nI 0), .int (nI 0), .null, .null, .null, .int (nI 0), .int (nI 0), .int (nI 0)])), (n6, .inl (cI, 5, .inl (aN (fun _ => 0)))), (n28, .inl (cI, 5, .inl (aN (fun _ => 0))))] H := hP
  have hD : va_D A [(o, .inr (2, [.ref n6, .int (nI 0), .int (nI 0), .int (nI 0), .null, .null, .null, .int (nI 0), .int (nI 0), .int (nI 0)])), (n6, .inl (cI, 5, .inl (aN (fun _ => 0)))), (n28, .inl (cI, 5, .inl (aN (fun _ => 0))))] := hD
  refine va_putF (D := (dC, dI)) (ci := 2) (v := .ref n28) (ty := .array .int) (C := R_PS) (T := F_PS) (N := 10) hx hb hts in_PS t_PS t_PS_ok n_PS hown hK hP hD hS 0 rfl rfl 4 (by decide) (hts _ m_102) (fun _ h9 => h9) rfl hin rfl (by decide +kernel) rfl rfl (Nat.le_of_ble_eq_true rfl) d_PS_init_30 (fun H locs hP hD hS => ?_)
  have hP : va_P (dC, dI) vwCl [(o, .inr (2, [.ref n6, .int (nI 0), .int (nI 0), .int (nI 0), .ref n28, .null, .null, .int (nI 0), .int (nI 0), .int (nI 0)])), (n6, .inl (cI, 5, .inl (aN (fun _ => 0)))), (n28, .inl (cI, 5, .inl (aN (fun _ => 0))))] H := hP
  have hD : va_D A [(o, .inr (2, [.ref n6, .int (nI 0), .int (nI 0), .int (nI 0), .ref n28, .null, .null, .int (nI 0), .int (nI 0), .int (nI 0)])), (n6, .inl (cI, 5, .inl (aN (fun _ => 0)))), (n28, .inl (cI, 5, .inl (aN (fun _ => 0))))] := hD
  refine lv_aload_n hx hb d_PS_init_33 rfl (lv_at hl 0 rfl) ?_
  refine lv_bipush (v := nI 6) hx hb d_PS_init_34 (by decide +kernel) ?_
  refine va_newa (atype := .int) (a0 := (6, .inl (aN (fun _ => 0)))) (ty := .int) (N' := 6) hx hb (hts _ m_85) rfl hK hP hD hS hA (fun _ => rfl) (by decide +kernel) (by decide +kernel) (by decide) (Nat.le_of_ble_eq_true rfl) (Nat.le_of_ble_eq_true rfl) d_PS_init_36 (fun n36 cA H hK hP hD hS => ?_)
  obtain rfl := cI_eq hK
  have hK := hK.sub (tys' := [(cI, .int)]) [0] rfl
  refine W.widen (k := 3) (n := 16) (Nat.le_refl _) (Nat.le_refl _) ?_
  have hP : va_P (dC, dI) vwCl [(o, .inr (2, [.ref n6, .int (nI 0), .int (nI 0), .int (nI 0), .ref n28, .null, .null, .int (nI 0), .int (nI 0), .int (nI 0)])), (n6, .inl (cI, 5, .inl (aN (fun _ => 0)))), (n28, .inl (cI, 5, .inl (aN (fun _ => 0)))), (n36, .inl (cI, 6, .inl (aN (fun _ => 0))))] H := hP
  have hD : va_D A [(o, .inr (2, [.ref n6, .int (nI 0), .int (nI 0), .int (nI 0), .ref n28, .null, .null, .int (nI 0), .int (nI 0), .int (nI 0)])), (n6, .inl (cI, 5, .inl (aN (fun _ => 0)))), (n28, .inl (cI, 5, .inl (aN (fun _ => 0)))), (n36, .inl (cI, 6, .inl (aN (fun _ => 0))))] := hD
  refine va_putF (D := (dC, dI)) (ci := 2) (v := .ref n36) (ty := .array .int) (C := R_PS) (T := F_PS) (N := 10) hx hb hts in_PS t_PS t_PS_ok n_PS hown hK hP hD hS 0 rfl rfl 5 (by decide) (hts _ m_103) (fun _ h9 => h9) rfl hin rfl (by decide +kernel) rfl rfl (Nat.le_of_ble_eq_true rfl) d_PS_init_38 (fun H locs hP hD hS => ?_)
  have hP : va_P (dC, dI) vwCl [(o, .inr (2, [.ref n6, .int (nI 0), .int (nI 0), .int (nI 0), .ref n28, .ref n36, .null, .int (nI 0), .int (nI 0), .int (nI 0)])), (n6, .inl (cI, 5, .inl (aN (fun _ => 0)))), (n28, .inl (cI, 5, .inl (aN (fun _ => 0)))), (n36, .inl (cI, 6, .inl (aN (fun _ => 0))))] H := hP
  have hD : va_D A [(o, .inr (2, [.ref n6, .int (nI 0), .int (nI 0), .int (nI 0), .ref n28, .ref n36, .null, .int (nI 0), .int (nI 0), .int (nI 0)])), (n6, .inl (cI, 5, .inl (aN (fun _ => 0)))), (n28, .inl (cI, 5, .inl (aN (fun _ => 0)))), (n36, .inl (cI, 6, .inl (aN (fun _ => 0))))] := hD
  refine lv_aload_n hx hb d_PS_init_41 rfl (lv_at hl 0 rfl) ?_
  refine lv_iconst (v := nI 5) hx hb d_PS_init_42 (by decide +kernel) ?_
  refine va_newa (atype := .int) (a0 := (5, .inl (aN (fun _ => 0)))) (ty := .int) (N' := 5) hx hb (hts _ m_85) rfl hK hP hD hS hA (fun _ => rfl) (by decide +kernel) (by decide +kernel) (by decide) (Nat.le_of_ble_eq_true rfl) (Nat.le_of_ble_eq_true rfl) d_PS_init_43 (fun n43 cA H hK hP hD hS => ?_)
  obtain rfl := cI_eq hK
  have hK := hK.sub (tys' := [(cI, .int)]) [0] rfl
  refine W.widen (k := 4) (n := 21) (Nat.le_refl _) (Nat.le_refl _) ?_
  have hP : va_P (dC, dI) vwCl [(o, .inr (2, [.ref n6, .int (nI 0), .int (nI 0), .int (nI 0), .ref n28, .ref n36, .null, .int (nI 0), .int (nI 0), .int (nI 0)])), (n6, .inl (cI, 5, .inl (aN (fun _ => 0)))), (n28, .inl (cI, 5, .inl (aN (fun _ => 0)))), (n36, .inl (cI, 6, .inl (aN (fun _ => 0)))), (n43, .inl (cI, 5, .inl (aN (fun _ => 0))))] H := hP
  have hD : va_D A [(o, .inr (2, [.ref n6, .int (nI 0), .int (nI 0), .int (nI 0), .ref n28, .ref n36, .null, .int (nI 0), .int (nI 0), .int (nI 0)])), (n6, .inl (cI, 5, .inl (aN (fun _ => 0)))), (n28, .inl (cI, 5, .inl (aN (fun _ => 0)))), (n36, .inl (cI, 6, .inl (aN (fun _ => 0)))), (n43, .inl (cI, 5, .inl (aN (fun _ => 0))))] := hD
  refine va_putF (D := (dC, dI)) (ci := 2) (v := .ref n43) (ty := .array .int) (C := R_PS) (T := F_PS) (N := 10) hx hb hts in_PS t_PS t_PS_ok n_PS hown hK hP hD hS 0 rfl rfl 6 (by decide) (hts _ m_104) (fun _ h9 => h9) rfl hin rfl (by decide +kernel) rfl rfl (Nat.le_of_ble_eq_true rfl) d_PS_init_45 (fun H locs hP hD hS => ?_)
  have hP : va_P (dC, dI) vwCl [(o, .inr (2, [.ref n6, .int (nI 0), .int (nI 0), .int (nI 0), .ref n28, .ref n36, .ref n43, .int (nI 0), .int (nI 0), .int (nI 0)])), (n6, .inl (cI, 5, .inl (aN (fun _ => 0)))), (n28, .inl (cI, 5, .inl (aN (fun _ => 0)))), (n36, .inl (cI, 6, .inl (aN (fun _ => 0)))), (n43, .inl (cI, 5, .inl (aN (fun _ => 0))))] H := hP
  have hD : va_D A [(o, .inr (2, [.ref n6, .int (nI 0), .int (nI 0), .int (nI 0), .ref n28, .ref n36, .ref n43, .int (nI 0), .int (nI 0), .int (nI 0)])), (n6, .inl (cI, 5, .inl (aN (fun _ => 0)))), (n28, .inl (cI, 5, .inl (aN (fun _ => 0)))), (n36, .inl (cI, 6, .inl (aN (fun _ => 0)))), (n43, .inl (cI, 5, .inl (aN (fun _ => 0))))] := hD
  refine lv_aload_n hx hb d_PS_init_48 rfl (lv_at hl 0 rfl) ?_
  refine lv_iconst (v := nI 0) hx hb d_PS_init_49 (by decide +kernel) ?_
  refine va_put (D := (dC, dI)) (ci := 2) (v := .int (nI 0)) (ty := .int) (C := R_PS) (T := F_PS) (N := 10) hx hb hts in_PS t_PS t_PS_ok n_PS hown hK hP hD hS 0 rfl rfl 7 (by decide) (hts _ m_105) (fun _ h9 => h9) rfl (by decide +kernel) rfl rfl (Nat.le_of_ble_eq_true rfl) d_PS_init_50 (fun H locs hP hD hS => ?_)
  have hP : va_P (dC, dI) vwCl [(o, .inr (2, [.ref n6, .int (nI 0), .int (nI 0), .int (nI 0), .ref n28, .ref n36, .ref n43, .int (nI 0), .int (nI 0), .int (nI 0)])), (n6, .inl (cI, 5, .inl (aN (fun _ => 0)))), (n28, .inl (cI, 5, .inl (aN (fun _ => 0)))), (n36, .inl (cI, 6, .inl (aN (fun _ => 0)))), (n43, .inl (cI, 5, .inl (aN (fun _ => 0))))] H := hP
  have hD : va_D A [(o, .inr (2, [.ref n6, .int (nI 0), .int (nI 0), .int (nI 0), .ref n28, .ref n36, .ref n43, .int (nI 0), .int (nI 0), .int (nI 0)])), (n6, .inl (cI, 5, .inl (aN (fun _ => 0)))), (n28, .inl (cI, 5, .inl (aN (fun _ => 0)))), (n36, .inl (cI, 6, .inl (aN (fun _ => 0)))), (n43, .inl (cI, 5, .inl (aN (fun _ => 0))))] := hD
  refine lv_aload_n hx hb d_PS_init_53 rfl (lv_at hl 0 rfl) ?_
  refine lv_iconst (v := nI 0) hx hb d_PS_init_54 (by decide +kernel) ?_
  refine va_put (D := (dC, dI)) (ci := 2) (v := .int (nI 0)) (ty := .int) (C := R_PS) (T := F_PS) (N := 10) hx hb hts in_PS t_PS t_PS_ok n_PS hown hK hP hD hS 0 rfl rfl 8 (by decide) (hts _ m_106) (fun _ h9 => h9) rfl (by decide +kernel) rfl rfl (Nat.le_of_ble_eq_true rfl) d_PS_init_55 (fun H locs hP hD hS => ?_)
  have hP : va_P (dC, dI) vwCl [(o, .inr (2, [.ref n6, .int (nI 0), .int (nI 0), .int (nI 0), .ref n28, .ref n36, .ref n43, .int (nI 0), .int (nI 0), .int (nI 0)])), (n6, .inl (cI, 5, .inl (aN (fun _ => 0)))), (n28, .inl (cI, 5, .inl (aN (fun _ => 0)))), (n36, .inl (cI, 6, .inl (aN (fun _ => 0)))), (n43, .inl (cI, 5, .inl (aN (fun _ => 0))))] H := hP
  have hD : va_D A [(o, .inr (2, [.ref n6, .int (nI 0), .int (nI 0), .int (nI 0), .ref n28, .ref n36, .ref n43, .int (nI 0), .int (nI 0), .int (nI 0)])), (n6, .inl (cI, 5, .inl (aN (fun _ => 0)))), (n28, .inl (cI, 5, .inl (aN (fun _ => 0)))), (n36, .inl (cI, 6, .inl (aN (fun _ => 0)))), (n43, .inl (cI, 5, .inl (aN (fun _ => 0))))] := hD
  refine lv_aload_n hx hb d_PS_init_58 rfl (lv_at hl 0 rfl) ?_
  refine lv_iconst (v := nI 0) hx hb d_PS_init_59 (by decide +kernel) ?_
  refine va_put (D := (dC, dI)) (ci := 2) (v := .int (nI 0)) (ty := .int) (C := R_PS) (T := F_PS) (N := 10) hx hb hts in_PS t_PS t_PS_ok n_PS hown hK hP hD hS 0 rfl rfl 9 (by decide) (hts _ m_107) (fun _ h9 => h9) rfl (by decide +kernel) rfl rfl (Nat.le_of_ble_eq_true rfl) d_PS_init_60 (fun H locs hP hD hS => ?_)
  have hP : va_P (dC, dI) vwCl [(o, .inr (2, [.ref n6, .int (nI 0), .int (nI 0), .int (nI 0), .ref n28, .ref n36, .ref n43, .int (nI 0), .int (nI 0), .int (nI 0)])), (n6, .inl (cI, 5, .inl (aN (fun _ => 0)))), (n28, .inl (cI, 5, .inl (aN (fun _ => 0)))), (n36, .inl (cI, 6, .inl (aN (fun _ => 0)))), (n43, .inl (cI, 5, .inl (aN (fun _ => 0))))] H := hP
  have hD : va_D A [(o, .inr (2, [.ref n6, .int (nI 0), .int (nI 0), .int (nI 0), .ref n28, .ref n36, .ref n43, .int (nI 0), .int (nI 0), .int (nI 0)])), (n6, .inl (cI, 5, .inl (aN (fun _ => 0)))), (n28, .inl (cI, 5, .inl (aN (fun _ => 0)))), (n36, .inl (cI, 6, .inl (aN (fun _ => 0)))), (n43, .inl (cI, 5, .inl (aN (fun _ => 0))))] := hD
  exact W.vret hx hb hr (fun t ht hW => ⟨⟨(n6, n28, n36, n43), rfl, trivial, by rw [ht]; exact hP, va_K.moved hW.alike hK, hD⟩, hS.F ht⟩) hS.2.2 d_PS_init_63
set_option maxHeartbeats 4000000 in
set_option maxRecDepth 100000 in
/-- the constructor -/
theorem c_SQ_init (l : Launch) (dC : Nat → ClassId) (dI : Nat → Nat → Nat) (sz : Nat) (o : Nat) (cI : ClassId) : Met l y_SQ_init w_SQ_init { frames := 1, cells := 3, slots := 4698, locals := 12 } (rw_Pc (dC, dI) vwCl [(cI, .int)] sz [.ref o] [(o, .inr (3, [.null, .int (nI 0), .int (nI 0), .null, .null]))]) (va_Qv (fun (u : Nat × Nat × Nat) => True) (rw_B (dC, dI) vwCl [(cI, .int)] (va_A [(o, .inr (3, [.null, .int (nI 0), .int (nI 0), .null, .null]))] sz) (fun u : Nat × Nat × Nat => [(o, .inr (3, [.ref u.1, .int (nI 0), .int (nI 0), .ref u.2.1, .ref u.2.2])), (u.1, .inl (cI, 9, .inl (aN (fun _ => 0)))), (u.2.1, .inl (cI, 81, .inl (aN (fun _ => 0)))), (u.2.2, .inl (cI, 4608, .inl (aN (fun _ => 0))))])) (va_A [(o, .inr (3, [.null, .int (nI 0), .int (nI 0), .null, .null]))] sz)) 3 4698 (va_A [(o, .inr (3, [.null, .int (nI 0), .int (nI 0), .null, .null]))] sz) := by
  refine Met.ofW (cc := b_SQ_init) (maxL := 1) (ret := none) (by decide) rfl ?_
  intro p e s m args below meth c s₁ B hml hv
  obtain ⟨rfl, hsz, hP, hK, hD0⟩ := hv
  have hx := B.exec
  have hb := B.bytes
  have hr := B.returns
  have hts := gw_h (atoms_spec (ws := w_SQ_init) B.pre)
  have hown : s.vm.findClass R_SQ = some m.cls := findClass_of_methodNamed B.named
  have hlocks := B.notSynchronized
  have hin : meth.name = "<init>" := (name_of_methodNamed B.named B.method).1
  subst hsz
  have hD := hD0.self (sz := s.heap.size)
  generalize hAe : va_A [(o, .inr (3, [.null, .int (nI 0), .int (nI 0), .null, .null]))] s.heap.size = A at hD ⊢
  have hA : ∀ q : Nat, s.heap.size ≤ q → A q := fun q h => by rw [← hAe]; exact Or.inr h
  have hS : va_S A s.heap s.heap [] := va_S.rf
  have hP : va_P (dC, dI) vwCl [(o, .inr (3, [.null, .int (nI 0), .int (nI 0), .null, .null]))] s.heap := hP
  have hl := lv_entry ([.ref o]) (n := 1) (Nat.le_of_ble_eq_true rfl)
  rw [lg_entry_eq]
  generalize (lg_sl ([.ref o]) ++ List.replicate (1 - (lg_sl ([.ref o])).length) Slot.unset).toArray = ls at hl ⊢
  have hl : lv_has ls 1 [(0, .ref o)] := hl
  refine lv_aload_n hx hb d_SQ_init_0 rfl (lv_at hl 0 rfl) ?_
  refine W.objInit hx hb hown (hts _ m_156) (hts _ m_24) (hts _ m_25) rfl (by rw [hml]; exact hl.1) rfl d_SQ_init_1 (Nat.le_of_ble_eq_true rfl) (Nat.le_of_ble_eq_true rfl) ?_
  refine W.eq (g2 := F0 m 4 ls []) rfl ?_
  refine lv_aload_n hx hb d_SQ_init_4 rfl (lv_at hl 0 rfl) ?_
  refine lv_bipush (v := nI 9) hx hb d_SQ_init_5 (by decide +kernel) ?_
  refine va_newa (atype := .int) (a0 := (9, .inl (aN (fun _ => 0)))) (ty := .int) (N' := 9) hx hb (hts _ m_85) rfl hK hP hD hS hA (fun _ => rfl) (by decide +kernel) (by decide +kernel) (by decide) (Nat.le_of_ble_eq_true rfl) (Nat.le_of_ble_eq_true rfl) d_SQ_init_7 (fun n7 cA H hK hP hD hS => ?_)
  obtain rfl := cI_eq hK
  have hK := hK.sub (tys' := [(cI, .int)]) [0] rfl
  refine W.widen (k := 1) (n := 9) (Nat.le_refl _) (Nat.le_refl _) ?_
  have hP : va_P (dC, dI) vwCl [(o, .inr (3, [.null, .int (nI 0), .int (nI 0), .null, .null])), (n7, .inl (cI, 9, .inl (aN (fun _ => 0))))] H := hP
  have hD : va_D A [(o, .inr (3, [.null, .int (nI 0), .int (nI 0), .null, .null])), (n7, .inl (cI, 9, .inl (aN (fun _ => 0))))] := hD
  refine va_putF (D := (dC, dI)) (ci := 3) (v := .ref n7) (ty := .array .int) (C := R_SQ) (T := F_SQ) (N := 5) hx hb hts in_SQ t_SQ t_SQ_ok n_SQ hown hK hP hD hS 0 rfl rfl 0 (by decide) (hts _ m_157) (fun _ h9 => h9) rfl hin rfl (by decide +kernel) rfl rfl (Nat.le_of_ble_eq_true rfl) d_SQ_init_9 (fun H locs hP hD hS => ?_)
  have hP : va_P (dC, dI) vwCl [(o, .inr (3, [.ref n7, .int (nI 0), .int (nI 0), .null, .null])), (n7, .inl (cI, 9, .inl (aN (fun _ => 0))))] H := hP
  have hD : va_D A [(o, .inr (3, [.ref n7, .int (nI 0), .int (nI 0), .null, .null])), (n7, .inl (cI, 9, .inl (aN (fun _ => 0))))] := hD
  refine lv_aload_n hx hb d_SQ_init_12 rfl (lv_at hl 0 rfl) ?_
  refine lv_iconst (v := nI 0) hx hb d_SQ_init_13 (by decide +kernel) ?_
  refine va_put (D := (dC, dI)) (ci := 3) (v := .int (nI 0)) (ty := .int) (C := R_SQ) (T := F_SQ) (N := 5) hx hb hts in_SQ t_SQ t_SQ_ok n_SQ hown hK hP hD hS 0 rfl rfl 1 (by decide) (hts _ m_159) (fun _ h9 => h9) rfl (by decide +kernel) rfl rfl (Nat.le_of_ble_eq_true rfl) d_SQ_init_14 (fun H locs hP hD hS => ?_)
  have hP : va_P (dC, dI) vwCl [(o, .inr (3, [.ref n7, .int (nI 0), .int (nI 0), .null, .null])), (n7, .inl (cI, 9, .inl (aN (fun _ => 0))))] H := hP
  have hD : va_D A [(o, .inr (3, [.ref n7, .int (nI 0), .int (nI 0), .null, .null])), (n7, .inl (cI, 9, .inl (aN (fun _ => 0))))] := hD
  refine lv_aload_n hx hb d_SQ_init_17 rfl (lv_at hl 0 rfl) ?_
  refine lv_iconst (v := nI 0) hx hb d_SQ_init_18 (by decide +kernel) ?_
  refine va_put (D := (dC, dI)) (ci := 3) (v := .int (nI 0)) (ty := .boolean) (C := R_SQ) (T := F_SQ) (N := 5) hx hb hts in_SQ t_SQ t_SQ_ok n_SQ hown hK hP hD hS 0 rfl rfl 2 (by decide) (hts _ m_161) (fun _ h9 => h9) rfl (by decide +kernel) (by decide +kernel) (by decide +kernel) (Nat.le_of_ble_eq_true rfl) d_SQ_init_19 (fun H locs hP hD hS => ?_)
  have hP : va_P (dC, dI) vwCl [(o, .inr (3, [.ref n7, .int (nI 0), .int (nI 0), .null, .null])), (n7, .inl (cI, 9, .inl (aN (fun _ => 0))))] H := hP
  have hD : va_D A [(o, .inr (3, [.ref n7, .int (nI 0), .int (nI 0), .null, .null])), (n7, .inl (cI, 9, .inl (aN (fun _ => 0))))] := hD
  refine lv_aload_n hx hb d_SQ_init_22 rfl (lv_at hl 0 rfl) ?_
  refine lv_bipush (v := nI 81) hx hb d_SQ_init_23 (by decide +kernel) ?_
  refine va_newa (atype := .int) (a0 := (81, .inl (aN (fun _ => 0)))) (ty := .int) (N' := 81) hx hb (hts _ m_85) rfl hK hP hD hS hA (fun _ => rfl) (by decide +kernel) (by decide +kernel) (by decide) (Nat.le_of_ble_eq_true rfl) (Nat.le_of_ble_eq_true rfl) d_SQ_init_25 (fun n25 cA H hK hP hD hS => ?_)
  obtain rfl := cI_eq hK
  have hK := hK.sub (tys' := [(cI, .int)]) [0] rfl
  refine W.widen (k := 2) (n := 90) (Nat.le_refl _) (Nat.le_refl _) ?_
  have hP : va_P (dC, dI) vwCl [(o, .inr (3, [.ref n7, .int (nI 0), .int (nI 0), .null, .null])), (n7, .inl (cI, 9, .inl (aN (fun _ => 0)))), (n25, .inl (cI, 81, .inl (aN (fun _ => 0))))] H := hP
  have hD : va_D A [(o, .inr (3, [.ref n7, .int (nI 0), .int (nI 0), .null, .null])), (n7, .inl (cI, 9, .inl (aN (fun _ => 0)))), (n25, .inl (cI, 81, .inl (aN (fun _ => 0))))] := hD
  refine va_putF (D := (dC, dI)) (ci := 3) (v := .ref n25) (ty := .array .int) (C := R_SQ) (T := F_SQ) (N := 5) hx hb hts in_SQ t_SQ t_SQ_ok n_SQ hown hK hP hD hS 0 rfl rfl 3 (by decide) (hts _ m_163) (fun _ h9 => h9) rfl hin rfl (by decide +kernel) rfl rfl (Nat.le_of_ble_eq_true rfl) d_SQ_init_27 (fun H locs hP hD hS => ?_)
  have hP : va_P (dC, dI) vwCl [(o, .inr (3, [.ref n7, .int (nI 0), .int (nI 0), .ref n25, .null])), (n7, .inl (cI, 9, .inl (aN (fun _ => 0)))), (n25, .inl (cI, 81, .inl (aN (fun _ => 0))))] H := hP
  have hD : va_D A [(o, .inr (3, [.ref n7, .int (nI 0), .int (nI 0), .ref n25, .null])), (n7, .inl (cI, 9, .inl (aN (fun _ => 0)))), (n25, .inl (cI, 81, .inl (aN (fun _ => 0))))] := hD
  refine lv_aload_n hx hb d_SQ_init_30 rfl (lv_at hl 0 rfl) ?_
  refine lv_sipush (v := nI 4608) hx hb d_SQ_init_31 (by decide +kernel) ?_
  refine va_newa (atype := .int) (a0 := (4608, .inl (aN (fun _ => 0)))) (ty := .int) (N' := 4608) hx hb (hts _ m_85) rfl hK hP hD hS hA (fun _ => rfl) (by decide +kernel) (by decide +kernel) (by decide) (Nat.le_of_ble_eq_true rfl) (Nat.le_of_ble_eq_true rfl) d_SQ_init_34 (fun n34 cA H hK hP hD hS => ?_)
  obtain rfl := cI_eq hK
  have hK := hK.sub (tys' := [(cI, .int)]) [0] rfl
  refine W.widen (k := 3) (n := 4698) (Nat.le_refl _) (Nat.le_refl _) ?_
  have hP : va_P (dC, dI) vwCl [(o, .inr (3, [.ref n7, .int (nI 0), .int (nI 0), .ref n25, .null])), (n7, .inl (cI, 9, .inl (aN (fun _ => 0)))), (n25, .inl (cI, 81, .inl (aN (fun _ => 0)))), (n34, .inl (cI, 4608, .inl (aN (fun _ => 0))))] H := hP
  have hD : va_D A [(o, .inr (3, [.ref n7, .int (nI 0), .int (nI 0), .ref n25, .null])), (n7, .inl (cI, 9, .inl (aN (fun _ => 0)))), (n25, .inl (cI, 81, .inl (aN (fun _ => 0)))), (n34, .inl (cI, 4608, .inl (aN (fun _ => 0))))] := hD
  refine va_putF (D := (dC, dI)) (ci := 3) (v := .ref n34) (ty := .array .int) (C := R_SQ) (T := F_SQ) (N := 5) hx hb hts in_SQ t_SQ t_SQ_ok n_SQ hown hK hP hD hS 0 rfl rfl 4 (by decide) (hts _ m_164) (fun _ h9 => h9) rfl hin rfl (by decide +kernel) rfl rfl (Nat.le_of_ble_eq_true rfl) d_SQ_init_36 (fun H locs hP hD hS => ?_)
  have hP : va_P (dC, dI) vwCl [(o, .inr (3, [.ref n7, .int (nI 0), .int (nI 0), .ref n25, .ref n34])), (n7, .inl (cI, 9, .inl (aN (fun _ => 0)))), (n25, .inl (cI, 81, .inl (aN (fun _ => 0)))), (n34, .inl (cI, 4608, .inl (aN (fun _ => 0))))] H := hP
  have hD : va_D A [(o, .inr (3, [.ref n7, .int (nI 0), .int (nI 0), .ref n25, .ref n34])), (n7, .inl (cI, 9, .inl (aN (fun _ => 0)))), (n25, .inl (cI, 81, .inl (aN (fun _ => 0)))), (n34, .inl (cI, 4608, .inl (aN (fun _ => 0))))] := hD
  exact W.vret hx hb hr (fun t ht hW => ⟨⟨(n7, n25, n34), rfl, trivial, by rw [ht]; exact hP, va_K.moved hW.alike hK, hD⟩, hS.F ht⟩) hS.2.2 d_SQ_init_39
set_option maxHeartbeats 4000000 in
set_option maxRecDepth 100000 in
/-- the constructor -/
theorem c_SU_init (l : Launch) (dC : Nat → ClassId) (dI : Nat → Nat → Nat) (sz : Nat) (o : Nat) (cI : ClassId) : Met l y_SU_init w_SU_init { frames := 1, cells := 4, slots := 150, locals := 12 } (rw_Pc (dC, dI) vwCl [(cI, .int)] sz [.ref o] [(o, .inr (4, [.null, .null, .null, .int (nI 0), .int (nI 0), .null, .int (nI 0), .int (nI 0), .int (nI 0), .int (nI 0), .int (nI 0)]))]) (va_Qv (fun (u : Nat × Nat × Nat × Nat) => True) (rw_B (dC, dI) vwCl [(cI, .int)] (va_A [(o, .inr (4, [.null, .null, .null, .int (nI 0), .int (nI 0), .null, .int (nI 0), .int (nI 0), .int (nI 0), .int (nI 0), .int (nI 0)]))] sz) (fun u : Nat × Nat × Nat × Nat => [(o, .inr (4, [.ref u.1, .ref u.2.1, .ref u.2.2.1, .int (nI 0), .int (nI 0), .ref u.2.2.2, .int (nI 0), .int (nI 0), .int (nI 0), .int (nI 0), .int (nI 0)])), (u.1, .inl (cI, 30, .inl (aN (fun _ => 0)))), (u.2.1, .inl (cI, 30, .inl (aN (fun _ => 0)))), (u.2.2.1, .inl (cI, 30, .inl (aN (fun _ => 0)))), (u.2.2.2, .inl (cI, 60, .inl (aN (fun _ => 0))))])) (va_A [(o, .inr (4, [.null, .null, .null, .int (nI 0), .int (nI 0), .null, .int (nI 0), .int (nI 0), .int (nI 0), .int (nI 0), .int (nI 0)]))] sz)) 4 150 (va_A [(o, .inr (4, [.null, .null, .null, .int (nI 0), .int (nI 0), .null, .int (nI 0), .int (nI 0), .int (nI 0), .int (nI 0), .int (nI 0)]))] sz) := by
  refine Met.ofW (cc := b_SU_init) (maxL := 1) (ret := none) (by decide) rfl ?_
  intro p e s m args below meth c s₁ B hml hv
  obtain ⟨rfl, hsz, hP, hK, hD0⟩ := hv
  have hx := B.exec
  have hb := B.bytes
  have hr := B.returns
  have hts := gw_h (atoms_spec (ws := w_SU_init) B.pre)
  have hown : s.vm.findClass R_SU = some m.cls := findClass_of_methodNamed B.named
  have hlocks := B.notSynchronized
  have hin : meth.name = "<init>" := (name_of_methodNamed B.named B.method).1
  subst hsz
  have hD := hD0.self (sz := s.heap.size)
  generalize hAe : va_A [(o, .inr (4, [.null, .null, .null, .int (nI 0), .int (nI 0), .null, .int (nI 0), .int (nI 0), .int (nI 0), .int (nI 0), .int (nI 0)]))] s.heap.size = A at hD ⊢
  have hA : ∀ q : Nat, s.heap.size ≤ q → A q := fun q h => by rw [← hAe]; exact Or.inr h
  have hS : va_S A s.heap s.heap [] := va_S.rf
  have hP : va_P (dC, dI) vwCl [(o, .inr (4, [.null, .null, .null, .int (nI 0), .int (nI 0), .null, .int (nI 0), .int (nI 0), .int (nI 0), .int (nI 0), .int (nI 0)]))] s.heap := hP
  have hl := lv_entry ([.ref o]) (n := 1) (Nat.le_of_ble_eq_true rfl)
  rw [lg_entry_eq]
  generalize (lg_sl ([.ref o]) ++ List.replicate (1 - (lg_sl ([.ref o])).length) Slot.unset).toArray = ls at hl ⊢
  have hl : lv_has ls 1 [(0, .ref o)] := hl
  refine lv_aload_n hx hb d_SU_init_0 rfl (lv_at hl 0 rfl) ?_
  refine W.objInit hx hb hown (hts _ m_182) (hts _ m_24) (hts _ m_25) rfl (by rw [hml]; exact hl.1) rfl d_SU_init_1 (Nat.le_of_ble_eq_true rfl) (Nat.le_of_ble_eq_true rfl) ?_
  refine W.eq (g2 := F0 m 4 ls []) rfl ?_
  refine lv_aload_n hx hb d_SU_init_4 rfl (lv_at hl 0 rfl) ?_
  refine lv_bipush (v := nI 30) hx hb d_SU_init_5 (by decide +kernel) ?_
  refine va_newa (atype := .int) (a0 := (30, .inl (aN (fun _ => 0)))) (ty := .int) (N' := 30) hx hb (hts _ m_85) rfl hK hP hD hS hA (fun _ => rfl) (by decide +kernel) (by decide +kernel) (by decide) (Nat.le_of_ble_eq_true rfl) (Nat.le_of_ble_eq_true rfl) d_SU_init_7 (fun n7 cA H hK hP hD hS => ?_)
  obtain rfl := cI_eq hK
  have hK := hK.sub (tys' := [(cI, .int)]) [0] rfl
  refine W.widen (k := 1) (n := 30) (Nat.le_refl _) (Nat.le_refl _) ?_
  have hP : va_P (dC, dI) vwCl [(o, .inr (4, [.null, .null, .null, .int (nI 0), .int (nI 0), .null, .int (nI 0), .int (nI 0), .int (nI 0), .int (nI 0), .int (nI 0)])), (n7, .inl (cI, 30, .inl (aN (fun _ => 0))))] H := hP
  have hD : va_D A [(o, .inr (4, [.null, .null, .null, .int (nI 0), .int (nI 0), .null, .int (nI 0), .int (nI 0), .int (nI 0), .int (nI 0), .int (nI 0)])), (n7, .inl (cI, 30, .inl (aN (fun _ => 0))))] := hD
  refine va_putF (D := (dC, dI)) (ci := 4) (v := .ref n7) (ty := .array .int) (C := R_SU) (T := F_SU) (N := 11) hx hb hts in_SU t_SU t_SU_ok n_SU hown hK hP hD hS 0 rfl rfl 0 (by decide) (hts _ m_183) (fun _ h9 => h9) rfl hin rfl (by decide +kernel) rfl rfl (Nat.le_of_ble_eq_true rfl) d_SU_init_9 (fun H locs hP hD hS => ?_)
  have hP : va_P (dC, dI) vwCl [(o, .inr (4, [.ref n7, .null, .null, .int (nI 0), .int (nI 0), .null, .int (nI 0), .int (nI 0), .int (nI 0), .int (nI 0), .int (nI 0)])), (n7, .inl (cI, 30, .inl (aN (fun _ => 0))))] H := hP
  have hD : va_D A [(o, .inr (4, [.ref n7, .null, .null, .int (nI 0), .int (nI 0), .null, .int (nI 0), .int (nI 0), .int (nI 0), .int (nI 0), .int (nI 0)])), (n7, .inl (cI, 30, .inl (aN (fun _ => 0))))] := hD
  refine lv_aload_n hx hb d_SU_init_12 rfl (lv_at hl 0 rfl) ?_
  refine lv_bipush (v := nI 30) hx hb d_SU_init_13 (by decide +kernel) ?_
  refine va_newa (atype := .int) (a0 := (30, .inl (aN (fun _ => 0)))) (ty := .int) (N' := 30) hx hb (hts _ m_85) rfl hK hP hD hS hA (fun _ => rfl) (by decide +kernel) (by decide +kernel) (by decide) (Nat.le_of_ble_eq_true rfl) (Nat.le_of_ble_eq_true rfl) d_SU_init_15 (fun n15 cA H hK hP hD hS => ?_)
  obtain rfl := cI_eq hK
  have hK := hK.sub (tys' := [(cI, .int)]) [0] rfl
  refine W.widen (k := 2) (n := 60) (Nat.le_refl _) (Nat.le_refl _) ?_
  have hP : va_P (dC, dI) vwCl [(o, .inr (4, [.ref n7, .null, .null, .int (nI 0), .int (nI 0), .null, .int (nI 0), .int (nI 0), .int (nI 0), .int (nI 0), .int (nI 0)])), (n7, .inl (cI, 30, .inl (aN (fun _ => 0)))), (n15, .inl (cI, 30, .inl (aN (fun _ => 0))))] H := hP
  have hD : va_D A [(o, .inr (4, [.ref n7, .null, .null, .int (nI 0), .int (nI 0), .null, .int (nI 0), .int (nI 0), .int (nI 0), .int (nI 0), .int (nI 0)])), (n7, .inl (cI, 30, .inl (aN (fun _ => 0)))), (n15, .inl (cI, 30, .inl (aN (fun _ => 0))))] := hD
  refine va_putF (D := (dC, dI)) (ci := 4) (v := .ref n15) (ty := .array .int) (C := R_SU) (T := F_SU) (N := 11) hx hb hts in_SU t_SU t_SU_ok n_SU hown hK hP hD hS 0 rfl rfl 1 (by decide) (hts _ m_185) (fun _ h9 => h9) rfl hin rfl (by decide +kernel) rfl rfl (Nat.le_of_ble_eq_true rfl) d_SU_init_17 (fun H locs hP hD hS => ?_)
  have hP : va_P (dC, dI) vwCl [(o, .inr (4, [.ref n7, .ref n15, .null, .int (nI 0), .int (nI 0), .null, .int (nI 0), .int (nI 0), .int (nI 0), .int (nI 0), .int (nI 0)])), (n7, .inl (cI, 30, .inl (aN (fun _ => 0)))), (n15, .inl (cI, 30, .inl (aN (fun _ => 0))))] H := hP
  have hD : va_D A [(o, .inr (4, [.ref n7, .ref n15, .null, .int (nI 0), .int (nI 0), .null, .int (nI 0), .int (nI 0), .int (nI 0), .int (nI 0), .int (nI 0)])), (n7, .inl (cI, 30, .inl (aN (fun _ => 0)))), (n15, .inl (cI, 30, .inl (aN (fun _ => 0))))] := hD
  refine lv_aload_n hx hb d_SU_init_20 rfl (lv_at hl 0 rfl) ?_
  refine lv_bipush (v := nI 30) hx hb d_SU_init_21 (by decide +kernel) ?_
  refine va_newa (atype := .int) (a0 := (30, .inl (aN (fun _ => 0)))) (ty := .int) (N' := 30) hx hb (hts _ m_85) rfl hK hP hD hS hA (fun _ => rfl) (by decide +kernel) (by decide +kernel) (by decide) (Nat.le_of_ble_eq_true rfl) (Nat.le_of_ble_eq_true rfl) d_SU_init_23 (fun n23 cA H hK hP hD hS => ?_)
  obtain rfl := cI_eq hK
  have hK := hK.sub (tys' := [(cI, .int)]) [0] rfl
  refine W.widen (k := 3) (n := 90) (Nat.le_refl _) (Nat.le_refl _) ?_
  have hP : va_P (dC, dI) vwCl [(o, .inr (4, [.ref n7, .ref n15, .null, .int (nI 0), .int (nI 0), .null, .int (nI 0), .int (nI 0), .int (nI 0), .int (nI 0), .int (nI 0)])), (n7, .inl (cI, 30, .inl (aN (fun _ => 0)))), (n15, .inl (cI, 30, .inl (aN (fun _ => 0)))), (n23, .inl (cI, 30, .inl (aN (fun _ => 0))))] H := hP
  have hD : va_D A [(o, .inr (4, [.ref n7, .ref n15, .null, .int (nI 0), .int (nI 0), .null, .int (nI 0), .int (nI 0), .int (nI 0), .int (nI 0), .int (nI 0)])), (n7, .inl (cI, 30, .inl (aN (fun _ => 0)))), (n15, .inl (cI, 30, .inl (aN (fun _ => 0)))), (n23, .inl (cI, 30, .inl (aN (fun _ => 0))))] := hD
  refine va_putF (D := (dC, dI)) (ci := 4) (v := .ref n23) (ty := .array .int) (C := R_SU) (T := F_SU) (N := 11) hx hb hts in_SU t_SU t_SU_ok n_SU hown hK hP hD hS 0 rfl rfl 2 (by decide) (hts _ m_187) (fun _ h9 => h9) rfl hin rfl (by decide +kernel) rfl rfl (Nat.le_of_ble_eq_true rfl) d_SU_init_25 (fun H locs hP hD hS => ?_)
  have hP : va_P (dC, dI) vwCl [(o, .inr (4, [.ref n7, .ref n15, .ref n23, .int (nI 0), .int (nI 0), .null, .int (nI 0), .int (nI 0), .int (nI 0), .int (nI 0), .int (nI 0)])), (n7, .inl (cI, 30, .inl (aN (fun _ => 0)))), (n15, .inl (cI, 30, .inl (aN (fun _ => 0)))), (n23, .inl (cI, 30, .inl (aN (fun _ => 0))))] H := hP
  have hD : va_D A [(o, .inr (4, [.ref n7, .ref n15, .ref n23, .int (nI 0), .int (nI 0), .null, .int (nI 0), .int (nI 0), .int (nI 0), .int (nI 0), .int (nI 0)])), (n7, .inl (cI, 30, .inl (aN (fun _ => 0)))), (n15, .inl (cI, 30, .inl (aN (fun _ => 0)))), (n23, .inl (cI, 30, .inl (aN (fun _ => 0))))] := hD
  refine lv_aload_n hx hb d_SU_init_28 rfl (lv_at hl 0 rfl) ?_
  refine lv_iconst (v := nI 0) hx hb d_SU_init_29 (by decide +kernel) ?_
  refine va_put (D := (dC, dI)) (ci := 4) (v := .int (nI 0)) (ty := .int) (C := R_SU) (T := F_SU) (N := 11) hx hb hts in_SU t_SU t_SU_ok n_SU hown hK hP hD hS 0 rfl rfl 3 (by decide) (hts _ m_189) (fun _ h9 => h9) rfl (by decide +kernel) rfl rfl (Nat.le_of_ble_eq_true rfl) d_SU_init_30 (fun H locs hP hD hS => ?_)
  have hP : va_P (dC, dI) vwCl [(o, .inr (4, [.ref n7, .ref n15, .ref n23, .int (nI 0), .int (nI 0), .null, .int (nI 0), .int (nI 0), .int (nI 0), .int (nI 0), .int (nI 0)])), (n7, .inl (cI, 30, .inl (aN (fun _ => 0)))), (n15, .inl (cI, 30, .inl (aN (fun _ => 0)))), (n23, .inl (cI, 30, .inl (aN (fun _ => 0))))] H := hP
  have hD : va_D A [(o, .inr (4, [.ref n7, .ref n15, .ref n23, .int (nI 0), .int (nI 0), .null, .int (nI 0), .int (nI 0), .int (nI 0), .int (nI 0), .int (nI 0)])), (n7, .inl (cI, 30, .inl (aN (fun _ => 0)))), (n15, .inl (cI, 30, .inl (aN (fun _ => 0)))), (n23, .inl (cI, 30, .inl (aN (fun _ => 0))))] := hD
  refine lv_aload_n hx hb d_SU_init_33 rfl (lv_at hl 0 rfl) ?_
  refine lv_iconst (v := nI 0) hx hb d_SU_init_34 (by decide +kernel) ?_
  refine va_put (D := (dC, dI)) (ci := 4) (v := .int (nI 0)) (ty := .int) (C := R_SU) (T := F_SU) (N := 11) hx hb hts in_SU t_SU t_SU_ok n_SU hown hK hP hD hS 0 rfl rfl 4 (by decide) (hts _ m_191) (fun _ h9 => h9) rfl (by decide +kernel) rfl rfl (Nat.le_of_ble_eq_true rfl) d_SU_init_35 (fun H locs hP hD hS => ?_)
  have hP : va_P (dC, dI) vwCl [(o, .inr (4, [.ref n7, .ref n15, .ref n23, .int (nI 0), .int (nI 0), .null, .int (nI 0), .int (nI 0), .int (nI 0), .int (nI 0), .int (nI 0)])), (n7, .inl (cI, 30, .inl (aN (fun _ => 0)))), (n15, .inl (cI, 30, .inl (aN (fun _ => 0)))), (n23, .inl (cI, 30, .inl (aN (fun _ => 0))))] H := hP
  have hD : va_D A [(o, .inr (4, [.ref n7, .ref n15, .ref n23, .int (nI 0), .int (nI 0), .null, .int (nI 0), .int (nI 0), .int (nI 0), .int (nI 0), .int (nI 0)])), (n7, .inl (cI, 30, .inl (aN (fun _ => 0)))), (n15, .inl (cI, 30, .inl (aN (fun _ => 0)))), (n23, .inl (cI, 30, .inl (aN (fun _ => 0))))] := hD
  refine lv_aload_n hx hb d_SU_init_38 rfl (lv_at hl 0 rfl) ?_
  refine lv_bipush (v := nI 60) hx hb d_SU_init_39 (by decide +kernel) ?_
  refine va_newa (atype := .int) (a0 := (60, .inl (aN (fun _ => 0)))) (ty := .int) (N' := 60) hx hb (hts _ m_85) rfl hK hP hD hS hA (fun _ => rfl) (by decide +kernel) (by decide +kernel) (by decide) (Nat.le_of_ble_eq_true rfl) (Nat.le_of_ble_eq_true rfl) d_SU_init_41 (fun n41 cA H hK hP hD hS => ?_)
  obtain rfl := cI_eq hK
  have hK := hK.sub (tys' := [(cI, .int)]) [0] rfl
  refine W.widen (k := 4) (n := 150) (Nat.le_refl _) (Nat.le_refl _) ?_
  have hP : va_P (dC, dI) vwCl [(o, .inr (4, [.ref n7, .ref n15, .ref n23, .int (nI 0), .int (nI 0), .null, .int (nI 0), .int (nI 0), .int (nI 0), .int (nI 0), .int (nI 0)])), (n7, .inl (cI, 30, .inl (aN (fun _ => 0)))), (n15, .inl (cI, 30, .inl (aN (fun _ => 0)))), (n23, .inl (cI, 30, .inl (aN (fun _ => 0)))), (n41, .inl (cI, 60, .inl (aN (fun _ => 0))))] H := hP
  have hD : va_D A [(o, .inr (4, [.ref n7, .ref n15, .ref n23, .int (nI 0), .int (nI 0), .null, .int (nI 0), .int (nI 0), .int (nI 0), .int (nI 0), .int (nI 0)])), (n7, .inl (cI, 30, .inl (aN (fun _ => 0)))), (n15, .inl (cI, 30, .inl (aN (fun _ => 0)))), (n23, .inl (cI, 30, .inl (aN (fun _ => 0)))), (n41, .inl (cI, 60, .inl (aN (fun _ => 0))))] := hD
  refine va_putF (D := (dC, dI)) (ci := 4) (v := .ref n41) (ty := .array .int) (C := R_SU) (T := F_SU) (N := 11) hx hb hts in_SU t_SU t_SU_ok n_SU hown hK hP hD hS 0 rfl rfl 5 (by decide) (hts _ m_193) (fun _ h9 => h9) rfl hin rfl (by decide +kernel) rfl rfl (Nat.le_of_ble_eq_true rfl) d_SU_init_43 (fun H locs hP hD hS => ?_)
  have hP : va_P (dC, dI) vwCl [(o, .inr (4, [.ref n7, .ref n15, .ref n23, .int (nI 0), .int (nI 0), .ref n41, .int (nI 0), .int (nI 0), .int (nI 0), .int (nI 0), .int (nI 0)])), (n7, .inl (cI, 30, .inl (aN (fun _ => 0)))), (n15, .inl (cI, 30, .inl (aN (fun _ => 0)))), (n23, .inl (cI, 30, .inl (aN (fun _ => 0)))), (n41, .inl (cI, 60, .inl (aN (fun _ => 0))))] H := hP
  have hD : va_D A [(o, .inr (4, [.ref n7, .ref n15, .ref n23, .int (nI 0), .int (nI 0), .ref n41, .int (nI 0), .int (nI 0), .int (nI 0), .int (nI 0), .int (nI 0)])), (n7, .inl (cI, 30, .inl (aN (fun _ => 0)))), (n15, .inl (cI, 30, .inl (aN (fun _ => 0)))), (n23, .inl (cI, 30, .inl (aN (fun _ => 0)))), (n41, .inl (cI, 60, .inl (aN (fun _ => 0))))] := hD
  refine lv_aload_n hx hb d_SU_init_46 rfl (lv_at hl 0 rfl) ?_
  refine lv_iconst (v := nI 0) hx hb d_SU_init_47 (by decide +kernel) ?_
  refine va_put (D := (dC, dI)) (ci := 4) (v := .int (nI 0)) (ty := .int) (C := R_SU) (T := F_SU) (N := 11) hx hb hts in_SU t_SU t_SU_ok n_SU hown hK hP hD hS 0 rfl rfl 6 (by decide) (hts _ m_194) (fun _ h9 => h9) rfl (by decide +kernel) rfl rfl (Nat.le_of_ble_eq_true rfl) d_SU_init_48 (fun H locs hP hD hS => ?_)
  have hP : va_P (dC, dI) vwCl [(o, .inr (4, [.ref n7, .ref n15, .ref n23, .int (nI 0), .int (nI 0), .ref n41, .int (nI 0), .int (nI 0), .int (nI 0), .int (nI 0), .int (nI 0)])), (n7, .inl (cI, 30, .inl (aN (fun _ => 0)))), (n15, .inl (cI, 30, .inl (aN (fun _ => 0)))), (n23, .inl (cI, 30, .inl (aN (fun _ => 0)))), (n41, .inl (cI, 60, .inl (aN (fun _ => 0))))] H := hP
  have hD : va_D A [(o, .inr (4, [.ref n7, .ref n15, .ref n23, .int (nI 0), .int (nI 0), .ref n41, .int (nI 0), .int (nI 0), .int (nI 0), .int (nI 0), .int (nI 0)])), (n7, .inl (cI, 30, .inl (aN (fun _ => 0)))), (n15, .inl (cI, 30, .inl (aN (fun _ => 0)))), (n23, .inl (cI, 30, .inl (aN (fun _ => 0)))), (n41, .inl (cI, 60, .inl (aN (fun _ => 0))))] := hD
  refine lv_aload_n hx hb d_SU_init_51 rfl (lv_at hl 0 rfl) ?_
  refine lv_iconst (v := nI 0) hx hb d_SU_init_52 (by decide +kernel) ?_
  refine va_put (D := (dC, dI)) (ci := 4) (v := .int (nI 0)) (ty := .int) (C := R_SU) (T := F_SU) (N := 11) hx hb hts in_SU t_SU t_SU_ok n_SU hown hK hP hD hS 0 rfl rfl 7 (by decide) (hts _ m_195) (fun _ h9 => h9) rfl (by decide +kernel) rfl rfl (Nat.le_of_ble_eq_true rfl) d_SU_init_53 (fun H locs hP hD hS => ?_)
  have hP : va_P (dC, dI) vwCl [(o, .inr (4, [.ref n7, .ref n15, .ref n23, .int (nI 0), .int (nI 0), .ref n41, .int (nI 0), .int (nI 0), .int (nI 0), .int (nI 0), .int (nI 0)])), (n7, .inl (cI, 30, .inl (aN (fun _ => 0)))), (n15, .inl (cI, 30, .inl (aN (fun _ => 0)))), (n23, .inl (cI, 30, .inl (aN (fun _ => 0)))), (n41, .inl (cI, 60, .inl (aN (fun _ => 0))))] H := hP
  have hD : va_D A [(o, .inr (4, [.ref n7, .ref n15, .ref n23, .int (nI 0), .int (nI 0), .ref n41, .int (nI 0), .int (nI 0), .int (nI 0), .int (nI 0), .int (nI 0)])), (n7, .inl (cI, 30, .inl (aN (fun _ => 0)))), (n15, .inl (cI, 30, .inl (aN (fun _ => 0)))), (n23, .inl (cI, 30, .inl (aN (fun _ => 0)))), (n41, .inl (cI, 60, .inl (aN (fun _ => 0))))] := hD
  refine lv_aload_n hx hb d_SU_init_56 rfl (lv_at hl 0 rfl) ?_
  refine lv_iconst (v := nI 0) hx hb d_SU_init_57 (by decide +kernel) ?_
  refine va_put (D := (dC, dI)) (ci := 4) (v := .int (nI 0)) (ty := .int) (C := R_SU) (T := F_SU) (N := 11) hx hb hts in_SU t_SU t_SU_ok n_SU hown hK hP hD hS 0 rfl rfl 8 (by decide) (hts _ m_196) (fun _ h9 => h9) rfl (by decide +kernel) rfl rfl (Nat.le_of_ble_eq_true rfl) d_SU_init_58 (fun H locs hP hD hS => ?_)
  have hP : va_P (dC, dI) vwCl [(o, .inr (4, [.ref n7, .ref n15, .ref n23, .int (nI 0), .int (nI 0), .ref n41, .int (nI 0), .int (nI 0), .int (nI 0), .int (nI 0), .int (nI 0)])), (n7, .inl (cI, 30, .inl (aN (fun _ => 0)))), (n15, .inl (cI, 30, .inl (aN (fun _ => 0)))), (n23, .inl (cI, 30, .inl (aN (fun _ => 0)))), (n41, .inl (cI, 60, .inl (aN (fun _ => 0))))] H := hP
  have hD : va_D A [(o, .inr (4, [.ref n7, .ref n15, .ref n23, .int (nI 0), .int (nI 0), .ref n41, .int (nI 0), .int (nI 0), .int (nI 0), .int (nI 0), .int (nI 0)])), (n7, .inl (cI, 30, .inl (aN (fun _ => 0)))), (n15, .inl (cI, 30, .inl (aN (fun _ => 0)))), (n23, .inl (cI, 30, .inl (aN (fun _ => 0)))), (n41, .inl (cI, 60, .inl (aN (fun _ => 0))))] := hD
  refine lv_aload_n hx hb d_SU_init_61 rfl (lv_at hl 0 rfl) ?_
  refine lv_iconst (v := nI 0) hx hb d_SU_init_62 (by decide +kernel) ?_
  refine va_put (D := (dC, dI)) (ci := 4) (v := .int (nI 0)) (ty := .int) (C := R_SU) (T := F_SU) (N := 11) hx hb hts in_SU t_SU t_SU_ok n_SU hown hK hP hD hS 0 rfl rfl 9 (by decide) (hts _ m_197) (fun _ h9 => h9) rfl (by decide +kernel) rfl rfl (Nat.le_of_ble_eq_true rfl) d_SU_init_63 (fun H locs hP hD hS => ?_)
  have hP : va_P (dC, dI) vwCl [(o, .inr (4, [.ref n7, .ref n15, .ref n23, .int (nI 0), .int (nI 0), .ref n41, .int (nI 0), .int (nI 0), .int (nI 0), .int (nI 0), .int (nI 0)])), (n7, .inl (cI, 30, .inl (aN (fun _ => 0)))), (n15, .inl (cI, 30, .inl (aN (fun _ => 0)))), (n23, .inl (cI, 30, .inl (aN (fun _ => 0)))), (n41, .inl (cI, 60, .inl (aN (fun _ => 0))))] H := hP
  have hD : va_D A [(o, .inr (4, [.ref n7, .ref n15, .ref n23, .int (nI 0), .int (nI 0), .ref n41, .int (nI 0), .int (nI 0), .int (nI 0), .int (nI 0), .int (nI 0)])), (n7, .inl (cI, 30, .inl (aN (fun _ => 0)))), (n15, .inl (cI, 30, .inl (aN (fun _ => 0)))), (n23, .inl (cI, 30, .inl (aN (fun _ => 0)))), (n41, .inl (cI, 60, .inl (aN (fun _ => 0))))] := hD
  refine lv_aload_n hx hb d_SU_init_66 rfl (lv_at hl 0 rfl) ?_
  refine lv_iconst (v := nI 0) hx hb d_SU_init_67 (by decide +kernel) ?_
  refine va_put (D := (dC, dI)) (ci := 4) (v := .int (nI 0)) (ty := .int) (C := R_SU) (T := F_SU) (N := 11) hx hb hts in_SU t_SU t_SU_ok n_SU hown hK hP hD hS 0 rfl rfl 10 (by decide) (hts _ m_198) (fun _ h9 => h9) rfl (by decide +kernel) rfl rfl (Nat.le_of_ble_eq_true rfl) d_SU_init_68 (fun H locs hP hD hS => ?_)
  have hP : va_P (dC, dI) vwCl [(o, .inr (4, [.ref n7, .ref n15, .ref n23, .int (nI 0), .int (nI 0), .ref n41, .int (nI 0), .int (nI 0), .int (nI 0), .int (nI 0), .int (nI 0)])), (n7, .inl (cI, 30, .inl (aN (fun _ => 0)))), (n15, .inl (cI, 30, .inl (aN (fun _ => 0)))), (n23, .inl (cI, 30, .inl (aN (fun _ => 0)))), (n41, .inl (cI, 60, .inl (aN (fun _ => 0))))] H := hP
  have hD : va_D A [(o, .inr (4, [.ref n7, .ref n15, .ref n23, .int (nI 0), .int (nI 0), .ref n41, .int (nI 0), .int (nI 0), .int (nI 0), .int (nI 0), .int (nI 0)])), (n7, .inl (cI, 30, .inl (aN (fun _ => 0)))), (n15, .inl (cI, 30, .inl (aN (fun _ => 0)))), (n23, .inl (cI, 30, .inl (aN (fun _ => 0)))), (n41, .inl (cI, 60, .inl (aN (fun _ => 0))))] := hD
  exact W.vret hx hb hr (fun t ht hW => ⟨⟨(n7, n15, n23, n41), rfl, trivial, by rw [ht]; exact hP, va_K.moved hW.alike hK, hD⟩, hS.F ht⟩) hS.2.2 d_SU_init_71
end
section
/-- 1 where it holds, else 0 -/
def b01 (P : Prop) [Decidable P] : Nat := if P then 1 else 0
theorem b01_t {P : Prop} [Decidable P] (h : P) : b01 P = 1 := if_pos h
theorem b01_f {P : Prop} [Decidable P] (h : ¬ P) : b01 P = 0 := if_neg h
theorem b01_le {P : Prop} [Decidable P] : b01 P ≤ 1 := by unfold b01; split <;> omega
theorem b01_1 {P : Prop} [Decidable P] : b01 P = 1 ↔ P := by unfold b01; split <;> simp [*]
theorem b01_0 {P : Prop} [Decidable P] : b01 P = 0 ↔ ¬ P := by unfold b01; split <;> simp [*]
/-- what 'throwing' keeps -/
def thw (a b : Nat) : Nat := if a = 1 then 1 else if b = 1 then 2 else 0
/-- the k-th strip's wanted width is nu k, by the counts f -/
def HW (f nu : Nat → Nat) : Prop := ∀ i, i < sumN f 5 → sumN f (nu i) ≤ i ∧ i < sumN f (nu i + 1) ∧ nu i < 5
theorem wo_uniq {f : Nat → Nat} {k a b : Nat} (h1 : sumN f a ≤ k) (h2 : k < sumN f (a + 1)) (h3 : sumN f b ≤ k) (h4 : k < sumN f (b + 1)) : a = b := by
  rcases Nat.lt_trichotomy a b with h | h | h
  · have := sumN_mono (f := f) (show a + 1 ≤ b by omega)
    omega
  · exact h
  · have := sumN_mono (f := f) (show b + 1 ≤ a by omega)
    omega
/-- where the k-th strip begins, from the left on -/
def bgm (ww nu : Nat → Nat) (kf : Nat) (k : Nat) : Nat := sumN (fun j => ww (nu j) + kf) k
theorem d_MO_init_0 : decode b_MO_init 0 = .ok (.aload_n 0, 1) := by decide +kernel
theorem d_MO_init_1 : decode b_MO_init 1 = .ok (.invokespecial 1, 3) := by decide +kernel
theorem d_MO_init_4 : decode b_MO_init 4 = .ok (.aload_n 0, 1) := by decide +kernel
theorem d_MO_init_5 : decode b_MO_init 5 = .ok (.sipush 10000, 3) := by decide +kernel
theorem d_MO_init_8 : decode b_MO_init 8 = .ok (.putfield 7, 3) := by decide +kernel
theorem d_MO_init_11 : decode b_MO_init 11 = .ok (.aload_n 0, 1) := by decide +kernel
theorem d_MO_init_12 : decode b_MO_init 12 = .ok (.sipush 10000, 3) := by decide +kernel
theorem d_MO_init_15 : decode b_MO_init 15 = .ok (.putfield 13, 3) := by decide +kernel
theorem d_MO_init_18 : decode b_MO_init 18 = .ok (.aload_n 0, 1) := by decide +kernel
theorem d_MO_init_19 : decode b_MO_init 19 = .ok (.bipush 50, 2) := by decide +kernel
theorem d_MO_init_21 : decode b_MO_init 21 = .ok (.putfield 16, 3) := by decide +kernel
theorem d_MO_init_24 : decode b_MO_init 24 = .ok (.aload_n 0, 1) := by decide +kernel
theorem d_MO_init_25 : decode b_MO_init 25 = .ok (.bipush 20, 2) := by decide +kernel
theorem d_MO_init_27 : decode b_MO_init 27 = .ok (.putfield 19, 3) := by decide +kernel
theorem d_MO_init_30 : decode b_MO_init 30 = .ok (.aload_n 0, 1) := by decide +kernel
theorem d_MO_init_31 : decode b_MO_init 31 = .ok (.iconst 5, 1) := by decide +kernel
theorem d_MO_init_32 : decode b_MO_init 32 = .ok (.newarray .int, 2) := by decide +kernel
theorem d_MO_init_34 : decode b_MO_init 34 = .ok (.putfield 22, 3) := by decide +kernel
theorem d_MO_init_37 : decode b_MO_init 37 = .ok (.aload_n 0, 1) := by decide +kernel
theorem d_MO_init_38 : decode b_MO_init 38 = .ok (.iconst 5, 1) := by decide +kernel
theorem d_MO_init_39 : decode b_MO_init 39 = .ok (.newarray .int, 2) := by decide +kernel
theorem d_MO_init_41 : decode b_MO_init 41 = .ok (.putfield 26, 3) := by decide +kernel
theorem d_MO_init_44 : decode b_MO_init 44 = .ok (.aload_n 0, 1) := by decide +kernel
theorem d_MO_init_45 : decode b_MO_init 45 = .ok (.iconst 5, 1) := by decide +kernel
theorem d_MO_init_46 : decode b_MO_init 46 = .ok (.newarray .int, 2) := by decide +kernel
theorem d_MO_init_48 : decode b_MO_init 48 = .ok (.putfield 29, 3) := by decide +kernel
theorem d_MO_init_51 : decode b_MO_init 51 = .ok (.aload_n 0, 1) := by decide +kernel
theorem d_MO_init_52 : decode b_MO_init 52 = .ok (.iconst 5, 1) := by decide +kernel
theorem d_MO_init_53 : decode b_MO_init 53 = .ok (.newarray .int, 2) := by decide +kernel
theorem d_MO_init_55 : decode b_MO_init 55 = .ok (.putfield 32, 3) := by decide +kernel
theorem d_MO_init_58 : decode b_MO_init 58 = .ok (.aload_n 0, 1) := by decide +kernel
theorem d_MO_init_59 : decode b_MO_init 59 = .ok (.bipush 9, 2) := by decide +kernel
theorem d_MO_init_61 : decode b_MO_init 61 = .ok (.newarray .int, 2) := by decide +kernel
theorem d_MO_init_63 : decode b_MO_init 63 = .ok (.putfield 35, 3) := by decide +kernel
theorem d_MO_init_66 : decode b_MO_init 66 = .ok (.aload_n 0, 1) := by decide +kernel
theorem d_MO_init_67 : decode b_MO_init 67 = .ok (.bipush 9, 2) := by decide +kernel
theorem d_MO_init_69 : decode b_MO_init 69 = .ok (.newarray .int, 2) := by decide +kernel
theorem d_MO_init_71 : decode b_MO_init 71 = .ok (.putfield 38, 3) := by decide +kernel
theorem d_MO_init_74 : decode b_MO_init 74 = .ok (.aload_n 0, 1) := by decide +kernel
theorem d_MO_init_75 : decode b_MO_init 75 = .ok (.bipush 9, 2) := by decide +kernel
theorem d_MO_init_77 : decode b_MO_init 77 = .ok (.newarray .int, 2) := by decide +kernel
theorem d_MO_init_79 : decode b_MO_init 79 = .ok (.putfield 41, 3) := by decide +kernel
theorem d_MO_init_82 : decode b_MO_init 82 = .ok (.aload_n 0, 1) := by decide +kernel
theorem d_MO_init_83 : decode b_MO_init 83 = .ok (.bipush 9, 2) := by decide +kernel
theorem d_MO_init_85 : decode b_MO_init 85 = .ok (.newarray .int, 2) := by decide +kernel
theorem d_MO_init_87 : decode b_MO_init 87 = .ok (.putfield 44, 3) := by decide +kernel
theorem d_MO_init_90 : decode b_MO_init 90 = .ok (.aload_n 0, 1) := by decide +kernel
theorem d_MO_init_91 : decode b_MO_init 91 = .ok (.bipush 9, 2) := by decide +kernel
theorem d_MO_init_93 : decode b_MO_init 93 = .ok (.newarray .int, 2) := by decide +kernel
theorem d_MO_init_95 : decode b_MO_init 95 = .ok (.putfield 47, 3) := by decide +kernel
theorem d_MO_init_98 : decode b_MO_init 98 = .ok (.aload_n 0, 1) := by decide +kernel
theorem d_MO_init_99 : decode b_MO_init 99 = .ok (.bipush 45, 2) := by decide +kernel
theorem d_MO_init_101 : decode b_MO_init 101 = .ok (.newarray .int, 2) := by decide +kernel
theorem d_MO_init_103 : decode b_MO_init 103 = .ok (.putfield 50, 3) := by decide +kernel
theorem d_MO_init_106 : decode b_MO_init 106 = .ok (.aload_n 0, 1) := by decide +kernel
theorem d_MO_init_107 : decode b_MO_init 107 = .ok (.bipush 10, 2) := by decide +kernel
theorem d_MO_init_109 : decode b_MO_init 109 = .ok (.newarray .int, 2) := by decide +kernel
theorem d_MO_init_111 : decode b_MO_init 111 = .ok (.putfield 53, 3) := by decide +kernel
theorem d_MO_init_114 : decode b_MO_init 114 = .ok (.aload_n 0, 1) := by decide +kernel
theorem d_MO_init_115 : decode b_MO_init 115 = .ok (.bipush 10, 2) := by decide +kernel
theorem d_MO_init_117 : decode b_MO_init 117 = .ok (.newarray .int, 2) := by decide +kernel
theorem d_MO_init_119 : decode b_MO_init 119 = .ok (.putfield 56, 3) := by decide +kernel
theorem d_MO_init_122 : decode b_MO_init 122 = .ok (.aload_n 0, 1) := by decide +kernel
theorem d_MO_init_123 : decode b_MO_init 123 = .ok (.sipush 4608, 3) := by decide +kernel
theorem d_MO_init_126 : decode b_MO_init 126 = .ok (.newarray .int, 2) := by decide +kernel
theorem d_MO_init_128 : decode b_MO_init 128 = .ok (.putfield 59, 3) := by decide +kernel
theorem d_MO_init_131 : decode b_MO_init 131 = .ok (.aload_n 0, 1) := by decide +kernel
theorem d_MO_init_132 : decode b_MO_init 132 = .ok (.bipush 81, 2) := by decide +kernel
theorem d_MO_init_134 : decode b_MO_init 134 = .ok (.newarray .int, 2) := by decide +kernel
theorem d_MO_init_136 : decode b_MO_init 136 = .ok (.putfield 62, 3) := by decide +kernel
theorem d_MO_init_139 : decode b_MO_init 139 = .ok (.return_, 1) := by decide +kernel
theorem d_MO_thrown_0 : decode b_MO_thrown 0 = .ok (.aload_n 0, 1) := by decide +kernel
theorem d_MO_thrown_1 : decode b_MO_thrown 1 = .ok (.getfield 65, 3) := by decide +kernel
theorem d_MO_thrown_4 : decode b_MO_thrown 4 = .ok (.ireturn, 1) := by decide +kernel
theorem d_MO_throwing_0 : decode b_MO_throwing 0 = .ok (.aload_n 0, 1) := by decide +kernel
theorem d_MO_throwing_1 : decode b_MO_throwing 1 = .ok (.iload_n 1, 1) := by decide +kernel
theorem d_MO_throwing_2 : decode b_MO_throwing 2 = .ok (.ifCond .eq (7), 3) := by decide +kernel
theorem d_MO_throwing_5 : decode b_MO_throwing 5 = .ok (.iconst 1, 1) := by decide +kernel
theorem d_MO_throwing_6 : decode b_MO_throwing 6 = .ok (.goto (12), 3) := by decide +kernel
theorem d_MO_throwing_9 : decode b_MO_throwing 9 = .ok (.iload_n 2, 1) := by decide +kernel
theorem d_MO_throwing_10 : decode b_MO_throwing 10 = .ok (.ifCond .eq (7), 3) := by decide +kernel
theorem d_MO_throwing_13 : decode b_MO_throwing 13 = .ok (.iconst 2, 1) := by decide +kernel
theorem d_MO_throwing_14 : decode b_MO_throwing 14 = .ok (.goto (4), 3) := by decide +kernel
theorem d_MO_throwing_17 : decode b_MO_throwing 17 = .ok (.iconst 0, 1) := by decide +kernel
theorem d_MO_throwing_18 : decode b_MO_throwing 18 = .ok (.putfield 65, 3) := by decide +kernel
theorem d_MO_throwing_21 : decode b_MO_throwing 21 = .ok (.aload_n 0, 1) := by decide +kernel
theorem d_MO_throwing_22 : decode b_MO_throwing 22 = .ok (.getfield 65, 3) := by decide +kernel
theorem d_MO_throwing_25 : decode b_MO_throwing 25 = .ok (.ifCond .le (7), 3) := by decide +kernel
theorem d_MO_throwing_28 : decode b_MO_throwing 28 = .ok (.iconst 1, 1) := by decide +kernel
theorem d_MO_throwing_29 : decode b_MO_throwing 29 = .ok (.goto (4), 3) := by decide +kernel
theorem d_MO_throwing_32 : decode b_MO_throwing 32 = .ok (.iconst 0, 1) := by decide +kernel
theorem d_MO_throwing_33 : decode b_MO_throwing 33 = .ok (.ireturn, 1) := by decide +kernel
theorem d_MO_in_0 : decode b_MO_in 0 = .ok (.iload_n 0, 1) := by decide +kernel
theorem d_MO_in_1 : decode b_MO_in 1 = .ok (.iload_n 1, 1) := by decide +kernel
theorem d_MO_in_2 : decode b_MO_in 2 = .ok (.if_icmp .lt (12), 3) := by decide +kernel
theorem d_MO_in_5 : decode b_MO_in 5 = .ok (.iload_n 0, 1) := by decide +kernel
theorem d_MO_in_6 : decode b_MO_in 6 = .ok (.iload_n 2, 1) := by decide +kernel
theorem d_MO_in_7 : decode b_MO_in 7 = .ok (.if_icmp .gt (7), 3) := by decide +kernel
theorem d_MO_in_10 : decode b_MO_in 10 = .ok (.iconst 1, 1) := by decide +kernel
theorem d_MO_in_11 : decode b_MO_in 11 = .ok (.goto (4), 3) := by decide +kernel
theorem d_MO_in_14 : decode b_MO_in 14 = .ok (.iconst 0, 1) := by decide +kernel
theorem d_MO_in_15 : decode b_MO_in 15 = .ok (.ireturn, 1) := by decide +kernel
theorem d_MO_coil_0 : decode b_MO_coil 0 = .ok (.iload_n 1, 1) := by decide +kernel
theorem d_MO_coil_1 : decode b_MO_coil 1 = .ok (.iconst 1, 1) := by decide +kernel
theorem d_MO_coil_2 : decode b_MO_coil 2 = .ok (.sipush 20000, 3) := by decide +kernel
theorem d_MO_coil_5 : decode b_MO_coil 5 = .ok (.invokestatic 68, 3) := by decide +kernel
theorem d_MO_coil_8 : decode b_MO_coil 8 = .ok (.ifCond .eq (50), 3) := by decide +kernel
theorem d_MO_coil_11 : decode b_MO_coil 11 = .ok (.iload_n 2, 1) := by decide +kernel
theorem d_MO_coil_12 : decode b_MO_coil 12 = .ok (.iconst 1, 1) := by decide +kernel
theorem d_MO_coil_13 : decode b_MO_coil 13 = .ok (.ldc 72, 2) := by decide +kernel
theorem d_MO_coil_15 : decode b_MO_coil 15 = .ok (.invokestatic 68, 3) := by decide +kernel
theorem d_MO_coil_18 : decode b_MO_coil 18 = .ok (.ifCond .eq (40), 3) := by decide +kernel
theorem d_MO_coil_21 : decode b_MO_coil 21 = .ok (.iload_n 3, 1) := by decide +kernel
theorem d_MO_coil_22 : decode b_MO_coil 22 = .ok (.iconst 0, 1) := by decide +kernel
theorem d_MO_coil_23 : decode b_MO_coil 23 = .ok (.sipush 1000, 3) := by decide +kernel
theorem d_MO_coil_26 : decode b_MO_coil 26 = .ok (.invokestatic 68, 3) := by decide +kernel
theorem d_MO_coil_29 : decode b_MO_coil 29 = .ok (.ifCond .eq (29), 3) := by decide +kernel
theorem d_MO_coil_32 : decode b_MO_coil 32 = .ok (.iload 4, 2) := by decide +kernel
theorem d_MO_coil_34 : decode b_MO_coil 34 = .ok (.iconst 0, 1) := by decide +kernel
theorem d_MO_coil_35 : decode b_MO_coil 35 = .ok (.bipush 100, 2) := by decide +kernel
theorem d_MO_coil_37 : decode b_MO_coil 37 = .ok (.invokestatic 68, 3) := by decide +kernel
theorem d_MO_coil_40 : decode b_MO_coil 40 = .ok (.ifCond .eq (18), 3) := by decide +kernel
theorem d_MO_coil_43 : decode b_MO_coil 43 = .ok (.iload 5, 2) := by decide +kernel
theorem d_MO_coil_45 : decode b_MO_coil 45 = .ok (.iconst 2, 1) := by decide +kernel
theorem d_MO_coil_46 : decode b_MO_coil 46 = .ok (.bipush 40, 2) := by decide +kernel
theorem d_MO_coil_48 : decode b_MO_coil 48 = .ok (.invokestatic 68, 3) := by decide +kernel
theorem d_MO_coil_51 : decode b_MO_coil 51 = .ok (.ifCond .eq (7), 3) := by decide +kernel
theorem d_MO_coil_54 : decode b_MO_coil 54 = .ok (.iconst 1, 1) := by decide +kernel
theorem d_MO_coil_55 : decode b_MO_coil 55 = .ok (.goto (4), 3) := by decide +kernel
theorem d_MO_coil_58 : decode b_MO_coil 58 = .ok (.iconst 0, 1) := by decide +kernel
theorem d_MO_coil_59 : decode b_MO_coil 59 = .ok (.istore 6, 2) := by decide +kernel
theorem d_MO_coil_61 : decode b_MO_coil 61 = .ok (.aload_n 0, 1) := by decide +kernel
theorem d_MO_coil_62 : decode b_MO_coil 62 = .ok (.iload 6, 2) := by decide +kernel
theorem d_MO_coil_64 : decode b_MO_coil 64 = .ok (.ifCond .ne (7), 3) := by decide +kernel
theorem d_MO_coil_67 : decode b_MO_coil 67 = .ok (.iconst 1, 1) := by decide +kernel
theorem d_MO_coil_68 : decode b_MO_coil 68 = .ok (.goto (4), 3) := by decide +kernel
theorem d_MO_coil_71 : decode b_MO_coil 71 = .ok (.iconst 0, 1) := by decide +kernel
theorem d_MO_coil_72 : decode b_MO_coil 72 = .ok (.iconst 0, 1) := by decide +kernel
theorem d_MO_coil_73 : decode b_MO_coil 73 = .ok (.invokevirtual 73, 3) := by decide +kernel
theorem d_MO_coil_76 : decode b_MO_coil 76 = .ok (.ifCond .eq (4), 3) := by decide +kernel
theorem d_MO_coil_79 : decode b_MO_coil 79 = .ok (.return_, 1) := by decide +kernel
theorem d_MO_coil_80 : decode b_MO_coil 80 = .ok (.aload_n 0, 1) := by decide +kernel
theorem d_MO_coil_81 : decode b_MO_coil 81 = .ok (.iload_n 1, 1) := by decide +kernel
theorem d_MO_coil_82 : decode b_MO_coil 82 = .ok (.putfield 7, 3) := by decide +kernel
theorem d_MO_coil_85 : decode b_MO_coil 85 = .ok (.aload_n 0, 1) := by decide +kernel
theorem d_MO_coil_86 : decode b_MO_coil 86 = .ok (.iload_n 2, 1) := by decide +kernel
theorem d_MO_coil_87 : decode b_MO_coil 87 = .ok (.putfield 13, 3) := by decide +kernel
theorem d_MO_coil_90 : decode b_MO_coil 90 = .ok (.aload_n 0, 1) := by decide +kernel
theorem d_MO_coil_91 : decode b_MO_coil 91 = .ok (.iload_n 3, 1) := by decide +kernel
theorem d_MO_coil_92 : decode b_MO_coil 92 = .ok (.putfield 16, 3) := by decide +kernel
theorem d_MO_coil_95 : decode b_MO_coil 95 = .ok (.aload_n 0, 1) := by decide +kernel
theorem d_MO_coil_96 : decode b_MO_coil 96 = .ok (.iload 4, 2) := by decide +kernel
theorem d_MO_coil_98 : decode b_MO_coil 98 = .ok (.putfield 77, 3) := by decide +kernel
theorem d_MO_coil_101 : decode b_MO_coil 101 = .ok (.aload_n 0, 1) := by decide +kernel
theorem d_MO_coil_102 : decode b_MO_coil 102 = .ok (.iload 5, 2) := by decide +kernel
theorem d_MO_coil_104 : decode b_MO_coil 104 = .ok (.putfield 19, 3) := by decide +kernel
theorem d_MO_coil_107 : decode b_MO_coil 107 = .ok (.return_, 1) := by decide +kernel
theorem d_MO_want_0 : decode b_MO_want 0 = .ok (.aload_n 0, 1) := by decide +kernel
theorem d_MO_want_1 : decode b_MO_want 1 = .ok (.aload_n 0, 1) := by decide +kernel
theorem d_MO_want_2 : decode b_MO_want 2 = .ok (.getfield 80, 3) := by decide +kernel
theorem d_MO_want_5 : decode b_MO_want 5 = .ok (.iconst 5, 1) := by decide +kernel
theorem d_MO_want_6 : decode b_MO_want 6 = .ok (.if_icmp .ne (7), 3) := by decide +kernel
theorem d_MO_want_9 : decode b_MO_want 9 = .ok (.iconst 1, 1) := by decide +kernel
theorem d_MO_want_10 : decode b_MO_want 10 = .ok (.goto (4), 3) := by decide +kernel
theorem d_MO_want_13 : decode b_MO_want 13 = .ok (.iconst 0, 1) := by decide +kernel
theorem d_MO_want_14 : decode b_MO_want 14 = .ok (.iload_n 1, 1) := by decide +kernel
theorem d_MO_want_15 : decode b_MO_want 15 = .ok (.iconst 1, 1) := by decide +kernel
theorem d_MO_want_16 : decode b_MO_want 16 = .ok (.sipush 20000, 3) := by decide +kernel
theorem d_MO_want_19 : decode b_MO_want 19 = .ok (.invokestatic 68, 3) := by decide +kernel
theorem d_MO_want_22 : decode b_MO_want 22 = .ok (.ifCond .eq (13), 3) := by decide +kernel
theorem d_MO_want_25 : decode b_MO_want 25 = .ok (.iload_n 2, 1) := by decide +kernel
theorem d_MO_want_26 : decode b_MO_want 26 = .ok (.iconst 0, 1) := by decide +kernel
theorem d_MO_want_27 : decode b_MO_want 27 = .ok (.bipush 6, 2) := by decide +kernel
theorem d_MO_want_29 : decode b_MO_want 29 = .ok (.invokestatic 68, 3) := by decide +kernel
theorem d_MO_want_32 : decode b_MO_want 32 = .ok (.ifCond .ne (7), 3) := by decide +kernel
theorem d_MO_want_35 : decode b_MO_want 35 = .ok (.iconst 1, 1) := by decide +kernel
theorem d_MO_want_36 : decode b_MO_want 36 = .ok (.goto (4), 3) := by decide +kernel
theorem d_MO_want_39 : decode b_MO_want 39 = .ok (.iconst 0, 1) := by decide +kernel
theorem d_MO_want_40 : decode b_MO_want 40 = .ok (.invokevirtual 73, 3) := by decide +kernel
theorem d_MO_want_43 : decode b_MO_want 43 = .ok (.ifCond .eq (5), 3) := by decide +kernel
theorem d_MO_want_46 : decode b_MO_want 46 = .ok (.iconst 0, 1) := by decide +kernel
theorem d_MO_want_47 : decode b_MO_want 47 = .ok (.ireturn, 1) := by decide +kernel
theorem d_MO_want_48 : decode b_MO_want 48 = .ok (.aload_n 0, 1) := by decide +kernel
theorem d_MO_want_49 : decode b_MO_want 49 = .ok (.getfield 22, 3) := by decide +kernel
theorem d_MO_want_52 : decode b_MO_want 52 = .ok (.aload_n 0, 1) := by decide +kernel
theorem d_MO_want_53 : decode b_MO_want 53 = .ok (.getfield 80, 3) := by decide +kernel
theorem d_MO_want_56 : decode b_MO_want 56 = .ok (.iload_n 1, 1) := by decide +kernel
theorem d_MO_want_57 : decode b_MO_want 57 = .ok (.iastore, 1) := by decide +kernel
theorem d_MO_want_58 : decode b_MO_want 58 = .ok (.aload_n 0, 1) := by decide +kernel
theorem d_MO_want_59 : decode b_MO_want 59 = .ok (.getfield 26, 3) := by decide +kernel
theorem d_MO_want_62 : decode b_MO_want 62 = .ok (.aload_n 0, 1) := by decide +kernel
theorem d_MO_want_63 : decode b_MO_want 63 = .ok (.getfield 80, 3) := by decide +kernel
theorem d_MO_want_66 : decode b_MO_want 66 = .ok (.iload_n 2, 1) := by decide +kernel
theorem d_MO_want_67 : decode b_MO_want 67 = .ok (.iastore, 1) := by decide +kernel
theorem d_MO_want_68 : decode b_MO_want 68 = .ok (.aload_n 0, 1) := by decide +kernel
theorem d_MO_want_69 : decode b_MO_want 69 = .ok (.dup, 1) := by decide +kernel
theorem d_MO_want_70 : decode b_MO_want 70 = .ok (.getfield 80, 3) := by decide +kernel
theorem d_MO_want_73 : decode b_MO_want 73 = .ok (.iconst 1, 1) := by decide +kernel
theorem d_MO_want_74 : decode b_MO_want 74 = .ok (.iadd, 1) := by decide +kernel
theorem d_MO_want_75 : decode b_MO_want 75 = .ok (.putfield 80, 3) := by decide +kernel
theorem d_MO_want_78 : decode b_MO_want 78 = .ok (.aload_n 0, 1) := by decide +kernel
theorem d_MO_want_79 : decode b_MO_want 79 = .ok (.getfield 80, 3) := by decide +kernel
theorem d_MO_want_82 : decode b_MO_want 82 = .ok (.iconst 1, 1) := by decide +kernel
theorem d_MO_want_83 : decode b_MO_want 83 = .ok (.isub, 1) := by decide +kernel
theorem d_MO_want_84 : decode b_MO_want 84 = .ok (.ireturn, 1) := by decide +kernel
theorem d_MO_strips_0 : decode b_MO_strips 0 = .ok (.aload_n 0, 1) := by decide +kernel
theorem d_MO_strips_1 : decode b_MO_strips 1 = .ok (.iload_n 1, 1) := by decide +kernel
theorem d_MO_strips_2 : decode b_MO_strips 2 = .ok (.iconst 0, 1) := by decide +kernel
theorem d_MO_strips_3 : decode b_MO_strips 3 = .ok (.aload_n 0, 1) := by decide +kernel
theorem d_MO_strips_4 : decode b_MO_strips 4 = .ok (.getfield 80, 3) := by decide +kernel
theorem d_MO_strips_7 : decode b_MO_strips 7 = .ok (.iconst 1, 1) := by decide +kernel
theorem d_MO_strips_8 : decode b_MO_strips 8 = .ok (.isub, 1) := by decide +kernel
theorem d_MO_strips_9 : decode b_MO_strips 9 = .ok (.invokestatic 68, 3) := by decide +kernel
theorem d_MO_strips_12 : decode b_MO_strips 12 = .ok (.ifCond .ne (7), 3) := by decide +kernel
theorem d_MO_strips_15 : decode b_MO_strips 15 = .ok (.iconst 1, 1) := by decide +kernel
theorem d_MO_strips_16 : decode b_MO_strips 16 = .ok (.goto (4), 3) := by decide +kernel
theorem d_MO_strips_19 : decode b_MO_strips 19 = .ok (.iconst 0, 1) := by decide +kernel
theorem d_MO_strips_20 : decode b_MO_strips 20 = .ok (.iload_n 2, 1) := by decide +kernel
theorem d_MO_strips_21 : decode b_MO_strips 21 = .ok (.iconst 0, 1) := by decide +kernel
theorem d_MO_strips_22 : decode b_MO_strips 22 = .ok (.bipush 6, 2) := by decide +kernel
theorem d_MO_strips_24 : decode b_MO_strips 24 = .ok (.invokestatic 68, 3) := by decide +kernel
theorem d_MO_strips_27 : decode b_MO_strips 27 = .ok (.ifCond .ne (7), 3) := by decide +kernel
theorem d_MO_strips_30 : decode b_MO_strips 30 = .ok (.iconst 1, 1) := by decide +kernel
theorem d_MO_strips_31 : decode b_MO_strips 31 = .ok (.goto (4), 3) := by decide +kernel
theorem d_MO_strips_34 : decode b_MO_strips 34 = .ok (.iconst 0, 1) := by decide +kernel
theorem d_MO_strips_35 : decode b_MO_strips 35 = .ok (.invokevirtual 73, 3) := by decide +kernel
theorem d_MO_strips_38 : decode b_MO_strips 38 = .ok (.ifCond .eq (4), 3) := by decide +kernel
theorem d_MO_strips_41 : decode b_MO_strips 41 = .ok (.return_, 1) := by decide +kernel
theorem d_MO_strips_42 : decode b_MO_strips 42 = .ok (.aload_n 0, 1) := by decide +kernel
theorem d_MO_strips_43 : decode b_MO_strips 43 = .ok (.getfield 26, 3) := by decide +kernel
theorem d_MO_strips_46 : decode b_MO_strips 46 = .ok (.iload_n 1, 1) := by decide +kernel
theorem d_MO_strips_47 : decode b_MO_strips 47 = .ok (.iload_n 2, 1) := by decide +kernel
theorem d_MO_strips_48 : decode b_MO_strips 48 = .ok (.iastore, 1) := by decide +kernel
theorem d_MO_strips_49 : decode b_MO_strips 49 = .ok (.return_, 1) := by decide +kernel
theorem d_MO_stripsNow_0 : decode b_MO_stripsNow 0 = .ok (.iconst 0, 1) := by decide +kernel
theorem d_MO_stripsNow_1 : decode b_MO_stripsNow 1 = .ok (.istore_n 1, 1) := by decide +kernel
theorem d_MO_stripsNow_2 : decode b_MO_stripsNow 2 = .ok (.iconst 0, 1) := by decide +kernel
theorem d_MO_stripsNow_3 : decode b_MO_stripsNow 3 = .ok (.istore_n 2, 1) := by decide +kernel
theorem d_MO_stripsNow_4 : decode b_MO_stripsNow 4 = .ok (.iload_n 2, 1) := by decide +kernel
theorem d_MO_stripsNow_5 : decode b_MO_stripsNow 5 = .ok (.aload_n 0, 1) := by decide +kernel
theorem d_MO_stripsNow_6 : decode b_MO_stripsNow 6 = .ok (.getfield 80, 3) := by decide +kernel
theorem d_MO_stripsNow_9 : decode b_MO_stripsNow 9 = .ok (.if_icmp .ge (18), 3) := by decide +kernel
theorem d_MO_stripsNow_12 : decode b_MO_stripsNow 12 = .ok (.iload_n 1, 1) := by decide +kernel
theorem d_MO_stripsNow_13 : decode b_MO_stripsNow 13 = .ok (.aload_n 0, 1) := by decide +kernel
theorem d_MO_stripsNow_14 : decode b_MO_stripsNow 14 = .ok (.getfield 29, 3) := by decide +kernel
theorem d_MO_stripsNow_17 : decode b_MO_stripsNow 17 = .ok (.iload_n 2, 1) := by decide +kernel
theorem d_MO_stripsNow_18 : decode b_MO_stripsNow 18 = .ok (.iaload, 1) := by decide +kernel
theorem d_MO_stripsNow_19 : decode b_MO_stripsNow 19 = .ok (.iadd, 1) := by decide +kernel
theorem d_MO_stripsNow_20 : decode b_MO_stripsNow 20 = .ok (.istore_n 1, 1) := by decide +kernel
theorem d_MO_stripsNow_21 : decode b_MO_stripsNow 21 = .ok (.iinc 2 1, 3) := by decide +kernel
theorem d_MO_stripsNow_24 : decode b_MO_stripsNow 24 = .ok (.goto (-20), 3) := by decide +kernel
theorem d_MO_stripsNow_27 : decode b_MO_stripsNow 27 = .ok (.iload_n 1, 1) := by decide +kernel
theorem d_MO_stripsNow_28 : decode b_MO_stripsNow 28 = .ok (.ireturn, 1) := by decide +kernel
theorem d_MO_fillNow_0 : decode b_MO_fillNow 0 = .ok (.aload_n 0, 1) := by decide +kernel
theorem d_MO_fillNow_1 : decode b_MO_fillNow 1 = .ok (.getfield 77, 3) := by decide +kernel
theorem d_MO_fillNow_4 : decode b_MO_fillNow 4 = .ok (.aload_n 0, 1) := by decide +kernel
theorem d_MO_fillNow_5 : decode b_MO_fillNow 5 = .ok (.invokevirtual 83, 3) := by decide +kernel
theorem d_MO_fillNow_8 : decode b_MO_fillNow 8 = .ok (.iconst 1, 1) := by decide +kernel
theorem d_MO_fillNow_9 : decode b_MO_fillNow 9 = .ok (.isub, 1) := by decide +kernel
theorem d_MO_fillNow_10 : decode b_MO_fillNow 10 = .ok (.imul, 1) := by decide +kernel
theorem d_MO_fillNow_11 : decode b_MO_fillNow 11 = .ok (.istore_n 1, 1) := by decide +kernel
theorem d_MO_fillNow_12 : decode b_MO_fillNow 12 = .ok (.iconst 0, 1) := by decide +kernel
theorem d_MO_fillNow_13 : decode b_MO_fillNow 13 = .ok (.istore_n 2, 1) := by decide +kernel
theorem d_MO_fillNow_14 : decode b_MO_fillNow 14 = .ok (.iload_n 2, 1) := by decide +kernel
theorem d_MO_fillNow_15 : decode b_MO_fillNow 15 = .ok (.aload_n 0, 1) := by decide +kernel
theorem d_MO_fillNow_16 : decode b_MO_fillNow 16 = .ok (.getfield 80, 3) := by decide +kernel
theorem d_MO_fillNow_19 : decode b_MO_fillNow 19 = .ok (.if_icmp .ge (25), 3) := by decide +kernel
theorem d_MO_fillNow_22 : decode b_MO_fillNow 22 = .ok (.iload_n 1, 1) := by decide +kernel
theorem d_MO_fillNow_23 : decode b_MO_fillNow 23 = .ok (.aload_n 0, 1) := by decide +kernel
theorem d_MO_fillNow_24 : decode b_MO_fillNow 24 = .ok (.getfield 29, 3) := by decide +kernel
theorem d_MO_fillNow_27 : decode b_MO_fillNow 27 = .ok (.iload_n 2, 1) := by decide +kernel
theorem d_MO_fillNow_28 : decode b_MO_fillNow 28 = .ok (.iaload, 1) := by decide +kernel
theorem d_MO_fillNow_29 : decode b_MO_fillNow 29 = .ok (.aload_n 0, 1) := by decide +kernel
theorem d_MO_fillNow_30 : decode b_MO_fillNow 30 = .ok (.getfield 22, 3) := by decide +kernel
theorem d_MO_fillNow_33 : decode b_MO_fillNow 33 = .ok (.iload_n 2, 1) := by decide +kernel
theorem d_MO_fillNow_34 : decode b_MO_fillNow 34 = .ok (.iaload, 1) := by decide +kernel
theorem d_MO_fillNow_35 : decode b_MO_fillNow 35 = .ok (.imul, 1) := by decide +kernel
theorem d_MO_fillNow_36 : decode b_MO_fillNow 36 = .ok (.iadd, 1) := by decide +kernel
theorem d_MO_fillNow_37 : decode b_MO_fillNow 37 = .ok (.istore_n 1, 1) := by decide +kernel
theorem d_MO_fillNow_38 : decode b_MO_fillNow 38 = .ok (.iinc 2 1, 3) := by decide +kernel
theorem d_MO_fillNow_41 : decode b_MO_fillNow 41 = .ok (.goto (-27), 3) := by decide +kernel
theorem d_MO_fillNow_44 : decode b_MO_fillNow 44 = .ok (.iload_n 1, 1) := by decide +kernel
theorem d_MO_fillNow_45 : decode b_MO_fillNow 45 = .ok (.ireturn, 1) := by decide +kernel
theorem d_MO_goesDown_0 : decode b_MO_goesDown 0 = .ok (.aload_n 0, 1) := by decide +kernel
theorem d_MO_goesDown_1 : decode b_MO_goesDown 1 = .ok (.getfield 80, 3) := by decide +kernel
theorem d_MO_goesDown_4 : decode b_MO_goesDown 4 = .ok (.iconst 1, 1) := by decide +kernel
theorem d_MO_goesDown_5 : decode b_MO_goesDown 5 = .ok (.isub, 1) := by decide +kernel
theorem d_MO_goesDown_6 : decode b_MO_goesDown 6 = .ok (.istore_n 1, 1) := by decide +kernel
theorem d_MO_goesDown_7 : decode b_MO_goesDown 7 = .ok (.iload_n 1, 1) := by decide +kernel
theorem d_MO_goesDown_8 : decode b_MO_goesDown 8 = .ok (.ifCond .lt (30), 3) := by decide +kernel
theorem d_MO_goesDown_11 : decode b_MO_goesDown 11 = .ok (.aload_n 0, 1) := by decide +kernel
theorem d_MO_goesDown_12 : decode b_MO_goesDown 12 = .ok (.getfield 29, 3) := by decide +kernel
theorem d_MO_goesDown_15 : decode b_MO_goesDown 15 = .ok (.iload_n 1, 1) := by decide +kernel
theorem d_MO_goesDown_16 : decode b_MO_goesDown 16 = .ok (.iaload, 1) := by decide +kernel
theorem d_MO_goesDown_17 : decode b_MO_goesDown 17 = .ok (.ifCond .ne (21), 3) := by decide +kernel
theorem d_MO_goesDown_20 : decode b_MO_goesDown 20 = .ok (.aload_n 0, 1) := by decide +kernel
theorem d_MO_goesDown_21 : decode b_MO_goesDown 21 = .ok (.getfield 29, 3) := by decide +kernel
theorem d_MO_goesDown_24 : decode b_MO_goesDown 24 = .ok (.iload_n 1, 1) := by decide +kernel
theorem d_MO_goesDown_25 : decode b_MO_goesDown 25 = .ok (.aload_n 0, 1) := by decide +kernel
theorem d_MO_goesDown_26 : decode b_MO_goesDown 26 = .ok (.getfield 26, 3) := by decide +kernel
theorem d_MO_goesDown_29 : decode b_MO_goesDown 29 = .ok (.iload_n 1, 1) := by decide +kernel
theorem d_MO_goesDown_30 : decode b_MO_goesDown 30 = .ok (.iaload, 1) := by decide +kernel
theorem d_MO_goesDown_31 : decode b_MO_goesDown 31 = .ok (.iastore, 1) := by decide +kernel
theorem d_MO_goesDown_32 : decode b_MO_goesDown 32 = .ok (.iinc 1 (-1), 3) := by decide +kernel
theorem d_MO_goesDown_35 : decode b_MO_goesDown 35 = .ok (.goto (-28), 3) := by decide +kernel
theorem d_MO_goesDown_38 : decode b_MO_goesDown 38 = .ok (.iload_n 1, 1) := by decide +kernel
theorem d_MO_goesDown_39 : decode b_MO_goesDown 39 = .ok (.ifCond .lt (13), 3) := by decide +kernel
theorem d_MO_goesDown_42 : decode b_MO_goesDown 42 = .ok (.aload_n 0, 1) := by decide +kernel
theorem d_MO_goesDown_43 : decode b_MO_goesDown 43 = .ok (.getfield 29, 3) := by decide +kernel
theorem d_MO_goesDown_46 : decode b_MO_goesDown 46 = .ok (.iload_n 1, 1) := by decide +kernel
theorem d_MO_goesDown_47 : decode b_MO_goesDown 47 = .ok (.dup2, 1) := by decide +kernel
theorem d_MO_goesDown_48 : decode b_MO_goesDown 48 = .ok (.iaload, 1) := by decide +kernel
theorem d_MO_goesDown_49 : decode b_MO_goesDown 49 = .ok (.iconst 1, 1) := by decide +kernel
theorem d_MO_goesDown_50 : decode b_MO_goesDown 50 = .ok (.isub, 1) := by decide +kernel
theorem d_MO_goesDown_51 : decode b_MO_goesDown 51 = .ok (.iastore, 1) := by decide +kernel
theorem d_MO_goesDown_52 : decode b_MO_goesDown 52 = .ok (.iload_n 1, 1) := by decide +kernel
theorem d_MO_goesDown_53 : decode b_MO_goesDown 53 = .ok (.ifCond .lt (7), 3) := by decide +kernel
theorem d_MO_goesDown_56 : decode b_MO_goesDown 56 = .ok (.iconst 1, 1) := by decide +kernel
theorem d_MO_goesDown_57 : decode b_MO_goesDown 57 = .ok (.goto (4), 3) := by decide +kernel
theorem d_MO_goesDown_60 : decode b_MO_goesDown 60 = .ok (.iconst 0, 1) := by decide +kernel
theorem d_MO_goesDown_61 : decode b_MO_goesDown 61 = .ok (.ireturn, 1) := by decide +kernel
theorem d_MO_findBest_0 : decode b_MO_findBest 0 = .ok (.iconst 0, 1) := by decide +kernel
theorem d_MO_findBest_1 : decode b_MO_findBest 1 = .ok (.istore_n 1, 1) := by decide +kernel
theorem d_MO_findBest_2 : decode b_MO_findBest 2 = .ok (.iconst 0, 1) := by decide +kernel
theorem d_MO_findBest_3 : decode b_MO_findBest 3 = .ok (.istore_n 2, 1) := by decide +kernel
theorem d_MO_findBest_4 : decode b_MO_findBest 4 = .ok (.iconst 0, 1) := by decide +kernel
theorem d_MO_findBest_5 : decode b_MO_findBest 5 = .ok (.istore_n 3, 1) := by decide +kernel
theorem d_MO_findBest_6 : decode b_MO_findBest 6 = .ok (.iload_n 3, 1) := by decide +kernel
theorem d_MO_findBest_7 : decode b_MO_findBest 7 = .ok (.iconst 5, 1) := by decide +kernel
theorem d_MO_findBest_8 : decode b_MO_findBest 8 = .ok (.if_icmp .ge (40), 3) := by decide +kernel
theorem d_MO_findBest_11 : decode b_MO_findBest 11 = .ok (.aload_n 0, 1) := by decide +kernel
theorem d_MO_findBest_12 : decode b_MO_findBest 12 = .ok (.getfield 29, 3) := by decide +kernel
theorem d_MO_findBest_15 : decode b_MO_findBest 15 = .ok (.iload_n 3, 1) := by decide +kernel
theorem d_MO_findBest_16 : decode b_MO_findBest 16 = .ok (.iload_n 3, 1) := by decide +kernel
theorem d_MO_findBest_17 : decode b_MO_findBest 17 = .ok (.aload_n 0, 1) := by decide +kernel
theorem d_MO_findBest_18 : decode b_MO_findBest 18 = .ok (.getfield 80, 3) := by decide +kernel
theorem d_MO_findBest_21 : decode b_MO_findBest 21 = .ok (.if_icmp .ge (12), 3) := by decide +kernel
theorem d_MO_findBest_24 : decode b_MO_findBest 24 = .ok (.aload_n 0, 1) := by decide +kernel
theorem d_MO_findBest_25 : decode b_MO_findBest 25 = .ok (.getfield 26, 3) := by decide +kernel
theorem d_MO_findBest_28 : decode b_MO_findBest 28 = .ok (.iload_n 3, 1) := by decide +kernel
theorem d_MO_findBest_29 : decode b_MO_findBest 29 = .ok (.iaload, 1) := by decide +kernel
theorem d_MO_findBest_30 : decode b_MO_findBest 30 = .ok (.goto (4), 3) := by decide +kernel
theorem d_MO_findBest_33 : decode b_MO_findBest 33 = .ok (.iconst 0, 1) := by decide +kernel
theorem d_MO_findBest_34 : decode b_MO_findBest 34 = .ok (.iastore, 1) := by decide +kernel
theorem d_MO_findBest_35 : decode b_MO_findBest 35 = .ok (.aload_n 0, 1) := by decide +kernel
theorem d_MO_findBest_36 : decode b_MO_findBest 36 = .ok (.getfield 32, 3) := by decide +kernel
theorem d_MO_findBest_39 : decode b_MO_findBest 39 = .ok (.iload_n 3, 1) := by decide +kernel
theorem d_MO_findBest_40 : decode b_MO_findBest 40 = .ok (.iconst 0, 1) := by decide +kernel
theorem d_MO_findBest_41 : decode b_MO_findBest 41 = .ok (.iastore, 1) := by decide +kernel
theorem d_MO_findBest_42 : decode b_MO_findBest 42 = .ok (.iinc 3 1, 3) := by decide +kernel
theorem d_MO_findBest_45 : decode b_MO_findBest 45 = .ok (.goto (-39), 3) := by decide +kernel
theorem d_MO_findBest_48 : decode b_MO_findBest 48 = .ok (.iconst 1, 1) := by decide +kernel
theorem d_MO_findBest_49 : decode b_MO_findBest 49 = .ok (.istore_n 3, 1) := by decide +kernel
theorem d_MO_findBest_50 : decode b_MO_findBest 50 = .ok (.iload_n 3, 1) := by decide +kernel
theorem d_MO_findBest_51 : decode b_MO_findBest 51 = .ok (.ifCond .eq (121), 3) := by decide +kernel
theorem d_MO_findBest_54 : decode b_MO_findBest 54 = .ok (.aload_n 0, 1) := by decide +kernel
theorem d_MO_findBest_55 : decode b_MO_findBest 55 = .ok (.invokevirtual 83, 3) := by decide +kernel
theorem d_MO_findBest_58 : decode b_MO_findBest 58 = .ok (.istore 4, 2) := by decide +kernel
theorem d_MO_findBest_60 : decode b_MO_findBest 60 = .ok (.aload_n 0, 1) := by decide +kernel
theorem d_MO_findBest_61 : decode b_MO_findBest 61 = .ok (.invokevirtual 87, 3) := by decide +kernel
theorem d_MO_findBest_64 : decode b_MO_findBest 64 = .ok (.istore 5, 2) := by decide +kernel
theorem d_MO_findBest_66 : decode b_MO_findBest 66 = .ok (.iload 4, 2) := by decide +kernel
theorem d_MO_findBest_68 : decode b_MO_findBest 68 = .ok (.ifCond .le (32), 3) := by decide +kernel
theorem d_MO_findBest_71 : decode b_MO_findBest 71 = .ok (.iload 4, 2) := by decide +kernel
theorem d_MO_findBest_73 : decode b_MO_findBest 73 = .ok (.aload_n 0, 1) := by decide +kernel
theorem d_MO_findBest_74 : decode b_MO_findBest 74 = .ok (.getfield 19, 3) := by decide +kernel
theorem d_MO_findBest_77 : decode b_MO_findBest 77 = .ok (.if_icmp .ge (23), 3) := by decide +kernel
theorem d_MO_findBest_80 : decode b_MO_findBest 80 = .ok (.iload 5, 2) := by decide +kernel
theorem d_MO_findBest_82 : decode b_MO_findBest 82 = .ok (.aload_n 0, 1) := by decide +kernel
theorem d_MO_findBest_83 : decode b_MO_findBest 83 = .ok (.getfield 7, 3) := by decide +kernel
theorem d_MO_findBest_86 : decode b_MO_findBest 86 = .ok (.iconst 2, 1) := by decide +kernel
theorem d_MO_findBest_87 : decode b_MO_findBest 87 = .ok (.aload_n 0, 1) := by decide +kernel
theorem d_MO_findBest_88 : decode b_MO_findBest 88 = .ok (.getfield 16, 3) := by decide +kernel
theorem d_MO_findBest_91 : decode b_MO_findBest 91 = .ok (.imul, 1) := by decide +kernel
theorem d_MO_findBest_92 : decode b_MO_findBest 92 = .ok (.isub, 1) := by decide +kernel
theorem d_MO_findBest_93 : decode b_MO_findBest 93 = .ok (.if_icmp .gt (7), 3) := by decide +kernel
theorem d_MO_findBest_96 : decode b_MO_findBest 96 = .ok (.iconst 1, 1) := by decide +kernel
theorem d_MO_findBest_97 : decode b_MO_findBest 97 = .ok (.goto (4), 3) := by decide +kernel
theorem d_MO_findBest_100 : decode b_MO_findBest 100 = .ok (.iconst 0, 1) := by decide +kernel
theorem d_MO_findBest_101 : decode b_MO_findBest 101 = .ok (.istore 6, 2) := by decide +kernel
theorem d_MO_findBest_103 : decode b_MO_findBest 103 = .ok (.iload 6, 2) := by decide +kernel
theorem d_MO_findBest_105 : decode b_MO_findBest 105 = .ok (.ifCond .eq (59), 3) := by decide +kernel
theorem d_MO_findBest_108 : decode b_MO_findBest 108 = .ok (.iload 5, 2) := by decide +kernel
theorem d_MO_findBest_110 : decode b_MO_findBest 110 = .ok (.iload_n 1, 1) := by decide +kernel
theorem d_MO_findBest_111 : decode b_MO_findBest 111 = .ok (.if_icmp .gt (15), 3) := by decide +kernel
theorem d_MO_findBest_114 : decode b_MO_findBest 114 = .ok (.iload 5, 2) := by decide +kernel
theorem d_MO_findBest_116 : decode b_MO_findBest 116 = .ok (.iload_n 1, 1) := by decide +kernel
theorem d_MO_findBest_117 : decode b_MO_findBest 117 = .ok (.if_icmp .ne (47), 3) := by decide +kernel
theorem d_MO_findBest_120 : decode b_MO_findBest 120 = .ok (.iload 4, 2) := by decide +kernel
theorem d_MO_findBest_122 : decode b_MO_findBest 122 = .ok (.iload_n 2, 1) := by decide +kernel
theorem d_MO_findBest_123 : decode b_MO_findBest 123 = .ok (.if_icmp .ge (41), 3) := by decide +kernel
theorem d_MO_findBest_126 : decode b_MO_findBest 126 = .ok (.iload 5, 2) := by decide +kernel
theorem d_MO_findBest_128 : decode b_MO_findBest 128 = .ok (.istore_n 1, 1) := by decide +kernel
theorem d_MO_findBest_129 : decode b_MO_findBest 129 = .ok (.iload 4, 2) := by decide +kernel
theorem d_MO_findBest_131 : decode b_MO_findBest 131 = .ok (.istore_n 2, 1) := by decide +kernel
theorem d_MO_findBest_132 : decode b_MO_findBest 132 = .ok (.iconst 0, 1) := by decide +kernel
theorem d_MO_findBest_133 : decode b_MO_findBest 133 = .ok (.istore 7, 2) := by decide +kernel
theorem d_MO_findBest_135 : decode b_MO_findBest 135 = .ok (.iload 7, 2) := by decide +kernel
theorem d_MO_findBest_137 : decode b_MO_findBest 137 = .ok (.aload_n 0, 1) := by decide +kernel
theorem d_MO_findBest_138 : decode b_MO_findBest 138 = .ok (.getfield 80, 3) := by decide +kernel
theorem d_MO_findBest_141 : decode b_MO_findBest 141 = .ok (.if_icmp .ge (23), 3) := by decide +kernel
theorem d_MO_findBest_144 : decode b_MO_findBest 144 = .ok (.aload_n 0, 1) := by decide +kernel
theorem d_MO_findBest_145 : decode b_MO_findBest 145 = .ok (.getfield 32, 3) := by decide +kernel
theorem d_MO_findBest_148 : decode b_MO_findBest 148 = .ok (.iload 7, 2) := by decide +kernel
theorem d_MO_findBest_150 : decode b_MO_findBest 150 = .ok (.aload_n 0, 1) := by decide +kernel
theorem d_MO_findBest_151 : decode b_MO_findBest 151 = .ok (.getfield 29, 3) := by decide +kernel
theorem d_MO_findBest_154 : decode b_MO_findBest 154 = .ok (.iload 7, 2) := by decide +kernel
theorem d_MO_findBest_156 : decode b_MO_findBest 156 = .ok (.iaload, 1) := by decide +kernel
theorem d_MO_findBest_157 : decode b_MO_findBest 157 = .ok (.iastore, 1) := by decide +kernel
theorem d_MO_findBest_158 : decode b_MO_findBest 158 = .ok (.iinc 7 1, 3) := by decide +kernel
theorem d_MO_findBest_161 : decode b_MO_findBest 161 = .ok (.goto (-26), 3) := by decide +kernel
theorem d_MO_findBest_164 : decode b_MO_findBest 164 = .ok (.aload_n 0, 1) := by decide +kernel
theorem d_MO_findBest_165 : decode b_MO_findBest 165 = .ok (.invokevirtual 90, 3) := by decide +kernel
theorem d_MO_findBest_168 : decode b_MO_findBest 168 = .ok (.istore_n 3, 1) := by decide +kernel
theorem d_MO_findBest_169 : decode b_MO_findBest 169 = .ok (.goto (-119), 3) := by decide +kernel
theorem d_MO_findBest_172 : decode b_MO_findBest 172 = .ok (.iload_n 1, 1) := by decide +kernel
theorem d_MO_findBest_173 : decode b_MO_findBest 173 = .ok (.ireturn, 1) := by decide +kernel
theorem d_MO_fill_0 : decode b_MO_fill 0 = .ok (.aload_n 0, 1) := by decide +kernel
theorem d_MO_fill_1 : decode b_MO_fill 1 = .ok (.iconst 0, 1) := by decide +kernel
theorem d_MO_fill_2 : decode b_MO_fill 2 = .ok (.putfield 65, 3) := by decide +kernel
theorem d_MO_fill_5 : decode b_MO_fill 5 = .ok (.aload_n 0, 1) := by decide +kernel
theorem d_MO_fill_6 : decode b_MO_fill 6 = .ok (.invokevirtual 94, 3) := by decide +kernel
theorem d_MO_fill_9 : decode b_MO_fill 9 = .ok (.ireturn, 1) := by decide +kernel
theorem d_MO_best_0 : decode b_MO_best 0 = .ok (.aload_n 0, 1) := by decide +kernel
theorem d_MO_best_1 : decode b_MO_best 1 = .ok (.iload_n 1, 1) := by decide +kernel
theorem d_MO_best_2 : decode b_MO_best 2 = .ok (.iconst 0, 1) := by decide +kernel
theorem d_MO_best_3 : decode b_MO_best 3 = .ok (.aload_n 0, 1) := by decide +kernel
theorem d_MO_best_4 : decode b_MO_best 4 = .ok (.getfield 80, 3) := by decide +kernel
theorem d_MO_best_7 : decode b_MO_best 7 = .ok (.iconst 1, 1) := by decide +kernel
theorem d_MO_best_8 : decode b_MO_best 8 = .ok (.isub, 1) := by decide +kernel
theorem d_MO_best_9 : decode b_MO_best 9 = .ok (.invokestatic 68, 3) := by decide +kernel
theorem d_MO_best_12 : decode b_MO_best 12 = .ok (.ifCond .ne (7), 3) := by decide +kernel
theorem d_MO_best_15 : decode b_MO_best 15 = .ok (.iconst 1, 1) := by decide +kernel
theorem d_MO_best_16 : decode b_MO_best 16 = .ok (.goto (4), 3) := by decide +kernel
theorem d_MO_best_19 : decode b_MO_best 19 = .ok (.iconst 0, 1) := by decide +kernel
theorem d_MO_best_20 : decode b_MO_best 20 = .ok (.iconst 0, 1) := by decide +kernel
theorem d_MO_best_21 : decode b_MO_best 21 = .ok (.invokevirtual 73, 3) := by decide +kernel
theorem d_MO_best_24 : decode b_MO_best 24 = .ok (.ifCond .eq (5), 3) := by decide +kernel
theorem d_MO_best_27 : decode b_MO_best 27 = .ok (.iconst 0, 1) := by decide +kernel
theorem d_MO_best_28 : decode b_MO_best 28 = .ok (.ireturn, 1) := by decide +kernel
theorem d_MO_best_29 : decode b_MO_best 29 = .ok (.aload_n 0, 1) := by decide +kernel
theorem d_MO_best_30 : decode b_MO_best 30 = .ok (.invokevirtual 94, 3) := by decide +kernel
theorem d_MO_best_33 : decode b_MO_best 33 = .ok (.pop, 1) := by decide +kernel
theorem d_MO_best_34 : decode b_MO_best 34 = .ok (.aload_n 0, 1) := by decide +kernel
theorem d_MO_best_35 : decode b_MO_best 35 = .ok (.getfield 32, 3) := by decide +kernel
theorem d_MO_best_38 : decode b_MO_best 38 = .ok (.iload_n 1, 1) := by decide +kernel
theorem d_MO_best_39 : decode b_MO_best 39 = .ok (.iaload, 1) := by decide +kernel
theorem d_MO_best_40 : decode b_MO_best 40 = .ok (.ireturn, 1) := by decide +kernel
theorem d_MO_cut_0 : decode b_MO_cut 0 = .ok (.aload_n 0, 1) := by decide +kernel
theorem d_MO_cut_1 : decode b_MO_cut 1 = .ok (.invokevirtual 94, 3) := by decide +kernel
theorem d_MO_cut_4 : decode b_MO_cut 4 = .ok (.istore_n 1, 1) := by decide +kernel
theorem d_MO_cut_5 : decode b_MO_cut 5 = .ok (.aload_n 0, 1) := by decide +kernel
theorem d_MO_cut_6 : decode b_MO_cut 6 = .ok (.aload_n 0, 1) := by decide +kernel
theorem d_MO_cut_7 : decode b_MO_cut 7 = .ok (.getfield 97, 3) := by decide +kernel
theorem d_MO_cut_10 : decode b_MO_cut 10 = .ok (.bipush 9, 2) := by decide +kernel
theorem d_MO_cut_12 : decode b_MO_cut 12 = .ok (.if_icmp .ne (7), 3) := by decide +kernel
theorem d_MO_cut_15 : decode b_MO_cut 15 = .ok (.iconst 1, 1) := by decide +kernel
theorem d_MO_cut_16 : decode b_MO_cut 16 = .ok (.goto (4), 3) := by decide +kernel
theorem d_MO_cut_19 : decode b_MO_cut 19 = .ok (.iconst 0, 1) := by decide +kernel
theorem d_MO_cut_20 : decode b_MO_cut 20 = .ok (.iload_n 1, 1) := by decide +kernel
theorem d_MO_cut_21 : decode b_MO_cut 21 = .ok (.ifCond .ne (7), 3) := by decide +kernel
theorem d_MO_cut_24 : decode b_MO_cut 24 = .ok (.iconst 1, 1) := by decide +kernel
theorem d_MO_cut_25 : decode b_MO_cut 25 = .ok (.goto (4), 3) := by decide +kernel
theorem d_MO_cut_28 : decode b_MO_cut 28 = .ok (.iconst 0, 1) := by decide +kernel
theorem d_MO_cut_29 : decode b_MO_cut 29 = .ok (.invokevirtual 73, 3) := by decide +kernel
theorem d_MO_cut_32 : decode b_MO_cut 32 = .ok (.ifCond .eq (5), 3) := by decide +kernel
theorem d_MO_cut_35 : decode b_MO_cut 35 = .ok (.iconst 0, 1) := by decide +kernel
theorem d_MO_cut_36 : decode b_MO_cut 36 = .ok (.ireturn, 1) := by decide +kernel
theorem d_MO_cut_37 : decode b_MO_cut 37 = .ok (.aload_n 0, 1) := by decide +kernel
theorem d_MO_cut_38 : decode b_MO_cut 38 = .ok (.getfield 35, 3) := by decide +kernel
theorem d_MO_cut_41 : decode b_MO_cut 41 = .ok (.aload_n 0, 1) := by decide +kernel
theorem d_MO_cut_42 : decode b_MO_cut 42 = .ok (.getfield 97, 3) := by decide +kernel
theorem d_MO_cut_45 : decode b_MO_cut 45 = .ok (.aload_n 0, 1) := by decide +kernel
theorem d_MO_cut_46 : decode b_MO_cut 46 = .ok (.getfield 7, 3) := by decide +kernel
theorem d_MO_cut_49 : decode b_MO_cut 49 = .ok (.iastore, 1) := by decide +kernel
theorem d_MO_cut_50 : decode b_MO_cut 50 = .ok (.aload_n 0, 1) := by decide +kernel
theorem d_MO_cut_51 : decode b_MO_cut 51 = .ok (.getfield 38, 3) := by decide +kernel
theorem d_MO_cut_54 : decode b_MO_cut 54 = .ok (.aload_n 0, 1) := by decide +kernel
theorem d_MO_cut_55 : decode b_MO_cut 55 = .ok (.getfield 97, 3) := by decide +kernel
theorem d_MO_cut_58 : decode b_MO_cut 58 = .ok (.aload_n 0, 1) := by decide +kernel
theorem d_MO_cut_59 : decode b_MO_cut 59 = .ok (.getfield 13, 3) := by decide +kernel
theorem d_MO_cut_62 : decode b_MO_cut 62 = .ok (.iastore, 1) := by decide +kernel
theorem d_MO_cut_63 : decode b_MO_cut 63 = .ok (.aload_n 0, 1) := by decide +kernel
theorem d_MO_cut_64 : decode b_MO_cut 64 = .ok (.getfield 41, 3) := by decide +kernel
theorem d_MO_cut_67 : decode b_MO_cut 67 = .ok (.aload_n 0, 1) := by decide +kernel
theorem d_MO_cut_68 : decode b_MO_cut 68 = .ok (.getfield 97, 3) := by decide +kernel
theorem d_MO_cut_71 : decode b_MO_cut 71 = .ok (.aload_n 0, 1) := by decide +kernel
theorem d_MO_cut_72 : decode b_MO_cut 72 = .ok (.getfield 16, 3) := by decide +kernel
theorem d_MO_cut_75 : decode b_MO_cut 75 = .ok (.iastore, 1) := by decide +kernel
theorem d_MO_cut_76 : decode b_MO_cut 76 = .ok (.aload_n 0, 1) := by decide +kernel
theorem d_MO_cut_77 : decode b_MO_cut 77 = .ok (.getfield 44, 3) := by decide +kernel
theorem d_MO_cut_80 : decode b_MO_cut 80 = .ok (.aload_n 0, 1) := by decide +kernel
theorem d_MO_cut_81 : decode b_MO_cut 81 = .ok (.getfield 97, 3) := by decide +kernel
theorem d_MO_cut_84 : decode b_MO_cut 84 = .ok (.aload_n 0, 1) := by decide +kernel
theorem d_MO_cut_85 : decode b_MO_cut 85 = .ok (.getfield 77, 3) := by decide +kernel
theorem d_MO_cut_88 : decode b_MO_cut 88 = .ok (.iastore, 1) := by decide +kernel
theorem d_MO_cut_89 : decode b_MO_cut 89 = .ok (.aload_n 0, 1) := by decide +kernel
theorem d_MO_cut_90 : decode b_MO_cut 90 = .ok (.getfield 47, 3) := by decide +kernel
theorem d_MO_cut_93 : decode b_MO_cut 93 = .ok (.aload_n 0, 1) := by decide +kernel
theorem d_MO_cut_94 : decode b_MO_cut 94 = .ok (.getfield 97, 3) := by decide +kernel
theorem d_MO_cut_97 : decode b_MO_cut 97 = .ok (.aload_n 0, 1) := by decide +kernel
theorem d_MO_cut_98 : decode b_MO_cut 98 = .ok (.getfield 16, 3) := by decide +kernel
theorem d_MO_cut_101 : decode b_MO_cut 101 = .ok (.iastore, 1) := by decide +kernel
theorem d_MO_cut_102 : decode b_MO_cut 102 = .ok (.iconst 0, 1) := by decide +kernel
theorem d_MO_cut_103 : decode b_MO_cut 103 = .ok (.istore_n 2, 1) := by decide +kernel
theorem d_MO_cut_104 : decode b_MO_cut 104 = .ok (.iload_n 2, 1) := by decide +kernel
theorem d_MO_cut_105 : decode b_MO_cut 105 = .ok (.iconst 5, 1) := by decide +kernel
theorem d_MO_cut_106 : decode b_MO_cut 106 = .ok (.if_icmp .ge (43), 3) := by decide +kernel
theorem d_MO_cut_109 : decode b_MO_cut 109 = .ok (.aload_n 0, 1) := by decide +kernel
theorem d_MO_cut_110 : decode b_MO_cut 110 = .ok (.getfield 50, 3) := by decide +kernel
theorem d_MO_cut_113 : decode b_MO_cut 113 = .ok (.iconst 5, 1) := by decide +kernel
theorem d_MO_cut_114 : decode b_MO_cut 114 = .ok (.aload_n 0, 1) := by decide +kernel
theorem d_MO_cut_115 : decode b_MO_cut 115 = .ok (.getfield 97, 3) := by decide +kernel
theorem d_MO_cut_118 : decode b_MO_cut 118 = .ok (.imul, 1) := by decide +kernel
theorem d_MO_cut_119 : decode b_MO_cut 119 = .ok (.iload_n 2, 1) := by decide +kernel
theorem d_MO_cut_120 : decode b_MO_cut 120 = .ok (.iadd, 1) := by decide +kernel
theorem d_MO_cut_121 : decode b_MO_cut 121 = .ok (.aload_n 0, 1) := by decide +kernel
theorem d_MO_cut_122 : decode b_MO_cut 122 = .ok (.getfield 32, 3) := by decide +kernel
theorem d_MO_cut_125 : decode b_MO_cut 125 = .ok (.iload_n 2, 1) := by decide +kernel
theorem d_MO_cut_126 : decode b_MO_cut 126 = .ok (.iaload, 1) := by decide +kernel
theorem d_MO_cut_127 : decode b_MO_cut 127 = .ok (.iastore, 1) := by decide +kernel
theorem d_MO_cut_128 : decode b_MO_cut 128 = .ok (.aload_n 0, 1) := by decide +kernel
theorem d_MO_cut_129 : decode b_MO_cut 129 = .ok (.getfield 26, 3) := by decide +kernel
theorem d_MO_cut_132 : decode b_MO_cut 132 = .ok (.iload_n 2, 1) := by decide +kernel
theorem d_MO_cut_133 : decode b_MO_cut 133 = .ok (.dup2, 1) := by decide +kernel
theorem d_MO_cut_134 : decode b_MO_cut 134 = .ok (.iaload, 1) := by decide +kernel
theorem d_MO_cut_135 : decode b_MO_cut 135 = .ok (.aload_n 0, 1) := by decide +kernel
theorem d_MO_cut_136 : decode b_MO_cut 136 = .ok (.getfield 32, 3) := by decide +kernel
theorem d_MO_cut_139 : decode b_MO_cut 139 = .ok (.iload_n 2, 1) := by decide +kernel
theorem d_MO_cut_140 : decode b_MO_cut 140 = .ok (.iaload, 1) := by decide +kernel
theorem d_MO_cut_141 : decode b_MO_cut 141 = .ok (.isub, 1) := by decide +kernel
theorem d_MO_cut_142 : decode b_MO_cut 142 = .ok (.iastore, 1) := by decide +kernel
theorem d_MO_cut_143 : decode b_MO_cut 143 = .ok (.iinc 2 1, 3) := by decide +kernel
theorem d_MO_cut_146 : decode b_MO_cut 146 = .ok (.goto (-42), 3) := by decide +kernel
theorem d_MO_cut_149 : decode b_MO_cut 149 = .ok (.aload_n 0, 1) := by decide +kernel
theorem d_MO_cut_150 : decode b_MO_cut 150 = .ok (.dup, 1) := by decide +kernel
theorem d_MO_cut_151 : decode b_MO_cut 151 = .ok (.getfield 97, 3) := by decide +kernel
theorem d_MO_cut_154 : decode b_MO_cut 154 = .ok (.iconst 1, 1) := by decide +kernel
theorem d_MO_cut_155 : decode b_MO_cut 155 = .ok (.iadd, 1) := by decide +kernel
theorem d_MO_cut_156 : decode b_MO_cut 156 = .ok (.putfield 97, 3) := by decide +kernel
theorem d_MO_cut_159 : decode b_MO_cut 159 = .ok (.aload_n 0, 1) := by decide +kernel
theorem d_MO_cut_160 : decode b_MO_cut 160 = .ok (.getfield 97, 3) := by decide +kernel
theorem d_MO_cut_163 : decode b_MO_cut 163 = .ok (.iconst 1, 1) := by decide +kernel
theorem d_MO_cut_164 : decode b_MO_cut 164 = .ok (.isub, 1) := by decide +kernel
theorem d_MO_cut_165 : decode b_MO_cut 165 = .ok (.ireturn, 1) := by decide +kernel
theorem d_MO_isSetup_0 : decode b_MO_isSetup 0 = .ok (.iload_n 1, 1) := by decide +kernel
theorem d_MO_isSetup_1 : decode b_MO_isSetup 1 = .ok (.iconst 0, 1) := by decide +kernel
theorem d_MO_isSetup_2 : decode b_MO_isSetup 2 = .ok (.aload_n 0, 1) := by decide +kernel
theorem d_MO_isSetup_3 : decode b_MO_isSetup 3 = .ok (.getfield 97, 3) := by decide +kernel
theorem d_MO_isSetup_6 : decode b_MO_isSetup 6 = .ok (.iconst 1, 1) := by decide +kernel
theorem d_MO_isSetup_7 : decode b_MO_isSetup 7 = .ok (.isub, 1) := by decide +kernel
theorem d_MO_isSetup_8 : decode b_MO_isSetup 8 = .ok (.invokestatic 68, 3) := by decide +kernel
theorem d_MO_isSetup_11 : decode b_MO_isSetup 11 = .ok (.ireturn, 1) := by decide +kernel
theorem d_MO_many_0 : decode b_MO_many 0 = .ok (.iconst 0, 1) := by decide +kernel
theorem d_MO_many_1 : decode b_MO_many 1 = .ok (.istore_n 2, 1) := by decide +kernel
theorem d_MO_many_2 : decode b_MO_many 2 = .ok (.iconst 0, 1) := by decide +kernel
theorem d_MO_many_3 : decode b_MO_many 3 = .ok (.istore_n 3, 1) := by decide +kernel
theorem d_MO_many_4 : decode b_MO_many 4 = .ok (.iload_n 3, 1) := by decide +kernel
theorem d_MO_many_5 : decode b_MO_many 5 = .ok (.iconst 5, 1) := by decide +kernel
theorem d_MO_many_6 : decode b_MO_many 6 = .ok (.if_icmp .ge (22), 3) := by decide +kernel
theorem d_MO_many_9 : decode b_MO_many 9 = .ok (.iload_n 2, 1) := by decide +kernel
theorem d_MO_many_10 : decode b_MO_many 10 = .ok (.aload_n 0, 1) := by decide +kernel
theorem d_MO_many_11 : decode b_MO_many 11 = .ok (.getfield 50, 3) := by decide +kernel
theorem d_MO_many_14 : decode b_MO_many 14 = .ok (.iconst 5, 1) := by decide +kernel
theorem d_MO_many_15 : decode b_MO_many 15 = .ok (.iload_n 1, 1) := by decide +kernel
theorem d_MO_many_16 : decode b_MO_many 16 = .ok (.imul, 1) := by decide +kernel
theorem d_MO_many_17 : decode b_MO_many 17 = .ok (.iload_n 3, 1) := by decide +kernel
theorem d_MO_many_18 : decode b_MO_many 18 = .ok (.iadd, 1) := by decide +kernel
theorem d_MO_many_19 : decode b_MO_many 19 = .ok (.iaload, 1) := by decide +kernel
theorem d_MO_many_20 : decode b_MO_many 20 = .ok (.iadd, 1) := by decide +kernel
theorem d_MO_many_21 : decode b_MO_many 21 = .ok (.istore_n 2, 1) := by decide +kernel
theorem d_MO_many_22 : decode b_MO_many 22 = .ok (.iinc 3 1, 3) := by decide +kernel
theorem d_MO_many_25 : decode b_MO_many 25 = .ok (.goto (-21), 3) := by decide +kernel
theorem d_MO_many_28 : decode b_MO_many 28 = .ok (.iload_n 2, 1) := by decide +kernel
theorem d_MO_many_29 : decode b_MO_many 29 = .ok (.ireturn, 1) := by decide +kernel
theorem d_MO_wantOf_0 : decode b_MO_wantOf 0 = .ok (.iconst 0, 1) := by decide +kernel
theorem d_MO_wantOf_1 : decode b_MO_wantOf 1 = .ok (.istore_n 3, 1) := by decide +kernel
theorem d_MO_wantOf_2 : decode b_MO_wantOf 2 = .ok (.iload_n 2, 1) := by decide +kernel
theorem d_MO_wantOf_3 : decode b_MO_wantOf 3 = .ok (.istore 4, 2) := by decide +kernel
theorem d_MO_wantOf_5 : decode b_MO_wantOf 5 = .ok (.iload 4, 2) := by decide +kernel
theorem d_MO_wantOf_7 : decode b_MO_wantOf 7 = .ok (.aload_n 0, 1) := by decide +kernel
theorem d_MO_wantOf_8 : decode b_MO_wantOf 8 = .ok (.getfield 50, 3) := by decide +kernel
theorem d_MO_wantOf_11 : decode b_MO_wantOf 11 = .ok (.iconst 5, 1) := by decide +kernel
theorem d_MO_wantOf_12 : decode b_MO_wantOf 12 = .ok (.iload_n 1, 1) := by decide +kernel
theorem d_MO_wantOf_13 : decode b_MO_wantOf 13 = .ok (.imul, 1) := by decide +kernel
theorem d_MO_wantOf_14 : decode b_MO_wantOf 14 = .ok (.iload_n 3, 1) := by decide +kernel
theorem d_MO_wantOf_15 : decode b_MO_wantOf 15 = .ok (.iadd, 1) := by decide +kernel
theorem d_MO_wantOf_16 : decode b_MO_wantOf 16 = .ok (.iaload, 1) := by decide +kernel
theorem d_MO_wantOf_17 : decode b_MO_wantOf 17 = .ok (.if_icmp .lt (24), 3) := by decide +kernel
theorem d_MO_wantOf_20 : decode b_MO_wantOf 20 = .ok (.iload 4, 2) := by decide +kernel
theorem d_MO_wantOf_22 : decode b_MO_wantOf 22 = .ok (.aload_n 0, 1) := by decide +kernel
theorem d_MO_wantOf_23 : decode b_MO_wantOf 23 = .ok (.getfield 50, 3) := by decide +kernel
theorem d_MO_wantOf_26 : decode b_MO_wantOf 26 = .ok (.iconst 5, 1) := by decide +kernel
theorem d_MO_wantOf_27 : decode b_MO_wantOf 27 = .ok (.iload_n 1, 1) := by decide +kernel
theorem d_MO_wantOf_28 : decode b_MO_wantOf 28 = .ok (.imul, 1) := by decide +kernel
theorem d_MO_wantOf_29 : decode b_MO_wantOf 29 = .ok (.iload_n 3, 1) := by decide +kernel
theorem d_MO_wantOf_30 : decode b_MO_wantOf 30 = .ok (.iadd, 1) := by decide +kernel
theorem d_MO_wantOf_31 : decode b_MO_wantOf 31 = .ok (.iaload, 1) := by decide +kernel
theorem d_MO_wantOf_32 : decode b_MO_wantOf 32 = .ok (.isub, 1) := by decide +kernel
theorem d_MO_wantOf_33 : decode b_MO_wantOf 33 = .ok (.istore 4, 2) := by decide +kernel
theorem d_MO_wantOf_35 : decode b_MO_wantOf 35 = .ok (.iinc 3 1, 3) := by decide +kernel
theorem d_MO_wantOf_38 : decode b_MO_wantOf 38 = .ok (.goto (-33), 3) := by decide +kernel
theorem d_MO_wantOf_41 : decode b_MO_wantOf 41 = .ok (.iload_n 3, 1) := by decide +kernel
theorem d_MO_wantOf_42 : decode b_MO_wantOf 42 = .ok (.ireturn, 1) := by decide +kernel
theorem d_MO_beginOf_0 : decode b_MO_beginOf 0 = .ok (.aload_n 0, 1) := by decide +kernel
theorem d_MO_beginOf_1 : decode b_MO_beginOf 1 = .ok (.getfield 47, 3) := by decide +kernel
theorem d_MO_beginOf_4 : decode b_MO_beginOf 4 = .ok (.iload_n 1, 1) := by decide +kernel
theorem d_MO_beginOf_5 : decode b_MO_beginOf 5 = .ok (.iaload, 1) := by decide +kernel
theorem d_MO_beginOf_6 : decode b_MO_beginOf 6 = .ok (.istore_n 3, 1) := by decide +kernel
theorem d_MO_beginOf_7 : decode b_MO_beginOf 7 = .ok (.iconst 0, 1) := by decide +kernel
theorem d_MO_beginOf_8 : decode b_MO_beginOf 8 = .ok (.istore 4, 2) := by decide +kernel
theorem d_MO_beginOf_10 : decode b_MO_beginOf 10 = .ok (.iload 4, 2) := by decide +kernel
theorem d_MO_beginOf_12 : decode b_MO_beginOf 12 = .ok (.iload_n 2, 1) := by decide +kernel
theorem d_MO_beginOf_13 : decode b_MO_beginOf 13 = .ok (.if_icmp .ge (31), 3) := by decide +kernel
theorem d_MO_beginOf_16 : decode b_MO_beginOf 16 = .ok (.iload_n 3, 1) := by decide +kernel
theorem d_MO_beginOf_17 : decode b_MO_beginOf 17 = .ok (.aload_n 0, 1) := by decide +kernel
theorem d_MO_beginOf_18 : decode b_MO_beginOf 18 = .ok (.getfield 22, 3) := by decide +kernel
theorem d_MO_beginOf_21 : decode b_MO_beginOf 21 = .ok (.aload_n 0, 1) := by decide +kernel
theorem d_MO_beginOf_22 : decode b_MO_beginOf 22 = .ok (.iload_n 1, 1) := by decide +kernel
theorem d_MO_beginOf_23 : decode b_MO_beginOf 23 = .ok (.iload 4, 2) := by decide +kernel
theorem d_MO_beginOf_25 : decode b_MO_beginOf 25 = .ok (.invokevirtual 100, 3) := by decide +kernel
theorem d_MO_beginOf_28 : decode b_MO_beginOf 28 = .ok (.iaload, 1) := by decide +kernel
theorem d_MO_beginOf_29 : decode b_MO_beginOf 29 = .ok (.aload_n 0, 1) := by decide +kernel
theorem d_MO_beginOf_30 : decode b_MO_beginOf 30 = .ok (.getfield 44, 3) := by decide +kernel
theorem d_MO_beginOf_33 : decode b_MO_beginOf 33 = .ok (.iload_n 1, 1) := by decide +kernel
theorem d_MO_beginOf_34 : decode b_MO_beginOf 34 = .ok (.iaload, 1) := by decide +kernel
theorem d_MO_beginOf_35 : decode b_MO_beginOf 35 = .ok (.iadd, 1) := by decide +kernel
theorem d_MO_beginOf_36 : decode b_MO_beginOf 36 = .ok (.iadd, 1) := by decide +kernel
theorem d_MO_beginOf_37 : decode b_MO_beginOf 37 = .ok (.istore_n 3, 1) := by decide +kernel
theorem d_MO_beginOf_38 : decode b_MO_beginOf 38 = .ok (.iinc 4 1, 3) := by decide +kernel
theorem d_MO_beginOf_41 : decode b_MO_beginOf 41 = .ok (.goto (-31), 3) := by decide +kernel
theorem d_MO_beginOf_44 : decode b_MO_beginOf 44 = .ok (.iload_n 3, 1) := by decide +kernel
theorem d_MO_beginOf_45 : decode b_MO_beginOf 45 = .ok (.ireturn, 1) := by decide +kernel
theorem d_MO_endOf_0 : decode b_MO_endOf 0 = .ok (.aload_n 0, 1) := by decide +kernel
theorem d_MO_endOf_1 : decode b_MO_endOf 1 = .ok (.iload_n 1, 1) := by decide +kernel
theorem d_MO_endOf_2 : decode b_MO_endOf 2 = .ok (.iload_n 2, 1) := by decide +kernel
theorem d_MO_endOf_3 : decode b_MO_endOf 3 = .ok (.invokevirtual 104, 3) := by decide +kernel
theorem d_MO_endOf_6 : decode b_MO_endOf 6 = .ok (.aload_n 0, 1) := by decide +kernel
theorem d_MO_endOf_7 : decode b_MO_endOf 7 = .ok (.getfield 22, 3) := by decide +kernel
theorem d_MO_endOf_10 : decode b_MO_endOf 10 = .ok (.aload_n 0, 1) := by decide +kernel
theorem d_MO_endOf_11 : decode b_MO_endOf 11 = .ok (.iload_n 1, 1) := by decide +kernel
theorem d_MO_endOf_12 : decode b_MO_endOf 12 = .ok (.iload_n 2, 1) := by decide +kernel
theorem d_MO_endOf_13 : decode b_MO_endOf 13 = .ok (.invokevirtual 100, 3) := by decide +kernel
theorem d_MO_endOf_16 : decode b_MO_endOf 16 = .ok (.iaload, 1) := by decide +kernel
theorem d_MO_endOf_17 : decode b_MO_endOf 17 = .ok (.iadd, 1) := by decide +kernel
theorem d_MO_endOf_18 : decode b_MO_endOf 18 = .ok (.ireturn, 1) := by decide +kernel
theorem d_MO_weightOf_0 : decode b_MO_weightOf 0 = .ok (.aload_n 0, 1) := by decide +kernel
theorem d_MO_weightOf_1 : decode b_MO_weightOf 1 = .ok (.getfield 38, 3) := by decide +kernel
theorem d_MO_weightOf_4 : decode b_MO_weightOf 4 = .ok (.iload_n 1, 1) := by decide +kernel
theorem d_MO_weightOf_5 : decode b_MO_weightOf 5 = .ok (.iaload, 1) := by decide +kernel
theorem d_MO_weightOf_6 : decode b_MO_weightOf 6 = .ok (.i2l, 1) := by decide +kernel
theorem d_MO_weightOf_7 : decode b_MO_weightOf 7 = .ok (.aload_n 0, 1) := by decide +kernel
theorem d_MO_weightOf_8 : decode b_MO_weightOf 8 = .ok (.iload_n 1, 1) := by decide +kernel
theorem d_MO_weightOf_9 : decode b_MO_weightOf 9 = .ok (.iload_n 2, 1) := by decide +kernel
theorem d_MO_weightOf_10 : decode b_MO_weightOf 10 = .ok (.invokevirtual 107, 3) := by decide +kernel
theorem d_MO_weightOf_13 : decode b_MO_weightOf 13 = .ok (.i2l, 1) := by decide +kernel
theorem d_MO_weightOf_14 : decode b_MO_weightOf 14 = .ok (.lmul, 1) := by decide +kernel
theorem d_MO_weightOf_15 : decode b_MO_weightOf 15 = .ok (.aload_n 0, 1) := by decide +kernel
theorem d_MO_weightOf_16 : decode b_MO_weightOf 16 = .ok (.getfield 35, 3) := by decide +kernel
theorem d_MO_weightOf_19 : decode b_MO_weightOf 19 = .ok (.iload_n 1, 1) := by decide +kernel
theorem d_MO_weightOf_20 : decode b_MO_weightOf 20 = .ok (.iaload, 1) := by decide +kernel
theorem d_MO_weightOf_21 : decode b_MO_weightOf 21 = .ok (.i2l, 1) := by decide +kernel
theorem d_MO_weightOf_22 : decode b_MO_weightOf 22 = .ok (.ldiv, 1) := by decide +kernel
theorem d_MO_weightOf_23 : decode b_MO_weightOf 23 = .ok (.lstore_n 3, 1) := by decide +kernel
theorem d_MO_weightOf_24 : decode b_MO_weightOf 24 = .ok (.aload_n 0, 1) := by decide +kernel
theorem d_MO_weightOf_25 : decode b_MO_weightOf 25 = .ok (.getfield 38, 3) := by decide +kernel
theorem d_MO_weightOf_28 : decode b_MO_weightOf 28 = .ok (.iload_n 1, 1) := by decide +kernel
theorem d_MO_weightOf_29 : decode b_MO_weightOf 29 = .ok (.iaload, 1) := by decide +kernel
theorem d_MO_weightOf_30 : decode b_MO_weightOf 30 = .ok (.i2l, 1) := by decide +kernel
theorem d_MO_weightOf_31 : decode b_MO_weightOf 31 = .ok (.aload_n 0, 1) := by decide +kernel
theorem d_MO_weightOf_32 : decode b_MO_weightOf 32 = .ok (.iload_n 1, 1) := by decide +kernel
theorem d_MO_weightOf_33 : decode b_MO_weightOf 33 = .ok (.iload_n 2, 1) := by decide +kernel
theorem d_MO_weightOf_34 : decode b_MO_weightOf 34 = .ok (.invokevirtual 104, 3) := by decide +kernel
theorem d_MO_weightOf_37 : decode b_MO_weightOf 37 = .ok (.i2l, 1) := by decide +kernel
theorem d_MO_weightOf_38 : decode b_MO_weightOf 38 = .ok (.lmul, 1) := by decide +kernel
theorem d_MO_weightOf_39 : decode b_MO_weightOf 39 = .ok (.aload_n 0, 1) := by decide +kernel
theorem d_MO_weightOf_40 : decode b_MO_weightOf 40 = .ok (.getfield 35, 3) := by decide +kernel
theorem d_MO_weightOf_43 : decode b_MO_weightOf 43 = .ok (.iload_n 1, 1) := by decide +kernel
theorem d_MO_weightOf_44 : decode b_MO_weightOf 44 = .ok (.iaload, 1) := by decide +kernel
theorem d_MO_weightOf_45 : decode b_MO_weightOf 45 = .ok (.i2l, 1) := by decide +kernel
theorem d_MO_weightOf_46 : decode b_MO_weightOf 46 = .ok (.ldiv, 1) := by decide +kernel
theorem d_MO_weightOf_47 : decode b_MO_weightOf 47 = .ok (.lstore 5, 2) := by decide +kernel
theorem d_MO_weightOf_49 : decode b_MO_weightOf 49 = .ok (.lload_n 3, 1) := by decide +kernel
theorem d_MO_weightOf_50 : decode b_MO_weightOf 50 = .ok (.lload 5, 2) := by decide +kernel
theorem d_MO_weightOf_52 : decode b_MO_weightOf 52 = .ok (.lsub, 1) := by decide +kernel
theorem d_MO_weightOf_53 : decode b_MO_weightOf 53 = .ok (.l2i, 1) := by decide +kernel
theorem d_MO_weightOf_54 : decode b_MO_weightOf 54 = .ok (.ireturn, 1) := by decide +kernel
theorem d_MO_strip_0 : decode b_MO_strip 0 = .ok (.aload_n 0, 1) := by decide +kernel
theorem d_MO_strip_1 : decode b_MO_strip 1 = .ok (.aload_n 0, 1) := by decide +kernel
theorem d_MO_strip_2 : decode b_MO_strip 2 = .ok (.iload_n 1, 1) := by decide +kernel
theorem d_MO_strip_3 : decode b_MO_strip 3 = .ok (.invokevirtual 110, 3) := by decide +kernel
theorem d_MO_strip_6 : decode b_MO_strip 6 = .ok (.ifCond .eq (16), 3) := by decide +kernel
theorem d_MO_strip_9 : decode b_MO_strip 9 = .ok (.iload_n 3, 1) := by decide +kernel
theorem d_MO_strip_10 : decode b_MO_strip 10 = .ok (.iconst 0, 1) := by decide +kernel
theorem d_MO_strip_11 : decode b_MO_strip 11 = .ok (.iconst 3, 1) := by decide +kernel
theorem d_MO_strip_12 : decode b_MO_strip 12 = .ok (.invokestatic 68, 3) := by decide +kernel
theorem d_MO_strip_15 : decode b_MO_strip 15 = .ok (.ifCond .eq (7), 3) := by decide +kernel
theorem d_MO_strip_18 : decode b_MO_strip 18 = .ok (.iload_n 2, 1) := by decide +kernel
theorem d_MO_strip_19 : decode b_MO_strip 19 = .ok (.ifCond .ge (7), 3) := by decide +kernel
theorem d_MO_strip_22 : decode b_MO_strip 22 = .ok (.iconst 1, 1) := by decide +kernel
theorem d_MO_strip_23 : decode b_MO_strip 23 = .ok (.goto (4), 3) := by decide +kernel
theorem d_MO_strip_26 : decode b_MO_strip 26 = .ok (.iconst 0, 1) := by decide +kernel
theorem d_MO_strip_27 : decode b_MO_strip 27 = .ok (.iconst 0, 1) := by decide +kernel
theorem d_MO_strip_28 : decode b_MO_strip 28 = .ok (.invokevirtual 73, 3) := by decide +kernel
theorem d_MO_strip_31 : decode b_MO_strip 31 = .ok (.ifCond .eq (5), 3) := by decide +kernel
theorem d_MO_strip_34 : decode b_MO_strip 34 = .ok (.iconst 0, 1) := by decide +kernel
theorem d_MO_strip_35 : decode b_MO_strip 35 = .ok (.ireturn, 1) := by decide +kernel
theorem d_MO_strip_36 : decode b_MO_strip 36 = .ok (.iload_n 2, 1) := by decide +kernel
theorem d_MO_strip_37 : decode b_MO_strip 37 = .ok (.aload_n 0, 1) := by decide +kernel
theorem d_MO_strip_38 : decode b_MO_strip 38 = .ok (.iload_n 1, 1) := by decide +kernel
theorem d_MO_strip_39 : decode b_MO_strip 39 = .ok (.invokevirtual 114, 3) := by decide +kernel
theorem d_MO_strip_42 : decode b_MO_strip 42 = .ok (.if_icmp .lt (5), 3) := by decide +kernel
theorem d_MO_strip_45 : decode b_MO_strip 45 = .ok (.iconst (-1), 1) := by decide +kernel
theorem d_MO_strip_46 : decode b_MO_strip 46 = .ok (.ireturn, 1) := by decide +kernel
theorem d_MO_strip_47 : decode b_MO_strip 47 = .ok (.iload_n 3, 1) := by decide +kernel
theorem d_MO_strip_48 : decode b_MO_strip 48 = .ok (.ifCond .ne (12), 3) := by decide +kernel
theorem d_MO_strip_51 : decode b_MO_strip 51 = .ok (.aload_n 0, 1) := by decide +kernel
theorem d_MO_strip_52 : decode b_MO_strip 52 = .ok (.iload_n 1, 1) := by decide +kernel
theorem d_MO_strip_53 : decode b_MO_strip 53 = .ok (.iload_n 2, 1) := by decide +kernel
theorem d_MO_strip_54 : decode b_MO_strip 54 = .ok (.invokevirtual 100, 3) := by decide +kernel
theorem d_MO_strip_57 : decode b_MO_strip 57 = .ok (.goto (37), 3) := by decide +kernel
theorem d_MO_strip_60 : decode b_MO_strip 60 = .ok (.iload_n 3, 1) := by decide +kernel
theorem d_MO_strip_61 : decode b_MO_strip 61 = .ok (.iconst 1, 1) := by decide +kernel
theorem d_MO_strip_62 : decode b_MO_strip 62 = .ok (.if_icmp .ne (12), 3) := by decide +kernel
theorem d_MO_strip_65 : decode b_MO_strip 65 = .ok (.aload_n 0, 1) := by decide +kernel
theorem d_MO_strip_66 : decode b_MO_strip 66 = .ok (.iload_n 1, 1) := by decide +kernel
theorem d_MO_strip_67 : decode b_MO_strip 67 = .ok (.iload_n 2, 1) := by decide +kernel
theorem d_MO_strip_68 : decode b_MO_strip 68 = .ok (.invokevirtual 104, 3) := by decide +kernel
theorem d_MO_strip_71 : decode b_MO_strip 71 = .ok (.goto (23), 3) := by decide +kernel
theorem d_MO_strip_74 : decode b_MO_strip 74 = .ok (.iload_n 3, 1) := by decide +kernel
theorem d_MO_strip_75 : decode b_MO_strip 75 = .ok (.iconst 2, 1) := by decide +kernel
theorem d_MO_strip_76 : decode b_MO_strip 76 = .ok (.if_icmp .ne (12), 3) := by decide +kernel
theorem d_MO_strip_79 : decode b_MO_strip 79 = .ok (.aload_n 0, 1) := by decide +kernel
theorem d_MO_strip_80 : decode b_MO_strip 80 = .ok (.iload_n 1, 1) := by decide +kernel
theorem d_MO_strip_81 : decode b_MO_strip 81 = .ok (.iload_n 2, 1) := by decide +kernel
theorem d_MO_strip_82 : decode b_MO_strip 82 = .ok (.invokevirtual 107, 3) := by decide +kernel
theorem d_MO_strip_85 : decode b_MO_strip 85 = .ok (.goto (9), 3) := by decide +kernel
theorem d_MO_strip_88 : decode b_MO_strip 88 = .ok (.aload_n 0, 1) := by decide +kernel
theorem d_MO_strip_89 : decode b_MO_strip 89 = .ok (.iload_n 1, 1) := by decide +kernel
theorem d_MO_strip_90 : decode b_MO_strip 90 = .ok (.iload_n 2, 1) := by decide +kernel
theorem d_MO_strip_91 : decode b_MO_strip 91 = .ok (.invokevirtual 118, 3) := by decide +kernel
theorem d_MO_strip_94 : decode b_MO_strip 94 = .ok (.ireturn, 1) := by decide +kernel
theorem d_MO_scrap_0 : decode b_MO_scrap 0 = .ok (.aload_n 0, 1) := by decide +kernel
theorem d_MO_scrap_1 : decode b_MO_scrap 1 = .ok (.aload_n 0, 1) := by decide +kernel
theorem d_MO_scrap_2 : decode b_MO_scrap 2 = .ok (.iload_n 1, 1) := by decide +kernel
theorem d_MO_scrap_3 : decode b_MO_scrap 3 = .ok (.invokevirtual 110, 3) := by decide +kernel
theorem d_MO_scrap_6 : decode b_MO_scrap 6 = .ok (.ifCond .ne (7), 3) := by decide +kernel
theorem d_MO_scrap_9 : decode b_MO_scrap 9 = .ok (.iconst 1, 1) := by decide +kernel
theorem d_MO_scrap_10 : decode b_MO_scrap 10 = .ok (.goto (4), 3) := by decide +kernel
theorem d_MO_scrap_13 : decode b_MO_scrap 13 = .ok (.iconst 0, 1) := by decide +kernel
theorem d_MO_scrap_14 : decode b_MO_scrap 14 = .ok (.iconst 0, 1) := by decide +kernel
theorem d_MO_scrap_15 : decode b_MO_scrap 15 = .ok (.invokevirtual 73, 3) := by decide +kernel
theorem d_MO_scrap_18 : decode b_MO_scrap 18 = .ok (.ifCond .eq (5), 3) := by decide +kernel
theorem d_MO_scrap_21 : decode b_MO_scrap 21 = .ok (.iconst 0, 1) := by decide +kernel
theorem d_MO_scrap_22 : decode b_MO_scrap 22 = .ok (.ireturn, 1) := by decide +kernel
theorem d_MO_scrap_23 : decode b_MO_scrap 23 = .ok (.aload_n 0, 1) := by decide +kernel
theorem d_MO_scrap_24 : decode b_MO_scrap 24 = .ok (.getfield 38, 3) := by decide +kernel
theorem d_MO_scrap_27 : decode b_MO_scrap 27 = .ok (.iload_n 1, 1) := by decide +kernel
theorem d_MO_scrap_28 : decode b_MO_scrap 28 = .ok (.iaload, 1) := by decide +kernel
theorem d_MO_scrap_29 : decode b_MO_scrap 29 = .ok (.istore_n 2, 1) := by decide +kernel
theorem d_MO_scrap_30 : decode b_MO_scrap 30 = .ok (.iconst 0, 1) := by decide +kernel
theorem d_MO_scrap_31 : decode b_MO_scrap 31 = .ok (.istore_n 3, 1) := by decide +kernel
theorem d_MO_scrap_32 : decode b_MO_scrap 32 = .ok (.iload_n 3, 1) := by decide +kernel
theorem d_MO_scrap_33 : decode b_MO_scrap 33 = .ok (.aload_n 0, 1) := by decide +kernel
theorem d_MO_scrap_34 : decode b_MO_scrap 34 = .ok (.iload_n 1, 1) := by decide +kernel
theorem d_MO_scrap_35 : decode b_MO_scrap 35 = .ok (.invokevirtual 114, 3) := by decide +kernel
theorem d_MO_scrap_38 : decode b_MO_scrap 38 = .ok (.if_icmp .ge (18), 3) := by decide +kernel
theorem d_MO_scrap_41 : decode b_MO_scrap 41 = .ok (.iload_n 2, 1) := by decide +kernel
theorem d_MO_scrap_42 : decode b_MO_scrap 42 = .ok (.aload_n 0, 1) := by decide +kernel
theorem d_MO_scrap_43 : decode b_MO_scrap 43 = .ok (.iload_n 1, 1) := by decide +kernel
theorem d_MO_scrap_44 : decode b_MO_scrap 44 = .ok (.iload_n 3, 1) := by decide +kernel
theorem d_MO_scrap_45 : decode b_MO_scrap 45 = .ok (.invokevirtual 118, 3) := by decide +kernel
theorem d_MO_scrap_48 : decode b_MO_scrap 48 = .ok (.isub, 1) := by decide +kernel
theorem d_MO_scrap_49 : decode b_MO_scrap 49 = .ok (.istore_n 2, 1) := by decide +kernel
theorem d_MO_scrap_50 : decode b_MO_scrap 50 = .ok (.iinc 3 1, 3) := by decide +kernel
theorem d_MO_scrap_53 : decode b_MO_scrap 53 = .ok (.goto (-21), 3) := by decide +kernel
theorem d_MO_scrap_56 : decode b_MO_scrap 56 = .ok (.iload_n 2, 1) := by decide +kernel
theorem d_MO_scrap_57 : decode b_MO_scrap 57 = .ok (.ireturn, 1) := by decide +kernel
theorem d_MO_hasKnife_0 : decode b_MO_hasKnife 0 = .ok (.iconst 0, 1) := by decide +kernel
theorem d_MO_hasKnife_1 : decode b_MO_hasKnife 1 = .ok (.istore_n 3, 1) := by decide +kernel
theorem d_MO_hasKnife_2 : decode b_MO_hasKnife 2 = .ok (.iconst 0, 1) := by decide +kernel
theorem d_MO_hasKnife_3 : decode b_MO_hasKnife 3 = .ok (.istore 4, 2) := by decide +kernel
theorem d_MO_hasKnife_5 : decode b_MO_hasKnife 5 = .ok (.iload 4, 2) := by decide +kernel
theorem d_MO_hasKnife_7 : decode b_MO_hasKnife 7 = .ok (.aload_n 0, 1) := by decide +kernel
theorem d_MO_hasKnife_8 : decode b_MO_hasKnife 8 = .ok (.iload_n 1, 1) := by decide +kernel
theorem d_MO_hasKnife_9 : decode b_MO_hasKnife 9 = .ok (.invokevirtual 114, 3) := by decide +kernel
theorem d_MO_hasKnife_12 : decode b_MO_hasKnife 12 = .ok (.if_icmp .ge (41), 3) := by decide +kernel
theorem d_MO_hasKnife_15 : decode b_MO_hasKnife 15 = .ok (.iload_n 3, 1) := by decide +kernel
theorem d_MO_hasKnife_16 : decode b_MO_hasKnife 16 = .ok (.ifCond .ne (25), 3) := by decide +kernel
theorem d_MO_hasKnife_19 : decode b_MO_hasKnife 19 = .ok (.aload_n 0, 1) := by decide +kernel
theorem d_MO_hasKnife_20 : decode b_MO_hasKnife 20 = .ok (.iload_n 1, 1) := by decide +kernel
theorem d_MO_hasKnife_21 : decode b_MO_hasKnife 21 = .ok (.iload 4, 2) := by decide +kernel
theorem d_MO_hasKnife_23 : decode b_MO_hasKnife 23 = .ok (.invokevirtual 104, 3) := by decide +kernel
theorem d_MO_hasKnife_26 : decode b_MO_hasKnife 26 = .ok (.iload_n 2, 1) := by decide +kernel
theorem d_MO_hasKnife_27 : decode b_MO_hasKnife 27 = .ok (.if_icmp .eq (14), 3) := by decide +kernel
theorem d_MO_hasKnife_30 : decode b_MO_hasKnife 30 = .ok (.aload_n 0, 1) := by decide +kernel
theorem d_MO_hasKnife_31 : decode b_MO_hasKnife 31 = .ok (.iload_n 1, 1) := by decide +kernel
theorem d_MO_hasKnife_32 : decode b_MO_hasKnife 32 = .ok (.iload 4, 2) := by decide +kernel
theorem d_MO_hasKnife_34 : decode b_MO_hasKnife 34 = .ok (.invokevirtual 107, 3) := by decide +kernel
theorem d_MO_hasKnife_37 : decode b_MO_hasKnife 37 = .ok (.iload_n 2, 1) := by decide +kernel
theorem d_MO_hasKnife_38 : decode b_MO_hasKnife 38 = .ok (.if_icmp .ne (7), 3) := by decide +kernel
theorem d_MO_hasKnife_41 : decode b_MO_hasKnife 41 = .ok (.iconst 1, 1) := by decide +kernel
theorem d_MO_hasKnife_42 : decode b_MO_hasKnife 42 = .ok (.goto (4), 3) := by decide +kernel
theorem d_MO_hasKnife_45 : decode b_MO_hasKnife 45 = .ok (.iconst 0, 1) := by decide +kernel
theorem d_MO_hasKnife_46 : decode b_MO_hasKnife 46 = .ok (.istore_n 3, 1) := by decide +kernel
theorem d_MO_hasKnife_47 : decode b_MO_hasKnife 47 = .ok (.iinc 4 1, 3) := by decide +kernel
theorem d_MO_hasKnife_50 : decode b_MO_hasKnife 50 = .ok (.goto (-45), 3) := by decide +kernel
theorem d_MO_hasKnife_53 : decode b_MO_hasKnife 53 = .ok (.iload_n 3, 1) := by decide +kernel
theorem d_MO_hasKnife_54 : decode b_MO_hasKnife 54 = .ok (.ireturn, 1) := by decide +kernel
theorem d_MO_movesFrom_0 : decode b_MO_movesFrom 0 = .ok (.iconst 0, 1) := by decide +kernel
theorem d_MO_movesFrom_1 : decode b_MO_movesFrom 1 = .ok (.istore_n 3, 1) := by decide +kernel
theorem d_MO_movesFrom_2 : decode b_MO_movesFrom 2 = .ok (.iconst 0, 1) := by decide +kernel
theorem d_MO_movesFrom_3 : decode b_MO_movesFrom 3 = .ok (.istore 4, 2) := by decide +kernel
theorem d_MO_movesFrom_5 : decode b_MO_movesFrom 5 = .ok (.iload 4, 2) := by decide +kernel
theorem d_MO_movesFrom_7 : decode b_MO_movesFrom 7 = .ok (.aload_n 0, 1) := by decide +kernel
theorem d_MO_movesFrom_8 : decode b_MO_movesFrom 8 = .ok (.iload_n 2, 1) := by decide +kernel
theorem d_MO_movesFrom_9 : decode b_MO_movesFrom 9 = .ok (.invokevirtual 114, 3) := by decide +kernel
theorem d_MO_movesFrom_12 : decode b_MO_movesFrom 12 = .ok (.if_icmp .ge (91), 3) := by decide +kernel
theorem d_MO_movesFrom_15 : decode b_MO_movesFrom 15 = .ok (.iload 4, 2) := by decide +kernel
theorem d_MO_movesFrom_17 : decode b_MO_movesFrom 17 = .ok (.ifCond .le (26), 3) := by decide +kernel
theorem d_MO_movesFrom_20 : decode b_MO_movesFrom 20 = .ok (.aload_n 0, 1) := by decide +kernel
theorem d_MO_movesFrom_21 : decode b_MO_movesFrom 21 = .ok (.iload_n 2, 1) := by decide +kernel
theorem d_MO_movesFrom_22 : decode b_MO_movesFrom 22 = .ok (.iload 4, 2) := by decide +kernel
theorem d_MO_movesFrom_24 : decode b_MO_movesFrom 24 = .ok (.iconst 1, 1) := by decide +kernel
theorem d_MO_movesFrom_25 : decode b_MO_movesFrom 25 = .ok (.isub, 1) := by decide +kernel
theorem d_MO_movesFrom_26 : decode b_MO_movesFrom 26 = .ok (.invokevirtual 107, 3) := by decide +kernel
theorem d_MO_movesFrom_29 : decode b_MO_movesFrom 29 = .ok (.aload_n 0, 1) := by decide +kernel
theorem d_MO_movesFrom_30 : decode b_MO_movesFrom 30 = .ok (.iload_n 2, 1) := by decide +kernel
theorem d_MO_movesFrom_31 : decode b_MO_movesFrom 31 = .ok (.iload 4, 2) := by decide +kernel
theorem d_MO_movesFrom_33 : decode b_MO_movesFrom 33 = .ok (.invokevirtual 104, 3) := by decide +kernel
theorem d_MO_movesFrom_36 : decode b_MO_movesFrom 36 = .ok (.if_icmp .ne (7), 3) := by decide +kernel
theorem d_MO_movesFrom_39 : decode b_MO_movesFrom 39 = .ok (.iconst 1, 1) := by decide +kernel
theorem d_MO_movesFrom_40 : decode b_MO_movesFrom 40 = .ok (.goto (4), 3) := by decide +kernel
theorem d_MO_movesFrom_43 : decode b_MO_movesFrom 43 = .ok (.iconst 0, 1) := by decide +kernel
theorem d_MO_movesFrom_44 : decode b_MO_movesFrom 44 = .ok (.istore 5, 2) := by decide +kernel
theorem d_MO_movesFrom_46 : decode b_MO_movesFrom 46 = .ok (.iload_n 3, 1) := by decide +kernel
theorem d_MO_movesFrom_47 : decode b_MO_movesFrom 47 = .ok (.iload 5, 2) := by decide +kernel
theorem d_MO_movesFrom_49 : decode b_MO_movesFrom 49 = .ok (.ifCond .ne (18), 3) := by decide +kernel
theorem d_MO_movesFrom_52 : decode b_MO_movesFrom 52 = .ok (.aload_n 0, 1) := by decide +kernel
theorem d_MO_movesFrom_53 : decode b_MO_movesFrom 53 = .ok (.iload_n 1, 1) := by decide +kernel
theorem d_MO_movesFrom_54 : decode b_MO_movesFrom 54 = .ok (.aload_n 0, 1) := by decide +kernel
theorem d_MO_movesFrom_55 : decode b_MO_movesFrom 55 = .ok (.iload_n 2, 1) := by decide +kernel
theorem d_MO_movesFrom_56 : decode b_MO_movesFrom 56 = .ok (.iload 4, 2) := by decide +kernel
theorem d_MO_movesFrom_58 : decode b_MO_movesFrom 58 = .ok (.invokevirtual 104, 3) := by decide +kernel
theorem d_MO_movesFrom_61 : decode b_MO_movesFrom 61 = .ok (.invokevirtual 121, 3) := by decide +kernel
theorem d_MO_movesFrom_64 : decode b_MO_movesFrom 64 = .ok (.ifCond .eq (7), 3) := by decide +kernel
theorem d_MO_movesFrom_67 : decode b_MO_movesFrom 67 = .ok (.iconst 0, 1) := by decide +kernel
theorem d_MO_movesFrom_68 : decode b_MO_movesFrom 68 = .ok (.goto (4), 3) := by decide +kernel
theorem d_MO_movesFrom_71 : decode b_MO_movesFrom 71 = .ok (.iconst 1, 1) := by decide +kernel
theorem d_MO_movesFrom_72 : decode b_MO_movesFrom 72 = .ok (.iadd, 1) := by decide +kernel
theorem d_MO_movesFrom_73 : decode b_MO_movesFrom 73 = .ok (.istore_n 3, 1) := by decide +kernel
theorem d_MO_movesFrom_74 : decode b_MO_movesFrom 74 = .ok (.iload_n 3, 1) := by decide +kernel
theorem d_MO_movesFrom_75 : decode b_MO_movesFrom 75 = .ok (.aload_n 0, 1) := by decide +kernel
theorem d_MO_movesFrom_76 : decode b_MO_movesFrom 76 = .ok (.iload_n 1, 1) := by decide +kernel
theorem d_MO_movesFrom_77 : decode b_MO_movesFrom 77 = .ok (.aload_n 0, 1) := by decide +kernel
theorem d_MO_movesFrom_78 : decode b_MO_movesFrom 78 = .ok (.iload_n 2, 1) := by decide +kernel
theorem d_MO_movesFrom_79 : decode b_MO_movesFrom 79 = .ok (.iload 4, 2) := by decide +kernel
theorem d_MO_movesFrom_81 : decode b_MO_movesFrom 81 = .ok (.invokevirtual 107, 3) := by decide +kernel
theorem d_MO_movesFrom_84 : decode b_MO_movesFrom 84 = .ok (.invokevirtual 121, 3) := by decide +kernel
theorem d_MO_movesFrom_87 : decode b_MO_movesFrom 87 = .ok (.ifCond .eq (7), 3) := by decide +kernel
theorem d_MO_movesFrom_90 : decode b_MO_movesFrom 90 = .ok (.iconst 0, 1) := by decide +kernel
theorem d_MO_movesFrom_91 : decode b_MO_movesFrom 91 = .ok (.goto (4), 3) := by decide +kernel
theorem d_MO_movesFrom_94 : decode b_MO_movesFrom 94 = .ok (.iconst 1, 1) := by decide +kernel
theorem d_MO_movesFrom_95 : decode b_MO_movesFrom 95 = .ok (.iadd, 1) := by decide +kernel
theorem d_MO_movesFrom_96 : decode b_MO_movesFrom 96 = .ok (.istore_n 3, 1) := by decide +kernel
theorem d_MO_movesFrom_97 : decode b_MO_movesFrom 97 = .ok (.iinc 4 1, 3) := by decide +kernel
theorem d_MO_movesFrom_100 : decode b_MO_movesFrom 100 = .ok (.goto (-95), 3) := by decide +kernel
theorem d_MO_movesFrom_103 : decode b_MO_movesFrom 103 = .ok (.iload_n 3, 1) := by decide +kernel
theorem d_MO_movesFrom_104 : decode b_MO_movesFrom 104 = .ok (.ireturn, 1) := by decide +kernel
theorem d_MO_moves_0 : decode b_MO_moves 0 = .ok (.aload_n 0, 1) := by decide +kernel
theorem d_MO_moves_1 : decode b_MO_moves 1 = .ok (.aload_n 0, 1) := by decide +kernel
theorem d_MO_moves_2 : decode b_MO_moves 2 = .ok (.iload_n 1, 1) := by decide +kernel
theorem d_MO_moves_3 : decode b_MO_moves 3 = .ok (.invokevirtual 110, 3) := by decide +kernel
theorem d_MO_moves_6 : decode b_MO_moves 6 = .ok (.ifCond .eq (11), 3) := by decide +kernel
theorem d_MO_moves_9 : decode b_MO_moves 9 = .ok (.aload_n 0, 1) := by decide +kernel
theorem d_MO_moves_10 : decode b_MO_moves 10 = .ok (.iload_n 2, 1) := by decide +kernel
theorem d_MO_moves_11 : decode b_MO_moves 11 = .ok (.invokevirtual 110, 3) := by decide +kernel
theorem d_MO_moves_14 : decode b_MO_moves 14 = .ok (.ifCond .ne (7), 3) := by decide +kernel
theorem d_MO_moves_17 : decode b_MO_moves 17 = .ok (.iconst 1, 1) := by decide +kernel
theorem d_MO_moves_18 : decode b_MO_moves 18 = .ok (.goto (4), 3) := by decide +kernel
theorem d_MO_moves_21 : decode b_MO_moves 21 = .ok (.iconst 0, 1) := by decide +kernel
theorem d_MO_moves_22 : decode b_MO_moves 22 = .ok (.iconst 0, 1) := by decide +kernel
theorem d_MO_moves_23 : decode b_MO_moves 23 = .ok (.invokevirtual 73, 3) := by decide +kernel
theorem d_MO_moves_26 : decode b_MO_moves 26 = .ok (.ifCond .eq (5), 3) := by decide +kernel
theorem d_MO_moves_29 : decode b_MO_moves 29 = .ok (.iconst 0, 1) := by decide +kernel
theorem d_MO_moves_30 : decode b_MO_moves 30 = .ok (.ireturn, 1) := by decide +kernel
theorem d_MO_moves_31 : decode b_MO_moves 31 = .ok (.aload_n 0, 1) := by decide +kernel
theorem d_MO_moves_32 : decode b_MO_moves 32 = .ok (.iload_n 1, 1) := by decide +kernel
theorem d_MO_moves_33 : decode b_MO_moves 33 = .ok (.iload_n 2, 1) := by decide +kernel
theorem d_MO_moves_34 : decode b_MO_moves 34 = .ok (.invokevirtual 125, 3) := by decide +kernel
theorem d_MO_moves_37 : decode b_MO_moves 37 = .ok (.ireturn, 1) := by decide +kernel
theorem d_MO_plan_0 : decode b_MO_plan 0 = .ok (.iconst 0, 1) := by decide +kernel
theorem d_MO_plan_1 : decode b_MO_plan 1 = .ok (.istore_n 1, 1) := by decide +kernel
theorem d_MO_plan_2 : decode b_MO_plan 2 = .ok (.iload_n 1, 1) := by decide +kernel
theorem d_MO_plan_3 : decode b_MO_plan 3 = .ok (.aload_n 0, 1) := by decide +kernel
theorem d_MO_plan_4 : decode b_MO_plan 4 = .ok (.getfield 97, 3) := by decide +kernel
theorem d_MO_plan_7 : decode b_MO_plan 7 = .ok (.if_icmp .ge (42), 3) := by decide +kernel
theorem d_MO_plan_10 : decode b_MO_plan 10 = .ok (.iconst 0, 1) := by decide +kernel
theorem d_MO_plan_11 : decode b_MO_plan 11 = .ok (.istore_n 2, 1) := by decide +kernel
theorem d_MO_plan_12 : decode b_MO_plan 12 = .ok (.iload_n 2, 1) := by decide +kernel
theorem d_MO_plan_13 : decode b_MO_plan 13 = .ok (.aload_n 0, 1) := by decide +kernel
theorem d_MO_plan_14 : decode b_MO_plan 14 = .ok (.getfield 97, 3) := by decide +kernel
theorem d_MO_plan_17 : decode b_MO_plan 17 = .ok (.if_icmp .ge (26), 3) := by decide +kernel
theorem d_MO_plan_20 : decode b_MO_plan 20 = .ok (.aload_n 0, 1) := by decide +kernel
theorem d_MO_plan_21 : decode b_MO_plan 21 = .ok (.getfield 62, 3) := by decide +kernel
theorem d_MO_plan_24 : decode b_MO_plan 24 = .ok (.bipush 9, 2) := by decide +kernel
theorem d_MO_plan_26 : decode b_MO_plan 26 = .ok (.iload_n 1, 1) := by decide +kernel
theorem d_MO_plan_27 : decode b_MO_plan 27 = .ok (.imul, 1) := by decide +kernel
theorem d_MO_plan_28 : decode b_MO_plan 28 = .ok (.iload_n 2, 1) := by decide +kernel
theorem d_MO_plan_29 : decode b_MO_plan 29 = .ok (.iadd, 1) := by decide +kernel
theorem d_MO_plan_30 : decode b_MO_plan 30 = .ok (.aload_n 0, 1) := by decide +kernel
theorem d_MO_plan_31 : decode b_MO_plan 31 = .ok (.iload_n 1, 1) := by decide +kernel
theorem d_MO_plan_32 : decode b_MO_plan 32 = .ok (.iload_n 2, 1) := by decide +kernel
theorem d_MO_plan_33 : decode b_MO_plan 33 = .ok (.invokevirtual 125, 3) := by decide +kernel
theorem d_MO_plan_36 : decode b_MO_plan 36 = .ok (.iastore, 1) := by decide +kernel
theorem d_MO_plan_37 : decode b_MO_plan 37 = .ok (.iinc 2 1, 3) := by decide +kernel
theorem d_MO_plan_40 : decode b_MO_plan 40 = .ok (.goto (-28), 3) := by decide +kernel
theorem d_MO_plan_43 : decode b_MO_plan 43 = .ok (.iinc 1 1, 3) := by decide +kernel
theorem d_MO_plan_46 : decode b_MO_plan 46 = .ok (.goto (-44), 3) := by decide +kernel
theorem d_MO_plan_49 : decode b_MO_plan 49 = .ok (.iconst 1, 1) := by decide +kernel
theorem d_MO_plan_50 : decode b_MO_plan 50 = .ok (.aload_n 0, 1) := by decide +kernel
theorem d_MO_plan_51 : decode b_MO_plan 51 = .ok (.getfield 97, 3) := by decide +kernel
theorem d_MO_plan_54 : decode b_MO_plan 54 = .ok (.ishl, 1) := by decide +kernel
theorem d_MO_plan_55 : decode b_MO_plan 55 = .ok (.iconst 1, 1) := by decide +kernel
theorem d_MO_plan_56 : decode b_MO_plan 56 = .ok (.isub, 1) := by decide +kernel
theorem d_MO_plan_57 : decode b_MO_plan 57 = .ok (.istore_n 1, 1) := by decide +kernel
theorem d_MO_plan_58 : decode b_MO_plan 58 = .ok (.iload_n 1, 1) := by decide +kernel
theorem d_MO_plan_59 : decode b_MO_plan 59 = .ok (.istore_n 2, 1) := by decide +kernel
theorem d_MO_plan_60 : decode b_MO_plan 60 = .ok (.iload_n 2, 1) := by decide +kernel
theorem d_MO_plan_61 : decode b_MO_plan 61 = .ok (.ifCond .le (151), 3) := by decide +kernel
theorem d_MO_plan_64 : decode b_MO_plan 64 = .ok (.iconst 0, 1) := by decide +kernel
theorem d_MO_plan_65 : decode b_MO_plan 65 = .ok (.istore_n 3, 1) := by decide +kernel
theorem d_MO_plan_66 : decode b_MO_plan 66 = .ok (.iload_n 3, 1) := by decide +kernel
theorem d_MO_plan_67 : decode b_MO_plan 67 = .ok (.aload_n 0, 1) := by decide +kernel
theorem d_MO_plan_68 : decode b_MO_plan 68 = .ok (.getfield 97, 3) := by decide +kernel
theorem d_MO_plan_71 : decode b_MO_plan 71 = .ok (.if_icmp .ge (135), 3) := by decide +kernel
theorem d_MO_plan_74 : decode b_MO_plan 74 = .ok (.iconst (-1), 1) := by decide +kernel
theorem d_MO_plan_75 : decode b_MO_plan 75 = .ok (.istore 4, 2) := by decide +kernel
theorem d_MO_plan_77 : decode b_MO_plan 77 = .ok (.iconst 0, 1) := by decide +kernel
theorem d_MO_plan_78 : decode b_MO_plan 78 = .ok (.istore 5, 2) := by decide +kernel
theorem d_MO_plan_80 : decode b_MO_plan 80 = .ok (.iload 5, 2) := by decide +kernel
theorem d_MO_plan_82 : decode b_MO_plan 82 = .ok (.aload_n 0, 1) := by decide +kernel
theorem d_MO_plan_83 : decode b_MO_plan 83 = .ok (.getfield 97, 3) := by decide +kernel
theorem d_MO_plan_86 : decode b_MO_plan 86 = .ok (.if_icmp .ge (92), 3) := by decide +kernel
theorem d_MO_plan_89 : decode b_MO_plan 89 = .ok (.iload_n 2, 1) := by decide +kernel
theorem d_MO_plan_90 : decode b_MO_plan 90 = .ok (.iload 5, 2) := by decide +kernel
theorem d_MO_plan_92 : decode b_MO_plan 92 = .ok (.ishr, 1) := by decide +kernel
theorem d_MO_plan_93 : decode b_MO_plan 93 = .ok (.iconst 1, 1) := by decide +kernel
theorem d_MO_plan_94 : decode b_MO_plan 94 = .ok (.iand, 1) := by decide +kernel
theorem d_MO_plan_95 : decode b_MO_plan 95 = .ok (.ifCond .ne (7), 3) := by decide +kernel
theorem d_MO_plan_98 : decode b_MO_plan 98 = .ok (.iconst 1, 1) := by decide +kernel
theorem d_MO_plan_99 : decode b_MO_plan 99 = .ok (.goto (4), 3) := by decide +kernel
theorem d_MO_plan_102 : decode b_MO_plan 102 = .ok (.iconst 0, 1) := by decide +kernel
theorem d_MO_plan_103 : decode b_MO_plan 103 = .ok (.istore 6, 2) := by decide +kernel
theorem d_MO_plan_105 : decode b_MO_plan 105 = .ok (.iload 6, 2) := by decide +kernel
theorem d_MO_plan_107 : decode b_MO_plan 107 = .ok (.ifCond .eq (36), 3) := by decide +kernel
theorem d_MO_plan_110 : decode b_MO_plan 110 = .ok (.aload_n 0, 1) := by decide +kernel
theorem d_MO_plan_111 : decode b_MO_plan 111 = .ok (.getfield 62, 3) := by decide +kernel
theorem d_MO_plan_114 : decode b_MO_plan 114 = .ok (.bipush 9, 2) := by decide +kernel
theorem d_MO_plan_116 : decode b_MO_plan 116 = .ok (.iload_n 3, 1) := by decide +kernel
theorem d_MO_plan_117 : decode b_MO_plan 117 = .ok (.imul, 1) := by decide +kernel
theorem d_MO_plan_118 : decode b_MO_plan 118 = .ok (.iload 5, 2) := by decide +kernel
theorem d_MO_plan_120 : decode b_MO_plan 120 = .ok (.iadd, 1) := by decide +kernel
theorem d_MO_plan_121 : decode b_MO_plan 121 = .ok (.iaload, 1) := by decide +kernel
theorem d_MO_plan_122 : decode b_MO_plan 122 = .ok (.aload_n 0, 1) := by decide +kernel
theorem d_MO_plan_123 : decode b_MO_plan 123 = .ok (.getfield 59, 3) := by decide +kernel
theorem d_MO_plan_126 : decode b_MO_plan 126 = .ok (.bipush 9, 2) := by decide +kernel
theorem d_MO_plan_128 : decode b_MO_plan 128 = .ok (.iload_n 2, 1) := by decide +kernel
theorem d_MO_plan_129 : decode b_MO_plan 129 = .ok (.iconst 1, 1) := by decide +kernel
theorem d_MO_plan_130 : decode b_MO_plan 130 = .ok (.iload 5, 2) := by decide +kernel
theorem d_MO_plan_132 : decode b_MO_plan 132 = .ok (.ishl, 1) := by decide +kernel
theorem d_MO_plan_133 : decode b_MO_plan 133 = .ok (.ior, 1) := by decide +kernel
theorem d_MO_plan_134 : decode b_MO_plan 134 = .ok (.imul, 1) := by decide +kernel
theorem d_MO_plan_135 : decode b_MO_plan 135 = .ok (.iload 5, 2) := by decide +kernel
theorem d_MO_plan_137 : decode b_MO_plan 137 = .ok (.iadd, 1) := by decide +kernel
theorem d_MO_plan_138 : decode b_MO_plan 138 = .ok (.iaload, 1) := by decide +kernel
theorem d_MO_plan_139 : decode b_MO_plan 139 = .ok (.iadd, 1) := by decide +kernel
theorem d_MO_plan_140 : decode b_MO_plan 140 = .ok (.goto (4), 3) := by decide +kernel
theorem d_MO_plan_143 : decode b_MO_plan 143 = .ok (.iconst 0, 1) := by decide +kernel
theorem d_MO_plan_144 : decode b_MO_plan 144 = .ok (.istore 7, 2) := by decide +kernel
theorem d_MO_plan_146 : decode b_MO_plan 146 = .ok (.iload 6, 2) := by decide +kernel
theorem d_MO_plan_148 : decode b_MO_plan 148 = .ok (.ifCond .eq (20), 3) := by decide +kernel
theorem d_MO_plan_151 : decode b_MO_plan 151 = .ok (.iload 4, 2) := by decide +kernel
theorem d_MO_plan_153 : decode b_MO_plan 153 = .ok (.ifCond .lt (10), 3) := by decide +kernel
theorem d_MO_plan_156 : decode b_MO_plan 156 = .ok (.iload 7, 2) := by decide +kernel
theorem d_MO_plan_158 : decode b_MO_plan 158 = .ok (.iload 4, 2) := by decide +kernel
theorem d_MO_plan_160 : decode b_MO_plan 160 = .ok (.if_icmp .ge (8), 3) := by decide +kernel
theorem d_MO_plan_163 : decode b_MO_plan 163 = .ok (.iload 7, 2) := by decide +kernel
theorem d_MO_plan_165 : decode b_MO_plan 165 = .ok (.goto (5), 3) := by decide +kernel
theorem d_MO_plan_168 : decode b_MO_plan 168 = .ok (.iload 4, 2) := by decide +kernel
theorem d_MO_plan_170 : decode b_MO_plan 170 = .ok (.istore 4, 2) := by decide +kernel
theorem d_MO_plan_172 : decode b_MO_plan 172 = .ok (.iinc 5 1, 3) := by decide +kernel
theorem d_MO_plan_175 : decode b_MO_plan 175 = .ok (.goto (-95), 3) := by decide +kernel
theorem d_MO_plan_178 : decode b_MO_plan 178 = .ok (.aload_n 0, 1) := by decide +kernel
theorem d_MO_plan_179 : decode b_MO_plan 179 = .ok (.getfield 59, 3) := by decide +kernel
theorem d_MO_plan_182 : decode b_MO_plan 182 = .ok (.bipush 9, 2) := by decide +kernel
theorem d_MO_plan_184 : decode b_MO_plan 184 = .ok (.iload_n 2, 1) := by decide +kernel
theorem d_MO_plan_185 : decode b_MO_plan 185 = .ok (.imul, 1) := by decide +kernel
theorem d_MO_plan_186 : decode b_MO_plan 186 = .ok (.iload_n 3, 1) := by decide +kernel
theorem d_MO_plan_187 : decode b_MO_plan 187 = .ok (.iadd, 1) := by decide +kernel
theorem d_MO_plan_188 : decode b_MO_plan 188 = .ok (.iload 4, 2) := by decide +kernel
theorem d_MO_plan_190 : decode b_MO_plan 190 = .ok (.ifCond .ge (7), 3) := by decide +kernel
theorem d_MO_plan_193 : decode b_MO_plan 193 = .ok (.iconst 0, 1) := by decide +kernel
theorem d_MO_plan_194 : decode b_MO_plan 194 = .ok (.goto (5), 3) := by decide +kernel
theorem d_MO_plan_197 : decode b_MO_plan 197 = .ok (.iload 4, 2) := by decide +kernel
theorem d_MO_plan_199 : decode b_MO_plan 199 = .ok (.iastore, 1) := by decide +kernel
theorem d_MO_plan_200 : decode b_MO_plan 200 = .ok (.iinc 3 1, 3) := by decide +kernel
theorem d_MO_plan_203 : decode b_MO_plan 203 = .ok (.goto (-137), 3) := by decide +kernel
theorem d_MO_plan_206 : decode b_MO_plan 206 = .ok (.iinc 2 (-1), 3) := by decide +kernel
theorem d_MO_plan_209 : decode b_MO_plan 209 = .ok (.goto (-149), 3) := by decide +kernel
theorem d_MO_plan_212 : decode b_MO_plan 212 = .ok (.iconst 0, 1) := by decide +kernel
theorem d_MO_plan_213 : decode b_MO_plan 213 = .ok (.istore_n 2, 1) := by decide +kernel
theorem d_MO_plan_214 : decode b_MO_plan 214 = .ok (.iconst 0, 1) := by decide +kernel
theorem d_MO_plan_215 : decode b_MO_plan 215 = .ok (.istore_n 3, 1) := by decide +kernel
theorem d_MO_plan_216 : decode b_MO_plan 216 = .ok (.iload_n 3, 1) := by decide +kernel
theorem d_MO_plan_217 : decode b_MO_plan 217 = .ok (.aload_n 0, 1) := by decide +kernel
theorem d_MO_plan_218 : decode b_MO_plan 218 = .ok (.getfield 97, 3) := by decide +kernel
theorem d_MO_plan_221 : decode b_MO_plan 221 = .ok (.if_icmp .ge (48), 3) := by decide +kernel
theorem d_MO_plan_224 : decode b_MO_plan 224 = .ok (.iload_n 3, 1) := by decide +kernel
theorem d_MO_plan_225 : decode b_MO_plan 225 = .ok (.ifCond .eq (20), 3) := by decide +kernel
theorem d_MO_plan_228 : decode b_MO_plan 228 = .ok (.aload_n 0, 1) := by decide +kernel
theorem d_MO_plan_229 : decode b_MO_plan 229 = .ok (.getfield 59, 3) := by decide +kernel
theorem d_MO_plan_232 : decode b_MO_plan 232 = .ok (.bipush 9, 2) := by decide +kernel
theorem d_MO_plan_234 : decode b_MO_plan 234 = .ok (.iconst 1, 1) := by decide +kernel
theorem d_MO_plan_235 : decode b_MO_plan 235 = .ok (.iload_n 3, 1) := by decide +kernel
theorem d_MO_plan_236 : decode b_MO_plan 236 = .ok (.ishl, 1) := by decide +kernel
theorem d_MO_plan_237 : decode b_MO_plan 237 = .ok (.imul, 1) := by decide +kernel
theorem d_MO_plan_238 : decode b_MO_plan 238 = .ok (.iload_n 3, 1) := by decide +kernel
theorem d_MO_plan_239 : decode b_MO_plan 239 = .ok (.iadd, 1) := by decide +kernel
theorem d_MO_plan_240 : decode b_MO_plan 240 = .ok (.iaload, 1) := by decide +kernel
theorem d_MO_plan_241 : decode b_MO_plan 241 = .ok (.iload_n 2, 1) := by decide +kernel
theorem d_MO_plan_242 : decode b_MO_plan 242 = .ok (.if_icmp .ge (19), 3) := by decide +kernel
theorem d_MO_plan_245 : decode b_MO_plan 245 = .ok (.aload_n 0, 1) := by decide +kernel
theorem d_MO_plan_246 : decode b_MO_plan 246 = .ok (.getfield 59, 3) := by decide +kernel
theorem d_MO_plan_249 : decode b_MO_plan 249 = .ok (.bipush 9, 2) := by decide +kernel
theorem d_MO_plan_251 : decode b_MO_plan 251 = .ok (.iconst 1, 1) := by decide +kernel
theorem d_MO_plan_252 : decode b_MO_plan 252 = .ok (.iload_n 3, 1) := by decide +kernel
theorem d_MO_plan_253 : decode b_MO_plan 253 = .ok (.ishl, 1) := by decide +kernel
theorem d_MO_plan_254 : decode b_MO_plan 254 = .ok (.imul, 1) := by decide +kernel
theorem d_MO_plan_255 : decode b_MO_plan 255 = .ok (.iload_n 3, 1) := by decide +kernel
theorem d_MO_plan_256 : decode b_MO_plan 256 = .ok (.iadd, 1) := by decide +kernel
theorem d_MO_plan_257 : decode b_MO_plan 257 = .ok (.iaload, 1) := by decide +kernel
theorem d_MO_plan_258 : decode b_MO_plan 258 = .ok (.goto (4), 3) := by decide +kernel
theorem d_MO_plan_261 : decode b_MO_plan 261 = .ok (.iload_n 2, 1) := by decide +kernel
theorem d_MO_plan_262 : decode b_MO_plan 262 = .ok (.istore_n 2, 1) := by decide +kernel
theorem d_MO_plan_263 : decode b_MO_plan 263 = .ok (.iinc 3 1, 3) := by decide +kernel
theorem d_MO_plan_266 : decode b_MO_plan 266 = .ok (.goto (-50), 3) := by decide +kernel
theorem d_MO_plan_269 : decode b_MO_plan 269 = .ok (.iload_n 2, 1) := by decide +kernel
theorem d_MO_plan_270 : decode b_MO_plan 270 = .ok (.ireturn, 1) := by decide +kernel
theorem d_MO_order_0 : decode b_MO_order 0 = .ok (.aload_n 0, 1) := by decide +kernel
theorem d_MO_order_1 : decode b_MO_order 1 = .ok (.iconst 0, 1) := by decide +kernel
theorem d_MO_order_2 : decode b_MO_order 2 = .ok (.putfield 65, 3) := by decide +kernel
theorem d_MO_order_5 : decode b_MO_order 5 = .ok (.aload_n 0, 1) := by decide +kernel
theorem d_MO_order_6 : decode b_MO_order 6 = .ok (.invokevirtual 128, 3) := by decide +kernel
theorem d_MO_order_9 : decode b_MO_order 9 = .ok (.ireturn, 1) := by decide +kernel
theorem d_MO_ordered_0 : decode b_MO_ordered 0 = .ok (.aload_n 0, 1) := by decide +kernel
theorem d_MO_ordered_1 : decode b_MO_ordered 1 = .ok (.iload_n 1, 1) := by decide +kernel
theorem d_MO_ordered_2 : decode b_MO_ordered 2 = .ok (.ifCond .ge (7), 3) := by decide +kernel
theorem d_MO_ordered_5 : decode b_MO_ordered 5 = .ok (.iconst 1, 1) := by decide +kernel
theorem d_MO_ordered_6 : decode b_MO_ordered 6 = .ok (.goto (4), 3) := by decide +kernel
theorem d_MO_ordered_9 : decode b_MO_ordered 9 = .ok (.iconst 0, 1) := by decide +kernel
theorem d_MO_ordered_10 : decode b_MO_ordered 10 = .ok (.iconst 0, 1) := by decide +kernel
theorem d_MO_ordered_11 : decode b_MO_ordered 11 = .ok (.invokevirtual 73, 3) := by decide +kernel
theorem d_MO_ordered_14 : decode b_MO_ordered 14 = .ok (.ifCond .eq (5), 3) := by decide +kernel
theorem d_MO_ordered_17 : decode b_MO_ordered 17 = .ok (.iconst 0, 1) := by decide +kernel
theorem d_MO_ordered_18 : decode b_MO_ordered 18 = .ok (.ireturn, 1) := by decide +kernel
theorem d_MO_ordered_19 : decode b_MO_ordered 19 = .ok (.iload_n 1, 1) := by decide +kernel
theorem d_MO_ordered_20 : decode b_MO_ordered 20 = .ok (.aload_n 0, 1) := by decide +kernel
theorem d_MO_ordered_21 : decode b_MO_ordered 21 = .ok (.getfield 97, 3) := by decide +kernel
theorem d_MO_ordered_24 : decode b_MO_ordered 24 = .ok (.if_icmp .lt (5), 3) := by decide +kernel
theorem d_MO_ordered_27 : decode b_MO_ordered 27 = .ok (.iconst (-1), 1) := by decide +kernel
theorem d_MO_ordered_28 : decode b_MO_ordered 28 = .ok (.ireturn, 1) := by decide +kernel
theorem d_MO_ordered_29 : decode b_MO_ordered 29 = .ok (.aload_n 0, 1) := by decide +kernel
theorem d_MO_ordered_30 : decode b_MO_ordered 30 = .ok (.invokevirtual 128, 3) := by decide +kernel
theorem d_MO_ordered_33 : decode b_MO_ordered 33 = .ok (.istore_n 2, 1) := by decide +kernel
theorem d_MO_ordered_34 : decode b_MO_ordered 34 = .ok (.iconst 0, 1) := by decide +kernel
theorem d_MO_ordered_35 : decode b_MO_ordered 35 = .ok (.istore_n 3, 1) := by decide +kernel
theorem d_MO_ordered_36 : decode b_MO_ordered 36 = .ok (.iconst (-1), 1) := by decide +kernel
theorem d_MO_ordered_37 : decode b_MO_ordered 37 = .ok (.istore 4, 2) := by decide +kernel
theorem d_MO_ordered_39 : decode b_MO_ordered 39 = .ok (.iconst 0, 1) := by decide +kernel
theorem d_MO_ordered_40 : decode b_MO_ordered 40 = .ok (.istore 5, 2) := by decide +kernel
theorem d_MO_ordered_42 : decode b_MO_ordered 42 = .ok (.iload 5, 2) := by decide +kernel
theorem d_MO_ordered_44 : decode b_MO_ordered 44 = .ok (.iload_n 1, 1) := by decide +kernel
theorem d_MO_ordered_45 : decode b_MO_ordered 45 = .ok (.if_icmp .gt (133), 3) := by decide +kernel
theorem d_MO_ordered_48 : decode b_MO_ordered 48 = .ok (.iconst (-1), 1) := by decide +kernel
theorem d_MO_ordered_49 : decode b_MO_ordered 49 = .ok (.istore 6, 2) := by decide +kernel
theorem d_MO_ordered_51 : decode b_MO_ordered 51 = .ok (.aload_n 0, 1) := by decide +kernel
theorem d_MO_ordered_52 : decode b_MO_ordered 52 = .ok (.getfield 97, 3) := by decide +kernel
theorem d_MO_ordered_55 : decode b_MO_ordered 55 = .ok (.iconst 1, 1) := by decide +kernel
theorem d_MO_ordered_56 : decode b_MO_ordered 56 = .ok (.isub, 1) := by decide +kernel
theorem d_MO_ordered_57 : decode b_MO_ordered 57 = .ok (.istore 7, 2) := by decide +kernel
theorem d_MO_ordered_59 : decode b_MO_ordered 59 = .ok (.iload 7, 2) := by decide +kernel
theorem d_MO_ordered_61 : decode b_MO_ordered 61 = .ok (.ifCond .lt (75), 3) := by decide +kernel
theorem d_MO_ordered_64 : decode b_MO_ordered 64 = .ok (.iload 4, 2) := by decide +kernel
theorem d_MO_ordered_66 : decode b_MO_ordered 66 = .ok (.ifCond .ge (7), 3) := by decide +kernel
theorem d_MO_ordered_69 : decode b_MO_ordered 69 = .ok (.iconst 0, 1) := by decide +kernel
theorem d_MO_ordered_70 : decode b_MO_ordered 70 = .ok (.goto (16), 3) := by decide +kernel
theorem d_MO_ordered_73 : decode b_MO_ordered 73 = .ok (.aload_n 0, 1) := by decide +kernel
theorem d_MO_ordered_74 : decode b_MO_ordered 74 = .ok (.getfield 62, 3) := by decide +kernel
theorem d_MO_ordered_77 : decode b_MO_ordered 77 = .ok (.bipush 9, 2) := by decide +kernel
theorem d_MO_ordered_79 : decode b_MO_ordered 79 = .ok (.iload 4, 2) := by decide +kernel
theorem d_MO_ordered_81 : decode b_MO_ordered 81 = .ok (.imul, 1) := by decide +kernel
theorem d_MO_ordered_82 : decode b_MO_ordered 82 = .ok (.iload 7, 2) := by decide +kernel
theorem d_MO_ordered_84 : decode b_MO_ordered 84 = .ok (.iadd, 1) := by decide +kernel
theorem d_MO_ordered_85 : decode b_MO_ordered 85 = .ok (.iaload, 1) := by decide +kernel
theorem d_MO_ordered_86 : decode b_MO_ordered 86 = .ok (.aload_n 0, 1) := by decide +kernel
theorem d_MO_ordered_87 : decode b_MO_ordered 87 = .ok (.getfield 59, 3) := by decide +kernel
theorem d_MO_ordered_90 : decode b_MO_ordered 90 = .ok (.bipush 9, 2) := by decide +kernel
theorem d_MO_ordered_92 : decode b_MO_ordered 92 = .ok (.iload_n 3, 1) := by decide +kernel
theorem d_MO_ordered_93 : decode b_MO_ordered 93 = .ok (.iconst 1, 1) := by decide +kernel
theorem d_MO_ordered_94 : decode b_MO_ordered 94 = .ok (.iload 7, 2) := by decide +kernel
theorem d_MO_ordered_96 : decode b_MO_ordered 96 = .ok (.ishl, 1) := by decide +kernel
theorem d_MO_ordered_97 : decode b_MO_ordered 97 = .ok (.ior, 1) := by decide +kernel
theorem d_MO_ordered_98 : decode b_MO_ordered 98 = .ok (.imul, 1) := by decide +kernel
theorem d_MO_ordered_99 : decode b_MO_ordered 99 = .ok (.iload 7, 2) := by decide +kernel
theorem d_MO_ordered_101 : decode b_MO_ordered 101 = .ok (.iadd, 1) := by decide +kernel
theorem d_MO_ordered_102 : decode b_MO_ordered 102 = .ok (.iaload, 1) := by decide +kernel
theorem d_MO_ordered_103 : decode b_MO_ordered 103 = .ok (.iadd, 1) := by decide +kernel
theorem d_MO_ordered_104 : decode b_MO_ordered 104 = .ok (.istore 8, 2) := by decide +kernel
theorem d_MO_ordered_106 : decode b_MO_ordered 106 = .ok (.iload_n 3, 1) := by decide +kernel
theorem d_MO_ordered_107 : decode b_MO_ordered 107 = .ok (.iload 7, 2) := by decide +kernel
theorem d_MO_ordered_109 : decode b_MO_ordered 109 = .ok (.ishr, 1) := by decide +kernel
theorem d_MO_ordered_110 : decode b_MO_ordered 110 = .ok (.iconst 1, 1) := by decide +kernel
theorem d_MO_ordered_111 : decode b_MO_ordered 111 = .ok (.iand, 1) := by decide +kernel
theorem d_MO_ordered_112 : decode b_MO_ordered 112 = .ok (.ifCond .ne (14), 3) := by decide +kernel
theorem d_MO_ordered_115 : decode b_MO_ordered 115 = .ok (.iload 8, 2) := by decide +kernel
theorem d_MO_ordered_117 : decode b_MO_ordered 117 = .ok (.iload_n 2, 1) := by decide +kernel
theorem d_MO_ordered_118 : decode b_MO_ordered 118 = .ok (.if_icmp .ne (8), 3) := by decide +kernel
theorem d_MO_ordered_121 : decode b_MO_ordered 121 = .ok (.iload 7, 2) := by decide +kernel
theorem d_MO_ordered_123 : decode b_MO_ordered 123 = .ok (.goto (5), 3) := by decide +kernel
theorem d_MO_ordered_126 : decode b_MO_ordered 126 = .ok (.iload 6, 2) := by decide +kernel
theorem d_MO_ordered_128 : decode b_MO_ordered 128 = .ok (.istore 6, 2) := by decide +kernel
theorem d_MO_ordered_130 : decode b_MO_ordered 130 = .ok (.iinc 7 (-1), 3) := by decide +kernel
theorem d_MO_ordered_133 : decode b_MO_ordered 133 = .ok (.goto (-74), 3) := by decide +kernel
theorem d_MO_ordered_136 : decode b_MO_ordered 136 = .ok (.iload_n 2, 1) := by decide +kernel
theorem d_MO_ordered_137 : decode b_MO_ordered 137 = .ok (.iload 4, 2) := by decide +kernel
theorem d_MO_ordered_139 : decode b_MO_ordered 139 = .ok (.ifCond .ge (7), 3) := by decide +kernel
theorem d_MO_ordered_142 : decode b_MO_ordered 142 = .ok (.iconst 0, 1) := by decide +kernel
theorem d_MO_ordered_143 : decode b_MO_ordered 143 = .ok (.goto (16), 3) := by decide +kernel
theorem d_MO_ordered_146 : decode b_MO_ordered 146 = .ok (.aload_n 0, 1) := by decide +kernel
theorem d_MO_ordered_147 : decode b_MO_ordered 147 = .ok (.getfield 62, 3) := by decide +kernel
theorem d_MO_ordered_150 : decode b_MO_ordered 150 = .ok (.bipush 9, 2) := by decide +kernel
theorem d_MO_ordered_152 : decode b_MO_ordered 152 = .ok (.iload 4, 2) := by decide +kernel
theorem d_MO_ordered_154 : decode b_MO_ordered 154 = .ok (.imul, 1) := by decide +kernel
theorem d_MO_ordered_155 : decode b_MO_ordered 155 = .ok (.iload 6, 2) := by decide +kernel
theorem d_MO_ordered_157 : decode b_MO_ordered 157 = .ok (.iadd, 1) := by decide +kernel
theorem d_MO_ordered_158 : decode b_MO_ordered 158 = .ok (.iaload, 1) := by decide +kernel
theorem d_MO_ordered_159 : decode b_MO_ordered 159 = .ok (.isub, 1) := by decide +kernel
theorem d_MO_ordered_160 : decode b_MO_ordered 160 = .ok (.istore_n 2, 1) := by decide +kernel
theorem d_MO_ordered_161 : decode b_MO_ordered 161 = .ok (.iload 6, 2) := by decide +kernel
theorem d_MO_ordered_163 : decode b_MO_ordered 163 = .ok (.istore 4, 2) := by decide +kernel
theorem d_MO_ordered_165 : decode b_MO_ordered 165 = .ok (.iload_n 3, 1) := by decide +kernel
theorem d_MO_ordered_166 : decode b_MO_ordered 166 = .ok (.iconst 1, 1) := by decide +kernel
theorem d_MO_ordered_167 : decode b_MO_ordered 167 = .ok (.iload 6, 2) := by decide +kernel
theorem d_MO_ordered_169 : decode b_MO_ordered 169 = .ok (.ishl, 1) := by decide +kernel
theorem d_MO_ordered_170 : decode b_MO_ordered 170 = .ok (.ior, 1) := by decide +kernel
theorem d_MO_ordered_171 : decode b_MO_ordered 171 = .ok (.istore_n 3, 1) := by decide +kernel
theorem d_MO_ordered_172 : decode b_MO_ordered 172 = .ok (.iinc 5 1, 3) := by decide +kernel
theorem d_MO_ordered_175 : decode b_MO_ordered 175 = .ok (.goto (-133), 3) := by decide +kernel
theorem d_MO_ordered_178 : decode b_MO_ordered 178 = .ok (.iload 4, 2) := by decide +kernel
theorem d_MO_ordered_180 : decode b_MO_ordered 180 = .ok (.ireturn, 1) := by decide +kernel
theorem d_MO_defect_0 : decode b_MO_defect 0 = .ok (.aload_n 0, 1) := by decide +kernel
theorem d_MO_defect_1 : decode b_MO_defect 1 = .ok (.aload_n 0, 1) := by decide +kernel
theorem d_MO_defect_2 : decode b_MO_defect 2 = .ok (.getfield 131, 3) := by decide +kernel
theorem d_MO_defect_5 : decode b_MO_defect 5 = .ok (.bipush 10, 2) := by decide +kernel
theorem d_MO_defect_7 : decode b_MO_defect 7 = .ok (.if_icmp .ne (7), 3) := by decide +kernel
theorem d_MO_defect_10 : decode b_MO_defect 10 = .ok (.iconst 1, 1) := by decide +kernel
theorem d_MO_defect_11 : decode b_MO_defect 11 = .ok (.goto (4), 3) := by decide +kernel
theorem d_MO_defect_14 : decode b_MO_defect 14 = .ok (.iconst 0, 1) := by decide +kernel
theorem d_MO_defect_15 : decode b_MO_defect 15 = .ok (.iload_n 1, 1) := by decide +kernel
theorem d_MO_defect_16 : decode b_MO_defect 16 = .ok (.iconst 0, 1) := by decide +kernel
theorem d_MO_defect_17 : decode b_MO_defect 17 = .ok (.sipush 20000, 3) := by decide +kernel
theorem d_MO_defect_20 : decode b_MO_defect 20 = .ok (.invokestatic 68, 3) := by decide +kernel
theorem d_MO_defect_23 : decode b_MO_defect 23 = .ok (.ifCond .eq (19), 3) := by decide +kernel
theorem d_MO_defect_26 : decode b_MO_defect 26 = .ok (.iload_n 2, 1) := by decide +kernel
theorem d_MO_defect_27 : decode b_MO_defect 27 = .ok (.iconst 0, 1) := by decide +kernel
theorem d_MO_defect_28 : decode b_MO_defect 28 = .ok (.sipush 20000, 3) := by decide +kernel
theorem d_MO_defect_31 : decode b_MO_defect 31 = .ok (.invokestatic 68, 3) := by decide +kernel
theorem d_MO_defect_34 : decode b_MO_defect 34 = .ok (.ifCond .eq (8), 3) := by decide +kernel
theorem d_MO_defect_37 : decode b_MO_defect 37 = .ok (.iload_n 2, 1) := by decide +kernel
theorem d_MO_defect_38 : decode b_MO_defect 38 = .ok (.iload_n 1, 1) := by decide +kernel
theorem d_MO_defect_39 : decode b_MO_defect 39 = .ok (.if_icmp .gt (7), 3) := by decide +kernel
theorem d_MO_defect_42 : decode b_MO_defect 42 = .ok (.iconst 1, 1) := by decide +kernel
theorem d_MO_defect_43 : decode b_MO_defect 43 = .ok (.goto (4), 3) := by decide +kernel
theorem d_MO_defect_46 : decode b_MO_defect 46 = .ok (.iconst 0, 1) := by decide +kernel
theorem d_MO_defect_47 : decode b_MO_defect 47 = .ok (.invokevirtual 73, 3) := by decide +kernel
theorem d_MO_defect_50 : decode b_MO_defect 50 = .ok (.ifCond .eq (5), 3) := by decide +kernel
theorem d_MO_defect_53 : decode b_MO_defect 53 = .ok (.iconst 0, 1) := by decide +kernel
theorem d_MO_defect_54 : decode b_MO_defect 54 = .ok (.ireturn, 1) := by decide +kernel
theorem d_MO_defect_55 : decode b_MO_defect 55 = .ok (.aload_n 0, 1) := by decide +kernel
theorem d_MO_defect_56 : decode b_MO_defect 56 = .ok (.getfield 53, 3) := by decide +kernel
theorem d_MO_defect_59 : decode b_MO_defect 59 = .ok (.aload_n 0, 1) := by decide +kernel
theorem d_MO_defect_60 : decode b_MO_defect 60 = .ok (.getfield 131, 3) := by decide +kernel
theorem d_MO_defect_63 : decode b_MO_defect 63 = .ok (.iload_n 1, 1) := by decide +kernel
theorem d_MO_defect_64 : decode b_MO_defect 64 = .ok (.iastore, 1) := by decide +kernel
theorem d_MO_defect_65 : decode b_MO_defect 65 = .ok (.aload_n 0, 1) := by decide +kernel
theorem d_MO_defect_66 : decode b_MO_defect 66 = .ok (.getfield 56, 3) := by decide +kernel
theorem d_MO_defect_69 : decode b_MO_defect 69 = .ok (.aload_n 0, 1) := by decide +kernel
theorem d_MO_defect_70 : decode b_MO_defect 70 = .ok (.getfield 131, 3) := by decide +kernel
theorem d_MO_defect_73 : decode b_MO_defect 73 = .ok (.iload_n 2, 1) := by decide +kernel
theorem d_MO_defect_74 : decode b_MO_defect 74 = .ok (.iastore, 1) := by decide +kernel
theorem d_MO_defect_75 : decode b_MO_defect 75 = .ok (.aload_n 0, 1) := by decide +kernel
theorem d_MO_defect_76 : decode b_MO_defect 76 = .ok (.dup, 1) := by decide +kernel
theorem d_MO_defect_77 : decode b_MO_defect 77 = .ok (.getfield 131, 3) := by decide +kernel
theorem d_MO_defect_80 : decode b_MO_defect 80 = .ok (.iconst 1, 1) := by decide +kernel
theorem d_MO_defect_81 : decode b_MO_defect 81 = .ok (.iadd, 1) := by decide +kernel
theorem d_MO_defect_82 : decode b_MO_defect 82 = .ok (.putfield 131, 3) := by decide +kernel
theorem d_MO_defect_85 : decode b_MO_defect 85 = .ok (.aload_n 0, 1) := by decide +kernel
theorem d_MO_defect_86 : decode b_MO_defect 86 = .ok (.getfield 131, 3) := by decide +kernel
theorem d_MO_defect_89 : decode b_MO_defect 89 = .ok (.ireturn, 1) := by decide +kernel
theorem d_MO_sound_0 : decode b_MO_sound 0 = .ok (.aload_n 0, 1) := by decide +kernel
theorem d_MO_sound_1 : decode b_MO_sound 1 = .ok (.iconst 0, 1) := by decide +kernel
theorem d_MO_sound_2 : decode b_MO_sound 2 = .ok (.putfield 65, 3) := by decide +kernel
theorem d_MO_sound_5 : decode b_MO_sound 5 = .ok (.aload_n 0, 1) := by decide +kernel
theorem d_MO_sound_6 : decode b_MO_sound 6 = .ok (.iconst 0, 1) := by decide +kernel
theorem d_MO_sound_7 : decode b_MO_sound 7 = .ok (.putfield 131, 3) := by decide +kernel
theorem d_MO_sound_10 : decode b_MO_sound 10 = .ok (.return_, 1) := by decide +kernel
theorem d_MO_isSound_0 : decode b_MO_isSound 0 = .ok (.iconst 1, 1) := by decide +kernel
theorem d_MO_isSound_1 : decode b_MO_isSound 1 = .ok (.istore_n 3, 1) := by decide +kernel
theorem d_MO_isSound_2 : decode b_MO_isSound 2 = .ok (.iconst 0, 1) := by decide +kernel
theorem d_MO_isSound_3 : decode b_MO_isSound 3 = .ok (.istore 4, 2) := by decide +kernel
theorem d_MO_isSound_5 : decode b_MO_isSound 5 = .ok (.iload 4, 2) := by decide +kernel
theorem d_MO_isSound_7 : decode b_MO_isSound 7 = .ok (.aload_n 0, 1) := by decide +kernel
theorem d_MO_isSound_8 : decode b_MO_isSound 8 = .ok (.iload_n 1, 1) := by decide +kernel
theorem d_MO_isSound_9 : decode b_MO_isSound 9 = .ok (.invokevirtual 114, 3) := by decide +kernel
theorem d_MO_isSound_12 : decode b_MO_isSound 12 = .ok (.if_icmp .ge (75), 3) := by decide +kernel
theorem d_MO_isSound_15 : decode b_MO_isSound 15 = .ok (.iconst 0, 1) := by decide +kernel
theorem d_MO_isSound_16 : decode b_MO_isSound 16 = .ok (.istore 5, 2) := by decide +kernel
theorem d_MO_isSound_18 : decode b_MO_isSound 18 = .ok (.iload 5, 2) := by decide +kernel
theorem d_MO_isSound_20 : decode b_MO_isSound 20 = .ok (.aload_n 0, 1) := by decide +kernel
theorem d_MO_isSound_21 : decode b_MO_isSound 21 = .ok (.getfield 131, 3) := by decide +kernel
theorem d_MO_isSound_24 : decode b_MO_isSound 24 = .ok (.if_icmp .ge (57), 3) := by decide +kernel
theorem d_MO_isSound_27 : decode b_MO_isSound 27 = .ok (.iload_n 3, 1) := by decide +kernel
theorem d_MO_isSound_28 : decode b_MO_isSound 28 = .ok (.ifCond .eq (45), 3) := by decide +kernel
theorem d_MO_isSound_31 : decode b_MO_isSound 31 = .ok (.aload_n 0, 1) := by decide +kernel
theorem d_MO_isSound_32 : decode b_MO_isSound 32 = .ok (.iload_n 1, 1) := by decide +kernel
theorem d_MO_isSound_33 : decode b_MO_isSound 33 = .ok (.iload 4, 2) := by decide +kernel
theorem d_MO_isSound_35 : decode b_MO_isSound 35 = .ok (.invokevirtual 107, 3) := by decide +kernel
theorem d_MO_isSound_38 : decode b_MO_isSound 38 = .ok (.iload_n 2, 1) := by decide +kernel
theorem d_MO_isSound_39 : decode b_MO_isSound 39 = .ok (.iadd, 1) := by decide +kernel
theorem d_MO_isSound_40 : decode b_MO_isSound 40 = .ok (.aload_n 0, 1) := by decide +kernel
theorem d_MO_isSound_41 : decode b_MO_isSound 41 = .ok (.getfield 53, 3) := by decide +kernel
theorem d_MO_isSound_44 : decode b_MO_isSound 44 = .ok (.iload 5, 2) := by decide +kernel
theorem d_MO_isSound_46 : decode b_MO_isSound 46 = .ok (.iaload, 1) := by decide +kernel
theorem d_MO_isSound_47 : decode b_MO_isSound 47 = .ok (.if_icmp .le (22), 3) := by decide +kernel
theorem d_MO_isSound_50 : decode b_MO_isSound 50 = .ok (.aload_n 0, 1) := by decide +kernel
theorem d_MO_isSound_51 : decode b_MO_isSound 51 = .ok (.iload_n 1, 1) := by decide +kernel
theorem d_MO_isSound_52 : decode b_MO_isSound 52 = .ok (.iload 4, 2) := by decide +kernel
theorem d_MO_isSound_54 : decode b_MO_isSound 54 = .ok (.invokevirtual 104, 3) := by decide +kernel
theorem d_MO_isSound_57 : decode b_MO_isSound 57 = .ok (.iload_n 2, 1) := by decide +kernel
theorem d_MO_isSound_58 : decode b_MO_isSound 58 = .ok (.iadd, 1) := by decide +kernel
theorem d_MO_isSound_59 : decode b_MO_isSound 59 = .ok (.aload_n 0, 1) := by decide +kernel
theorem d_MO_isSound_60 : decode b_MO_isSound 60 = .ok (.getfield 56, 3) := by decide +kernel
theorem d_MO_isSound_63 : decode b_MO_isSound 63 = .ok (.iload 5, 2) := by decide +kernel
theorem d_MO_isSound_65 : decode b_MO_isSound 65 = .ok (.iaload, 1) := by decide +kernel
theorem d_MO_isSound_66 : decode b_MO_isSound 66 = .ok (.if_icmp .lt (7), 3) := by decide +kernel
theorem d_MO_isSound_69 : decode b_MO_isSound 69 = .ok (.iconst 1, 1) := by decide +kernel
theorem d_MO_isSound_70 : decode b_MO_isSound 70 = .ok (.goto (4), 3) := by decide +kernel
theorem d_MO_isSound_73 : decode b_MO_isSound 73 = .ok (.iconst 0, 1) := by decide +kernel
theorem d_MO_isSound_74 : decode b_MO_isSound 74 = .ok (.istore_n 3, 1) := by decide +kernel
theorem d_MO_isSound_75 : decode b_MO_isSound 75 = .ok (.iinc 5 1, 3) := by decide +kernel
theorem d_MO_isSound_78 : decode b_MO_isSound 78 = .ok (.goto (-60), 3) := by decide +kernel
theorem d_MO_isSound_81 : decode b_MO_isSound 81 = .ok (.iinc 4 1, 3) := by decide +kernel
theorem d_MO_isSound_84 : decode b_MO_isSound 84 = .ok (.goto (-79), 3) := by decide +kernel
theorem d_MO_isSound_87 : decode b_MO_isSound 87 = .ok (.iload_n 3, 1) := by decide +kernel
theorem d_MO_isSound_88 : decode b_MO_isSound 88 = .ok (.ireturn, 1) := by decide +kernel
theorem d_MO_shift_0 : decode b_MO_shift 0 = .ok (.aload_n 0, 1) := by decide +kernel
theorem d_MO_shift_1 : decode b_MO_shift 1 = .ok (.aload_n 0, 1) := by decide +kernel
theorem d_MO_shift_2 : decode b_MO_shift 2 = .ok (.iload_n 1, 1) := by decide +kernel
theorem d_MO_shift_3 : decode b_MO_shift 3 = .ok (.invokevirtual 110, 3) := by decide +kernel
theorem d_MO_shift_6 : decode b_MO_shift 6 = .ok (.ifCond .ne (7), 3) := by decide +kernel
theorem d_MO_shift_9 : decode b_MO_shift 9 = .ok (.iconst 1, 1) := by decide +kernel
theorem d_MO_shift_10 : decode b_MO_shift 10 = .ok (.goto (4), 3) := by decide +kernel
theorem d_MO_shift_13 : decode b_MO_shift 13 = .ok (.iconst 0, 1) := by decide +kernel
theorem d_MO_shift_14 : decode b_MO_shift 14 = .ok (.iconst 0, 1) := by decide +kernel
theorem d_MO_shift_15 : decode b_MO_shift 15 = .ok (.invokevirtual 73, 3) := by decide +kernel
theorem d_MO_shift_18 : decode b_MO_shift 18 = .ok (.ifCond .eq (5), 3) := by decide +kernel
theorem d_MO_shift_21 : decode b_MO_shift 21 = .ok (.iconst 0, 1) := by decide +kernel
theorem d_MO_shift_22 : decode b_MO_shift 22 = .ok (.ireturn, 1) := by decide +kernel
theorem d_MO_shift_23 : decode b_MO_shift 23 = .ok (.aload_n 0, 1) := by decide +kernel
theorem d_MO_shift_24 : decode b_MO_shift 24 = .ok (.iload_n 1, 1) := by decide +kernel
theorem d_MO_shift_25 : decode b_MO_shift 25 = .ok (.aload_n 0, 1) := by decide +kernel
theorem d_MO_shift_26 : decode b_MO_shift 26 = .ok (.iload_n 1, 1) := by decide +kernel
theorem d_MO_shift_27 : decode b_MO_shift 27 = .ok (.invokevirtual 114, 3) := by decide +kernel
theorem d_MO_shift_30 : decode b_MO_shift 30 = .ok (.iconst 1, 1) := by decide +kernel
theorem d_MO_shift_31 : decode b_MO_shift 31 = .ok (.isub, 1) := by decide +kernel
theorem d_MO_shift_32 : decode b_MO_shift 32 = .ok (.invokevirtual 107, 3) := by decide +kernel
theorem d_MO_shift_35 : decode b_MO_shift 35 = .ok (.aload_n 0, 1) := by decide +kernel
theorem d_MO_shift_36 : decode b_MO_shift 36 = .ok (.getfield 47, 3) := by decide +kernel
theorem d_MO_shift_39 : decode b_MO_shift 39 = .ok (.iload_n 1, 1) := by decide +kernel
theorem d_MO_shift_40 : decode b_MO_shift 40 = .ok (.iaload, 1) := by decide +kernel
theorem d_MO_shift_41 : decode b_MO_shift 41 = .ok (.isub, 1) := by decide +kernel
theorem d_MO_shift_42 : decode b_MO_shift 42 = .ok (.istore_n 2, 1) := by decide +kernel
theorem d_MO_shift_43 : decode b_MO_shift 43 = .ok (.aload_n 0, 1) := by decide +kernel
theorem d_MO_shift_44 : decode b_MO_shift 44 = .ok (.getfield 41, 3) := by decide +kernel
theorem d_MO_shift_47 : decode b_MO_shift 47 = .ok (.iload_n 1, 1) := by decide +kernel
theorem d_MO_shift_48 : decode b_MO_shift 48 = .ok (.iaload, 1) := by decide +kernel
theorem d_MO_shift_49 : decode b_MO_shift 49 = .ok (.istore_n 3, 1) := by decide +kernel
theorem d_MO_shift_50 : decode b_MO_shift 50 = .ok (.iload_n 3, 1) := by decide +kernel
theorem d_MO_shift_51 : decode b_MO_shift 51 = .ok (.iload_n 2, 1) := by decide +kernel
theorem d_MO_shift_52 : decode b_MO_shift 52 = .ok (.iadd, 1) := by decide +kernel
theorem d_MO_shift_53 : decode b_MO_shift 53 = .ok (.aload_n 0, 1) := by decide +kernel
theorem d_MO_shift_54 : decode b_MO_shift 54 = .ok (.getfield 41, 3) := by decide +kernel
theorem d_MO_shift_57 : decode b_MO_shift 57 = .ok (.iload_n 1, 1) := by decide +kernel
theorem d_MO_shift_58 : decode b_MO_shift 58 = .ok (.iaload, 1) := by decide +kernel
theorem d_MO_shift_59 : decode b_MO_shift 59 = .ok (.iadd, 1) := by decide +kernel
theorem d_MO_shift_60 : decode b_MO_shift 60 = .ok (.aload_n 0, 1) := by decide +kernel
theorem d_MO_shift_61 : decode b_MO_shift 61 = .ok (.getfield 35, 3) := by decide +kernel
theorem d_MO_shift_64 : decode b_MO_shift 64 = .ok (.iload_n 1, 1) := by decide +kernel
theorem d_MO_shift_65 : decode b_MO_shift 65 = .ok (.iaload, 1) := by decide +kernel
theorem d_MO_shift_66 : decode b_MO_shift 66 = .ok (.if_icmp .gt (25), 3) := by decide +kernel
theorem d_MO_shift_69 : decode b_MO_shift 69 = .ok (.aload_n 0, 1) := by decide +kernel
theorem d_MO_shift_70 : decode b_MO_shift 70 = .ok (.iload_n 1, 1) := by decide +kernel
theorem d_MO_shift_71 : decode b_MO_shift 71 = .ok (.iload_n 3, 1) := by decide +kernel
theorem d_MO_shift_72 : decode b_MO_shift 72 = .ok (.aload_n 0, 1) := by decide +kernel
theorem d_MO_shift_73 : decode b_MO_shift 73 = .ok (.getfield 47, 3) := by decide +kernel
theorem d_MO_shift_76 : decode b_MO_shift 76 = .ok (.iload_n 1, 1) := by decide +kernel
theorem d_MO_shift_77 : decode b_MO_shift 77 = .ok (.iaload, 1) := by decide +kernel
theorem d_MO_shift_78 : decode b_MO_shift 78 = .ok (.isub, 1) := by decide +kernel
theorem d_MO_shift_79 : decode b_MO_shift 79 = .ok (.invokevirtual 134, 3) := by decide +kernel
theorem d_MO_shift_82 : decode b_MO_shift 82 = .ok (.ifCond .ne (9), 3) := by decide +kernel
theorem d_MO_shift_85 : decode b_MO_shift 85 = .ok (.iinc 3 1, 3) := by decide +kernel
theorem d_MO_shift_88 : decode b_MO_shift 88 = .ok (.goto (-38), 3) := by decide +kernel
theorem d_MO_shift_91 : decode b_MO_shift 91 = .ok (.aload_n 0, 1) := by decide +kernel
theorem d_MO_shift_92 : decode b_MO_shift 92 = .ok (.iconst 0, 1) := by decide +kernel
theorem d_MO_shift_93 : decode b_MO_shift 93 = .ok (.iload_n 3, 1) := by decide +kernel
theorem d_MO_shift_94 : decode b_MO_shift 94 = .ok (.iload_n 2, 1) := by decide +kernel
theorem d_MO_shift_95 : decode b_MO_shift 95 = .ok (.iadd, 1) := by decide +kernel
theorem d_MO_shift_96 : decode b_MO_shift 96 = .ok (.aload_n 0, 1) := by decide +kernel
theorem d_MO_shift_97 : decode b_MO_shift 97 = .ok (.getfield 41, 3) := by decide +kernel
theorem d_MO_shift_100 : decode b_MO_shift 100 = .ok (.iload_n 1, 1) := by decide +kernel
theorem d_MO_shift_101 : decode b_MO_shift 101 = .ok (.iaload, 1) := by decide +kernel
theorem d_MO_shift_102 : decode b_MO_shift 102 = .ok (.iadd, 1) := by decide +kernel
theorem d_MO_shift_103 : decode b_MO_shift 103 = .ok (.aload_n 0, 1) := by decide +kernel
theorem d_MO_shift_104 : decode b_MO_shift 104 = .ok (.getfield 35, 3) := by decide +kernel
theorem d_MO_shift_107 : decode b_MO_shift 107 = .ok (.iload_n 1, 1) := by decide +kernel
theorem d_MO_shift_108 : decode b_MO_shift 108 = .ok (.iaload, 1) := by decide +kernel
theorem d_MO_shift_109 : decode b_MO_shift 109 = .ok (.if_icmp .le (7), 3) := by decide +kernel
theorem d_MO_shift_112 : decode b_MO_shift 112 = .ok (.iconst 1, 1) := by decide +kernel
theorem d_MO_shift_113 : decode b_MO_shift 113 = .ok (.goto (4), 3) := by decide +kernel
theorem d_MO_shift_116 : decode b_MO_shift 116 = .ok (.iconst 0, 1) := by decide +kernel
theorem d_MO_shift_117 : decode b_MO_shift 117 = .ok (.invokevirtual 73, 3) := by decide +kernel
theorem d_MO_shift_120 : decode b_MO_shift 120 = .ok (.ifCond .eq (5), 3) := by decide +kernel
theorem d_MO_shift_123 : decode b_MO_shift 123 = .ok (.iconst 0, 1) := by decide +kernel
theorem d_MO_shift_124 : decode b_MO_shift 124 = .ok (.ireturn, 1) := by decide +kernel
theorem d_MO_shift_125 : decode b_MO_shift 125 = .ok (.aload_n 0, 1) := by decide +kernel
theorem d_MO_shift_126 : decode b_MO_shift 126 = .ok (.getfield 47, 3) := by decide +kernel
theorem d_MO_shift_129 : decode b_MO_shift 129 = .ok (.iload_n 1, 1) := by decide +kernel
theorem d_MO_shift_130 : decode b_MO_shift 130 = .ok (.iload_n 3, 1) := by decide +kernel
theorem d_MO_shift_131 : decode b_MO_shift 131 = .ok (.iastore, 1) := by decide +kernel
theorem d_MO_shift_132 : decode b_MO_shift 132 = .ok (.iload_n 3, 1) := by decide +kernel
theorem d_MO_shift_133 : decode b_MO_shift 133 = .ok (.ireturn, 1) := by decide +kernel
end
section
set_option maxHeartbeats 4000000 in
set_option maxRecDepth 100000 in
/-- thrown() -/
theorem c_MO_thrown (l : Launch) (dC : Nat → ClassId) (dI : Nat → Nat → Nat) (z g : Nat → Nat) (cI : ClassId) : Met l y_MO_thrown w_MO_thrown { frames := 0, cells := 0, slots := 0, locals := 0 } (ro_Pc (dC, dI) vwCl [(cI, .int)] [.ref (z 0)] [(z 0, .inr (7, [.int (nI (g 0)), .int (nI (g 1)), .int (nI (g 2)), .int (nI (g 3)), .int (nI (g 4)), .int (nI (g 5)), .int (nI (g 6)), .ref (z 1), .ref (z 2), .ref (z 3), .ref (z 4), .int (nI (g 7)), .ref (z 5), .ref (z 6), .ref (z 7), .ref (z 8), .ref (z 9), .ref (z 10), .int (nI (g 8)), .ref (z 11), .ref (z 12), .ref (z 13), .ref (z 14)]))]) (ro_Qi (fun r => r = nI (g 0))) 0 0 ro_no := by
  refine Met.ofW (cc := b_MO_thrown) (maxL := 1) (ret := (some .int)) (by decide) rfl ?_
  intro p e s m args below meth c s₁ B hml hv
  obtain ⟨rfl, hP, hK⟩ := hv
  have hx := B.exec
  have hb := B.bytes
  have hr := B.returns
  have hts := gw_h (atoms_spec (ws := w_MO_thrown) B.pre)
  have hown : s.vm.findClass R_MO = some m.cls := findClass_of_methodNamed B.named
  have hlocks := B.notSynchronized
  have hS : va_S ro_no s.heap s.heap [] := va_S.rf
  have hP : va_P (dC, dI) vwCl [(z 0, .inr (7, [.int (nI (g 0)), .int (nI (g 1)), .int (nI (g 2)), .int (nI (g 3)), .int (nI (g 4)), .int (nI (g 5)), .int (nI (g 6)), .ref (z 1), .ref (z 2), .ref (z 3), .ref (z 4), .int (nI (g 7)), .ref (z 5), .ref (z 6), .ref (z 7), .ref (z 8), .ref (z 9), .ref (z 10), .int (nI (g 8)), .ref (z 11), .ref (z 12), .ref (z 13), .ref (z 14)]))] s.heap := hP
  have hl := lv_entry ([.ref (z 0)]) (n := 1) (Nat.le_of_ble_eq_true rfl)
  rw [lg_entry_eq]
  generalize (lg_sl ([.ref (z 0)]) ++ List.replicate (1 - (lg_sl ([.ref (z 0)])).length) Slot.unset).toArray = ls at hl ⊢
  have hl : lv_has ls 1 [(0, .ref (z 0))] := hl
  refine lv_aload_n hx hb d_MO_thrown_0 rfl (lv_at hl 0 rfl) ?_
  refine va_get (D := (dC, dI)) (ci := 7) (v := .int (nI (g 0))) (C := R_MO) (T := F_MO) (N := 23) hx hb hts in_MO hown hK hP 0 rfl rfl 0 (by decide) (hts _ m_572) (fun _ h9 => h9) rfl d_MO_thrown_1 ?_
  exact W.iret (v := nI (g 0)) hx hb hr (fun t ht hW => ⟨⟨nI (g 0), (), rfl, rfl, trivial⟩, hS.F ht⟩) hS.2.2 d_MO_thrown_4
set_option maxHeartbeats 4000000 in
set_option maxRecDepth 100000 in
/-- in(v, low, high) -/
theorem c_MO_in (l : Launch) (dC : Nat → ClassId) (dI : Nat → Nat → Nat) (cI : ClassId) (v9 a9 b9 : Int) (hv : -2147483648 ≤ v9 ∧ v9 < 2147483648) (ha : -2147483648 ≤ a9 ∧ a9 < 2147483648) (hb9 : -2147483648 ≤ b9 ∧ b9 < 2147483648) : Met l y_MO_in w_MO_in { frames := 0, cells := 0, slots := 0, locals := 0 } (ro_Pc (dC, dI) vwCl [(cI, .int)] [.int (zI v9), .int (zI a9), .int (zI b9)] []) (ro_Qi (fun r => r = nI (b01 (a9 ≤ v9 ∧ v9 ≤ b9)))) 0 0 ro_no := by
  refine Met.ofW (cc := b_MO_in) (maxL := 3) (ret := (some .boolean)) (by decide) rfl ?_
  intro p e s m args below meth c s₁ B hml hv
  obtain ⟨rfl, hP, hK⟩ := hv
  have hx := B.exec
  have hb := B.bytes
  have hr := B.returns
  have hts := gw_h (atoms_spec (ws := w_MO_in) B.pre)
  have hown : s.vm.findClass R_MO = some m.cls := findClass_of_methodNamed B.named
  have hlocks := B.notSynchronized
  have hS : va_S ro_no s.heap s.heap [] := va_S.rf
  have hP : va_P (dC, dI) vwCl [] s.heap := hP
  have hl := lv_entry ([.int (zI v9), .int (zI a9), .int (zI b9)]) (n := 3) (Nat.le_of_ble_eq_true rfl)
  rw [lg_entry_eq]
  generalize (lg_sl ([.int (zI v9), .int (zI a9), .int (zI b9)]) ++ List.replicate (3 - (lg_sl ([.int (zI v9), .int (zI a9), .int (zI b9)])).length) Slot.unset).toArray = ls at hl ⊢
  have hl : lv_has ls 3 [(0, .int (zI v9)), (1, .int (zI a9)), (2, .int (zI b9))] := hl
  refine lv_iload_n hx hb d_MO_in_0 rfl (lv_at hl 0 rfl) ?_
  refine lv_iload_n hx hb d_MO_in_1 rfl (lv_at hl 1 rfl) ?_
  refine ix_icmp_lt (tgt := 14) hx hb (zI_toInt (z := v9) (by omega) (by omega)) (zI_toInt (z := a9) (by omega) (by omega)) d_MO_in_2 (by decide) (fun c_2 => ?_) (fun c_2 => ?_)
  · refine lv_iconst (v := nI 0) hx hb d_MO_in_14 (by decide +kernel) ?_
    exact W.zret (v := nI 0) (ty := .boolean) hx hb hr (by decide +kernel) (fun t ht hW => ⟨⟨nI 0, (), rfl, by rw [b01_f (by omega)], trivial⟩, hS.F ht⟩) hS.2.2 d_MO_in_15
  refine lv_iload_n hx hb d_MO_in_5 rfl (lv_at hl 0 rfl) ?_
  refine lv_iload_n hx hb d_MO_in_6 rfl (lv_at hl 2 rfl) ?_
  refine ix_icmp_gt (tgt := 14) hx hb (zI_toInt (z := v9) (by omega) (by omega)) (zI_toInt (z := b9) (by omega) (by omega)) d_MO_in_7 (by decide) (fun c_7 => ?_) (fun c_7 => ?_)
  · refine lv_iconst (v := nI 0) hx hb d_MO_in_14 (by decide +kernel) ?_
    exact W.zret (v := nI 0) (ty := .boolean) hx hb hr (by decide +kernel) (fun t ht hW => ⟨⟨nI 0, (), rfl, by rw [b01_f (by omega)], trivial⟩, hS.F ht⟩) hS.2.2 d_MO_in_15
  refine lv_iconst (v := nI 1) hx hb d_MO_in_10 (by decide +kernel) ?_
  refine lv_goto (tgt := 15) hx hb d_MO_in_11 (by decide) ?_
  exact W.zret (v := nI 1) (ty := .boolean) hx hb hr (by decide +kernel) (fun t ht hW => ⟨⟨nI 1, (), rfl, by rw [b01_t (by omega)], trivial⟩, hS.F ht⟩) hS.2.2 d_MO_in_15
set_option maxHeartbeats 4000000 in
set_option maxRecDepth 100000 in
/-- isSetup(s) -/
theorem c_MO_isSetup (l : Launch) (dC : Nat → ClassId) (dI : Nat → Nat → Nat) (z g : Nat → Nat) (cI : ClassId) (v9 : Int) (hv : -2147483648 ≤ v9 ∧ v9 < 2147483648) (h7 : g 7 ≤ 9) : Met l y_MO_isSetup w_MO_isSetup { frames := 1, cells := 0, slots := 0, locals := 22 } (ro_Pc (dC, dI) vwCl [(cI, .int)] [.ref (z 0), .int (zI v9)] [(z 0, .inr (7, [.int (nI (g 0)), .int (nI (g 1)), .int (nI (g 2)), .int (nI (g 3)), .int (nI (g 4)), .int (nI (g 5)), .int (nI (g 6)), .ref (z 1), .ref (z 2), .ref (z 3), .ref (z 4), .int (nI (g 7)), .ref (z 5), .ref (z 6), .ref (z 7), .ref (z 8), .ref (z 9), .ref (z 10), .int (nI (g 8)), .ref (z 11), .ref (z 12), .ref (z 13), .ref (z 14)]))]) (ro_Qi (fun r => r = nI (b01 (0 ≤ v9 ∧ v9 < g 7)))) 0 0 ro_no := by
  refine Met.ofW (cc := b_MO_isSetup) (maxL := 2) (ret := (some .boolean)) (by decide) rfl ?_
  intro p e s m args below meth c s₁ B hml hv
  obtain ⟨rfl, hP, hK⟩ := hv
  have hx := B.exec
  have hb := B.bytes
  have hr := B.returns
  have hts := gw_h (atoms_spec (ws := w_MO_isSetup) B.pre)
  have hown : s.vm.findClass R_MO = some m.cls := findClass_of_methodNamed B.named
  have hlocks := B.notSynchronized
  have hS : va_S ro_no s.heap s.heap [] := va_S.rf
  have hP : va_P (dC, dI) vwCl [(z 0, .inr (7, [.int (nI (g 0)), .int (nI (g 1)), .int (nI (g 2)), .int (nI (g 3)), .int (nI (g 4)), .int (nI (g 5)), .int (nI (g 6)), .ref (z 1), .ref (z 2), .ref (z 3), .ref (z 4), .int (nI (g 7)), .ref (z 5), .ref (z 6), .ref (z 7), .ref (z 8), .ref (z 9), .ref (z 10), .int (nI (g 8)), .ref (z 11), .ref (z 12), .ref (z 13), .ref (z 14)]))] s.heap := hP
  have hl := lv_entry ([.ref (z 0), .int (zI v9)]) (n := 2) (Nat.le_of_ble_eq_true rfl)
  rw [lg_entry_eq]
  generalize (lg_sl ([.ref (z 0), .int (zI v9)]) ++ List.replicate (2 - (lg_sl ([.ref (z 0), .int (zI v9)])).length) Slot.unset).toArray = ls at hl ⊢
  have hl : lv_has ls 2 [(0, .ref (z 0)), (1, .int (zI v9))] := hl
  refine lv_iload_n hx hb d_MO_isSetup_0 rfl (lv_at hl 1 rfl) ?_
  refine lv_iconst (v := nI 0) hx hb d_MO_isSetup_1 (by decide +kernel) ?_
  refine lv_topr (show _ = zI 0 from zI_n 0) ?_
  refine lv_aload_n hx hb d_MO_isSetup_2 rfl (lv_at hl 0 rfl) ?_
  refine va_get (D := (dC, dI)) (ci := 7) (v := .int (nI (g 7))) (C := R_MO) (T := F_MO) (N := 23) hx hb hts in_MO hown hK hP 0 rfl rfl 11 (by decide) (hts _ m_583) (fun _ h9 => h9) rfl d_MO_isSetup_3 ?_
  refine lv_iconst (v := nI 1) hx hb d_MO_isSetup_6 (by decide +kernel) ?_
  refine lv_isub hx hb d_MO_isSetup_7 ?_
  refine lv_topr (show _ = zI (((g 7 : Nat) : Int) - ((1 : Nat) : Int)) from nn_sub _ _) ?_
  refine lv_topr (show _ = zI ((g 7 : Int) - 1) from congrArg zI (by omega)) ?_
  refine ro_calli (va_runS (As := [.int (zI v9), .int (zI 0), .int (zI ((g 7 : Int) - 1))]) (rest := []) ⟨hx, hb, hml, hown, hts⟩ (c_MO_in l dC dI cI v9 0 ((g 7 : Int) - 1) hv (by omega) (by omega)) (va_cwS 3 hts (gw_S m_650 m_651 m_8 m_652) rfl rfl rfl (by decide +kernel) ⟨Nat.le_of_ble_eq_true rfl, Nat.le_of_ble_eq_true rfl⟩) ⟨ro_blind, fun U hU hW => ⟨rfl, fun k q h => by simp at h, va_K.moved hW.alike hK⟩⟩ rfl rfl hl.1 rfl (lv_room (Nat.le_of_ble_eq_true rfl)) d_MO_isSetup_8 ⟨Nat.le_of_ble_eq_true rfl, Nat.le_of_ble_eq_true rfl⟩) hS hP (fun r H locs er hP hS => ?_)
  subst er
  have e9 : b01 (0 ≤ v9 ∧ v9 ≤ (g 7 : Int) - 1) = b01 (0 ≤ v9 ∧ v9 < (g 7 : Int)) := by unfold b01; split <;> split <;> omega
  rcases (show b01 (0 ≤ v9 ∧ v9 ≤ (g 7 : Int) - 1) = 0 ∨ b01 (0 ≤ v9 ∧ v9 ≤ (g 7 : Int) - 1) = 1 by have := @b01_le (0 ≤ v9 ∧ v9 ≤ (g 7 : Int) - 1) _; omega) with h | h
  · rw [h]
    exact W.zret (v := nI 0) (ty := .boolean) hx hb hr (by decide +kernel) (fun t ht hW => ⟨⟨nI 0, (), rfl, by rw [← e9, h], trivial⟩, hS.F ht⟩) hS.2.2 d_MO_isSetup_11
  · rw [h]
    exact W.zret (v := nI 1) (ty := .boolean) hx hb hr (by decide +kernel) (fun t ht hW => ⟨⟨nI 1, (), rfl, by rw [← e9, h], trivial⟩, hS.F ht⟩) hS.2.2 d_MO_isSetup_11
set_option maxHeartbeats 4000000 in
set_option maxRecDepth 100000 in
/-- many(s) -/
theorem c_MO_many (l : Launch) (dC : Nat → ClassId) (dI : Nat → Nat → Nat) (z g : Nat → Nat) (cI : ClassId) (ss : Nat → Nat) (s9 : Nat) (hs9 : s9 < 9) : Met l y_MO_many w_MO_many { frames := 0, cells := 0, slots := 0, locals := 0 } (ro_Pc (dC, dI) vwCl [(cI, .int)] [.ref (z 0), .int (nI s9)] [(z 0, .inr (7, [.int (nI (g 0)), .int (nI (g 1)), .int (nI (g 2)), .int (nI (g 3)), .int (nI (g 4)), .int (nI (g 5)), .int (nI (g 6)), .ref (z 1), .ref (z 2), .ref (z 3), .ref (z 4), .int (nI (g 7)), .ref (z 5), .ref (z 6), .ref (z 7), .ref (z 8), .ref (z 9), .ref (z 10), .int (nI (g 8)), .ref (z 11), .ref (z 12), .ref (z 13), .ref (z 14)])), (z 10, .inl (cI, 45, .inl (aN ss)))]) (ro_Qi (fun r => r = nI (sumN (fun w => ss (5 * s9 + w)) 5))) 0 0 ro_no := by
  refine Met.ofW (cc := b_MO_many) (maxL := 4) (ret := (some .int)) (by decide) rfl ?_
  intro p e s m args below meth c s₁ B hml hv
  obtain ⟨rfl, hP, hK⟩ := hv
  have hx := B.exec
  have hb := B.bytes
  have hr := B.returns
  have hts := gw_h (atoms_spec (ws := w_MO_many) B.pre)
  have hown : s.vm.findClass R_MO = some m.cls := findClass_of_methodNamed B.named
  have hlocks := B.notSynchronized
  have hS : va_S ro_no s.heap s.heap [] := va_S.rf
  have hP : va_P (dC, dI) vwCl [(z 0, .inr (7, [.int (nI (g 0)), .int (nI (g 1)), .int (nI (g 2)), .int (nI (g 3)), .int (nI (g 4)), .int (nI (g 5)), .int (nI (g 6)), .ref (z 1), .ref (z 2), .ref (z 3), .ref (z 4), .int (nI (g 7)), .ref (z 5), .ref (z 6), .ref (z 7), .ref (z 8), .ref (z 9), .ref (z 10), .int (nI (g 8)), .ref (z 11), .ref (z 12), .ref (z 13), .ref (z 14)])), (z 10, .inl (cI, 45, .inl (aN ss)))] s.heap := hP
  have hl := lv_entry ([.ref (z 0), .int (nI s9)]) (n := 4) (Nat.le_of_ble_eq_true rfl)
  rw [lg_entry_eq]
  generalize (lg_sl ([.ref (z 0), .int (nI s9)]) ++ List.replicate (4 - (lg_sl ([.ref (z 0), .int (nI s9)])).length) Slot.unset).toArray = ls at hl ⊢
  have hl : lv_has ls 4 [(0, .ref (z 0)), (1, .int (nI s9))] := hl
  refine lv_iconst (v := nI 0) hx hb d_MO_many_0 (by decide +kernel) ?_
  refine lv_istore_n (lv' := [(2, .int (nI 0)), (0, .ref (z 0)), (1, .int (nI s9))]) hx hb d_MO_many_1 rfl hl (by decide) rfl (fun ls hl => ?_)
  refine lv_iconst (v := nI 0) hx hb d_MO_many_2 (by decide +kernel) ?_
  refine lv_istore_n (lv' := [(3, .int (nI 0)), (2, .int (nI 0)), (0, .ref (z 0)), (1, .int (nI s9))]) hx hb d_MO_many_3 rfl hl (by decide) rfl (fun ls hl => ?_)
  have lp : ∀ (n_lp : Nat) (i9 : Nat) (n9 : Nat), (6 ≤ i9 + n_lp) → (i9 ≤ 5) → (n9 = sumN (fun w => ss (5 * s9 + w)) i9) → ∀ (H : Heap) (locs : List Loc) (ls : Array Slot), va_P (dC, dI) vwCl [(z 0, .inr (7, [.int (nI (g 0)), .int (nI (g 1)), .int (nI (g 2)), .int (nI (g 3)), .int (nI (g 4)), .int (nI (g 5)), .int (nI (g 6)), .ref (z 1), .ref (z 2), .ref (z 3), .ref (z 4), .int (nI (g 7)), .ref (z 5), .ref (z 6), .ref (z 7), .ref (z 8), .ref (z 9), .ref (z 10), .int (nI (g 8)), .ref (z 11), .ref (z 12), .ref (z 13), .ref (z 14)])), (z 10, .inl (cI, 45, .inl (aN ss)))] H → va_S ro_no s.heap H locs → lv_has ls 4 [(0, .ref (z 0)), (1, .int (nI s9)), (2, .int (nI n9)), (3, .int (nI i9))] → W p l e (headSpec w_MO_many { frames := 0, cells := 0, slots := 0, locals := 0 }).room s m [.ref (z 0), .int (nI s9)].toArray below meth c H locs 0 0 (MQ below (ro_Qi (fun r => r = nI (sumN (fun w => ss (5 * s9 + w)) 5))) [.ref (z 0), .int (nI s9)].toArray s 0 0 ro_no) (F0 m 4 ls []) := by
    intro n_lp
    induction n_lp with
    | zero =>
      intro i9 n9 hm hi hn
      exact absurd hm (by omega)
    | succ n_lp ih_lp =>
      intro i9 n9 hm hi hn H locs ls hP hS hl
      refine lv_iload_n hx hb d_MO_many_4 rfl (lv_at hl 3 rfl) ?_
      refine lv_iconst (v := nI 5) hx hb d_MO_many_5 (by decide +kernel) ?_
      refine ix_icmp_ge (tgt := 28) hx hb (nI_tI (n := i9) (by omega)) (nI_tI (n := 5) (by omega)) d_MO_many_6 (by decide) (fun c_6 => ?_) (fun c_6 => ?_)
      · refine lv_iload_n hx hb d_MO_many_28 rfl (lv_at hl 2 rfl) ?_
        exact W.iret (v := nI n9) hx hb hr (fun t ht hW => ⟨⟨nI n9, (), rfl, by rw [hn, show i9 = 5 by omega], trivial⟩, hS.F ht⟩) hS.2.2 d_MO_many_29
      refine lv_iload_n hx hb d_MO_many_9 rfl (lv_at hl 2 rfl) ?_
      refine lv_aload_n hx hb d_MO_many_10 rfl (lv_at hl 0 rfl) ?_
      refine va_get (D := (dC, dI)) (ci := 7) (v := .ref (z 10)) (C := R_MO) (T := F_MO) (N := 23) hx hb hts in_MO hown hK hP 0 rfl rfl 17 (by decide) (hts _ m_589) (fun _ h9 => h9) rfl d_MO_many_11 ?_
      refine lv_iconst (v := nI 5) hx hb d_MO_many_14 (by decide +kernel) ?_
      refine lv_iload_n hx hb d_MO_many_15 rfl (lv_at hl 1 rfl) ?_
      refine lv_imul hx hb d_MO_many_16 ?_
      refine lv_topr (show _ = nI (5 * s9) from nn_mul _ _) ?_
      refine lv_iload_n hx hb d_MO_many_17 rfl (lv_at hl 3 rfl) ?_
      refine lv_iadd hx hb d_MO_many_18 ?_
      refine lv_topr (show _ = nI ((5 * s9) + i9) from nn_add _ _) ?_
      refine ix_ialdN (i := (5 * s9) + i9) hx hb hK hP 1 0 rfl rfl (by omega) (by decide) d_MO_many_19 ?_
      refine lv_iadd hx hb d_MO_many_20 ?_
      refine lv_topr (show _ = nI (n9 + (ss ((5 * s9) + i9))) from nn_add _ _) ?_
      refine lv_istore_n (lv' := [(2, .int (nI (n9 + (ss ((5 * s9) + i9))))), (0, .ref (z 0)), (1, .int (nI s9)), (3, .int (nI i9))]) hx hb d_MO_many_21 rfl hl (by decide) rfl (fun ls hl => ?_)
      refine lv_iinc (v := nI (i9 + 1)) (lv' := [(3, .int (nI (i9 + 1))), (2, .int (nI (n9 + (ss ((5 * s9) + i9))))), (0, .ref (z 0)), (1, .int (nI s9))]) hx hb d_MO_many_22 hl (k := 3) rfl (n_incN i9 1) (by decide) rfl (fun ls hl => ?_)
      refine lv_goto (tgt := 4) hx hb d_MO_many_25 (by decide) ?_
      exact ih_lp (i9 + 1) (n9 + (ss ((5 * s9) + i9))) (by omega) (by omega) (by rw [hn]; rfl) _ _ _ hP hS (lv_sub hl [2, 3, 1, 0] rfl)
  exact lp 6 0 0 (by omega) (by omega) rfl _ _ _ hP hS (lv_sub hl [2, 3, 1, 0] rfl)
set_option maxHeartbeats 4000000 in
set_option maxRecDepth 100000 in
/-- wantOf(s, k): the k-th strip's wanted width -/
theorem c_MO_wantOf (l : Launch) (dC : Nat → ClassId) (dI : Nat → Nat → Nat) (z g : Nat → Nat) (cI : ClassId) (ss nu : Nat → Nat) (s9 k9 : Nat) (hs9 : s9 < 9) (hW9 : HW (fun w => ss (5 * s9 + w)) nu) (hk9 : k9 < sumN (fun w => ss (5 * s9 + w)) 5) (hb9 : ∀ w, w < 5 → ss (5 * s9 + w) ≤ 1000) (hk8 : k9 < 1000000) : Met l y_MO_wantOf w_MO_wantOf { frames := 0, cells := 0, slots := 0, locals := 0 } (ro_Pc (dC, dI) vwCl [(cI, .int)] [.ref (z 0), .int (nI s9), .int (nI k9)] [(z 0, .inr (7, [.int (nI (g 0)), .int (nI (g 1)), .int (nI (g 2)), .int (nI (g 3)), .int (nI (g 4)), .int (nI (g 5)), .int (nI (g 6)), .ref (z 1), .ref (z 2), .ref (z 3), .ref (z 4), .int (nI (g 7)), .ref (z 5), .ref (z 6), .ref (z 7), .ref (z 8), .ref (z 9), .ref (z 10), .int (nI (g 8)), .ref (z 11), .ref (z 12), .ref (z 13), .ref (z 14)])), (z 10, .inl (cI, 45, .inl (aN ss)))]) (ro_Qi (fun r => r = nI (nu k9))) 0 0 ro_no := by
  refine Met.ofW (cc := b_MO_wantOf) (maxL := 5) (ret := (some .int)) (by decide) rfl ?_
  intro p e s m args below meth c s₁ B hml hv
  obtain ⟨rfl, hP, hK⟩ := hv
  have hx := B.exec
  have hb := B.bytes
  have hr := B.returns
  have hts := gw_h (atoms_spec (ws := w_MO_wantOf) B.pre)
  have hown : s.vm.findClass R_MO = some m.cls := findClass_of_methodNamed B.named
  have hlocks := B.notSynchronized
  have hS : va_S ro_no s.heap s.heap [] := va_S.rf
  have hP : va_P (dC, dI) vwCl [(z 0, .inr (7, [.int (nI (g 0)), .int (nI (g 1)), .int (nI (g 2)), .int (nI (g 3)), .int (nI (g 4)), .int (nI (g 5)), .int (nI (g 6)), .ref (z 1), .ref (z 2), .ref (z 3), .ref (z 4), .int (nI (g 7)), .ref (z 5), .ref (z 6), .ref (z 7), .ref (z 8), .ref (z 9), .ref (z 10), .int (nI (g 8)), .ref (z 11), .ref (z 12), .ref (z 13), .ref (z 14)])), (z 10, .inl (cI, 45, .inl (aN ss)))] s.heap := hP
  have hl := lv_entry ([.ref (z 0), .int (nI s9), .int (nI k9)]) (n := 5) (Nat.le_of_ble_eq_true rfl)
  rw [lg_entry_eq]
  generalize (lg_sl ([.ref (z 0), .int (nI s9), .int (nI k9)]) ++ List.replicate (5 - (lg_sl ([.ref (z 0), .int (nI s9), .int (nI k9)])).length) Slot.unset).toArray = ls at hl ⊢
  have hl : lv_has ls 5 [(0, .ref (z 0)), (1, .int (nI s9)), (2, .int (nI k9))] := hl
  obtain ⟨hwa, hwb, hwc⟩ := hW9 k9 hk9
  refine lv_iconst (v := nI 0) hx hb d_MO_wantOf_0 (by decide +kernel) ?_
  refine lv_istore_n (lv' := [(3, .int (nI 0)), (0, .ref (z 0)), (1, .int (nI s9)), (2, .int (nI k9))]) hx hb d_MO_wantOf_1 rfl hl (by decide) rfl (fun ls hl => ?_)
  refine lv_iload_n hx hb d_MO_wantOf_2 rfl (lv_at hl 3 rfl) ?_
  refine lv_istore (lv' := [(4, .int (nI k9)), (3, .int (nI 0)), (0, .ref (z 0)), (1, .int (nI s9)), (2, .int (nI k9))]) hx hb d_MO_wantOf_3 hl (by decide) rfl (fun ls hl => ?_)
  have lp : ∀ (n_lp : Nat) (i9 : Nat) (l9 : Nat), (6 ≤ i9 + n_lp) → (i9 ≤ 5) → (l9 + sumN (fun w => ss (5 * s9 + w)) i9 = k9) → ∀ (H : Heap) (locs : List Loc) (ls : Array Slot), va_P (dC, dI) vwCl [(z 0, .inr (7, [.int (nI (g 0)), .int (nI (g 1)), .int (nI (g 2)), .int (nI (g 3)), .int (nI (g 4)), .int (nI (g 5)), .int (nI (g 6)), .ref (z 1), .ref (z 2), .ref (z 3), .ref (z 4), .int (nI (g 7)), .ref (z 5), .ref (z 6), .ref (z 7), .ref (z 8), .ref (z 9), .ref (z 10), .int (nI (g 8)), .ref (z 11), .ref (z 12), .ref (z 13), .ref (z 14)])), (z 10, .inl (cI, 45, .inl (aN ss)))] H → va_S ro_no s.heap H locs → lv_has ls 5 [(0, .ref (z 0)), (1, .int (nI s9)), (2, .int (nI k9)), (3, .int (nI i9)), (4, .int (nI l9))] → W p l e (headSpec w_MO_wantOf { frames := 0, cells := 0, slots := 0, locals := 0 }).room s m [.ref (z 0), .int (nI s9), .int (nI k9)].toArray below meth c H locs 0 0 (MQ below (ro_Qi (fun r => r = nI (nu k9))) [.ref (z 0), .int (nI s9), .int (nI k9)].toArray s 0 0 ro_no) (F0 m 5 ls []) := by
    intro n_lp
    induction n_lp with
    | zero =>
      intro i9 l9 hm hi hl9
      exact absurd hm (by omega)
    | succ n_lp ih_lp =>
      intro i9 l9 hm hi hl9 H locs ls hP hS hl
      have hi5 : i9 < 5 := by
        rcases Nat.lt_or_ge i9 5 with h | h
        · exact h
        · have := sumN_mono (f := (fun w => ss (5 * s9 + w))) h
          omega
      have hbi := hb9 i9 hi5
      refine lv_iload hx hb d_MO_wantOf_5 (lv_at hl 4 rfl) ?_
      refine lv_aload_n hx hb d_MO_wantOf_7 rfl (lv_at hl 0 rfl) ?_
      refine va_get (D := (dC, dI)) (ci := 7) (v := .ref (z 10)) (C := R_MO) (T := F_MO) (N := 23) hx hb hts in_MO hown hK hP 0 rfl rfl 17 (by decide) (hts _ m_589) (fun _ h9 => h9) rfl d_MO_wantOf_8 ?_
      refine lv_iconst (v := nI 5) hx hb d_MO_wantOf_11 (by decide +kernel) ?_
      refine lv_iload_n hx hb d_MO_wantOf_12 rfl (lv_at hl 1 rfl) ?_
      refine lv_imul hx hb d_MO_wantOf_13 ?_
      refine lv_topr (show _ = nI (5 * s9) from nn_mul _ _) ?_
      refine lv_iload_n hx hb d_MO_wantOf_14 rfl (lv_at hl 3 rfl) ?_
      refine lv_iadd hx hb d_MO_wantOf_15 ?_
      refine lv_topr (show _ = nI ((5 * s9) + i9) from nn_add _ _) ?_
      refine ix_ialdN (i := (5 * s9) + i9) hx hb hK hP 1 0 rfl rfl (by omega) (by decide) d_MO_wantOf_16 ?_
      refine ix_icmp_lt (tgt := 41) hx hb (nI_tI (n := l9) (by omega)) (nI_tI (n := ss ((5 * s9) + i9)) (by omega)) d_MO_wantOf_17 (by decide) (fun c_17 => ?_) (fun c_17 => ?_)
      · refine lv_iload_n hx hb d_MO_wantOf_41 rfl (lv_at hl 3 rfl) ?_
        have e9 : i9 = nu k9 := wo_uniq (f := (fun w => ss (5 * s9 + w))) (k := k9) (by omega) (by show k9 < sumN (fun w => ss (5 * s9 + w)) i9 + ss (5 * s9 + i9); omega) hwa hwb
        exact W.iret (v := nI i9) hx hb hr (fun t ht hW => ⟨⟨nI i9, (), rfl, by rw [e9], trivial⟩, hS.F ht⟩) hS.2.2 d_MO_wantOf_42
      refine lv_iload hx hb d_MO_wantOf_20 (lv_at hl 4 rfl) ?_
      refine lv_aload_n hx hb d_MO_wantOf_22 rfl (lv_at hl 0 rfl) ?_
      refine va_get (D := (dC, dI)) (ci := 7) (v := .ref (z 10)) (C := R_MO) (T := F_MO) (N := 23) hx hb hts in_MO hown hK hP 0 rfl rfl 17 (by decide) (hts _ m_589) (fun _ h9 => h9) rfl d_MO_wantOf_23 ?_
      refine lv_iconst (v := nI 5) hx hb d_MO_wantOf_26 (by decide +kernel) ?_
      refine lv_iload_n hx hb d_MO_wantOf_27 rfl (lv_at hl 1 rfl) ?_
      refine lv_imul hx hb d_MO_wantOf_28 ?_
      refine lv_topr (show _ = nI (5 * s9) from nn_mul _ _) ?_
      refine lv_iload_n hx hb d_MO_wantOf_29 rfl (lv_at hl 3 rfl) ?_
      refine lv_iadd hx hb d_MO_wantOf_30 ?_
      refine lv_topr (show _ = nI ((5 * s9) + i9) from nn_add _ _) ?_
      refine ix_ialdN (i := (5 * s9) + i9) hx hb hK hP 1 0 rfl rfl (by omega) (by decide) d_MO_wantOf_31 ?_
      refine lv_isub hx hb d_MO_wantOf_32 ?_
      refine lv_topr (show _ = nI (l9 - (ss ((5 * s9) + i9))) from nn_subN (by omega)) ?_
      refine lv_istore (lv' := [(4, .int (nI (l9 - (ss ((5 * s9) + i9))))), (0, .ref (z 0)), (1, .int (nI s9)), (2, .int (nI k9)), (3, .int (nI i9))]) hx hb d_MO_wantOf_33 hl (by decide) rfl (fun ls hl => ?_)
      refine lv_iinc (v := nI (i9 + 1)) (lv' := [(3, .int (nI (i9 + 1))), (4, .int (nI (l9 - (ss ((5 * s9) + i9))))), (0, .ref (z 0)), (1, .int (nI s9)), (2, .int (nI k9))]) hx hb d_MO_wantOf_35 hl (k := 4) rfl (n_incN i9 1) (by decide) rfl (fun ls hl => ?_)
      refine lv_goto (tgt := 5) hx hb d_MO_wantOf_38 (by decide) ?_
      exact ih_lp (i9 + 1) (l9 - (ss ((5 * s9) + i9))) (by omega) (by omega) (by show _ + (sumN (fun w => ss (5 * s9 + w)) i9 + ss (5 * s9 + i9)) = k9; omega) _ _ _ hP hS (lv_sub hl [2, 3, 4, 0, 1] rfl)
  exact lp 6 0 k9 (by omega) (by omega) rfl _ _ _ hP hS (lv_sub hl [2, 3, 4, 1, 0] rfl)
set_option maxHeartbeats 4000000 in
set_option maxRecDepth 100000 in
/-- beginOf(s, k) -/
theorem c_MO_beginOf (l : Launch) (dC : Nat → ClassId) (dI : Nat → Nat → Nat) (z g : Nat → Nat) (cI : ClassId) (ww sf sl ss nu : Nat → Nat) (s9 k9 : Nat) (hs9 : s9 < 9) (hW9 : HW (fun w => ss (5 * s9 + w)) nu) (hk9 : k9 ≤ sumN (fun w => ss (5 * s9 + w)) 5) (hb9 : ∀ w, w < 5 → ss (5 * s9 + w) ≤ 1000) (hk8 : k9 < 1000000) : Met l y_MO_beginOf w_MO_beginOf { frames := 1, cells := 0, slots := 0, locals := 24 } (ro_Pc (dC, dI) vwCl [(cI, .int)] [.ref (z 0), .int (nI s9), .int (nI k9)] [(z 0, .inr (7, [.int (nI (g 0)), .int (nI (g 1)), .int (nI (g 2)), .int (nI (g 3)), .int (nI (g 4)), .int (nI (g 5)), .int (nI (g 6)), .ref (z 1), .ref (z 2), .ref (z 3), .ref (z 4), .int (nI (g 7)), .ref (z 5), .ref (z 6), .ref (z 7), .ref (z 8), .ref (z 9), .ref (z 10), .int (nI (g 8)), .ref (z 11), .ref (z 12), .ref (z 13), .ref (z 14)])), (z 1, .inl (cI, 5, .inl (aN ww))), (z 8, .inl (cI, 9, .inl (aN sf))), (z 9, .inl (cI, 9, .inl (aN sl))), (z 10, .inl (cI, 45, .inl (aN ss)))]) (ro_Qi (fun r => r = nI (sl s9 + bgm ww nu (sf s9) k9))) 0 0 ro_no := by
  refine Met.ofW (cc := b_MO_beginOf) (maxL := 5) (ret := (some .int)) (by decide) rfl ?_
  intro p e s m args below meth c s₁ B hml hv
  obtain ⟨rfl, hP, hK⟩ := hv
  have hx := B.exec
  have hb := B.bytes
  have hr := B.returns
  have hts := gw_h (atoms_spec (ws := w_MO_beginOf) B.pre)
  have hown : s.vm.findClass R_MO = some m.cls := findClass_of_methodNamed B.named
  have hlocks := B.notSynchronized
  have hS : va_S ro_no s.heap s.heap [] := va_S.rf
  have hP : va_P (dC, dI) vwCl [(z 0, .inr (7, [.int (nI (g 0)), .int (nI (g 1)), .int (nI (g 2)), .int (nI (g 3)), .int (nI (g 4)), .int (nI (g 5)), .int (nI (g 6)), .ref (z 1), .ref (z 2), .ref (z 3), .ref (z 4), .int (nI (g 7)), .ref (z 5), .ref (z 6), .ref (z 7), .ref (z 8), .ref (z 9), .ref (z 10), .int (nI (g 8)), .ref (z 11), .ref (z 12), .ref (z 13), .ref (z 14)])), (z 1, .inl (cI, 5, .inl (aN ww))), (z 8, .inl (cI, 9, .inl (aN sf))), (z 9, .inl (cI, 9, .inl (aN sl))), (z 10, .inl (cI, 45, .inl (aN ss)))] s.heap := hP
  have hl := lv_entry ([.ref (z 0), .int (nI s9), .int (nI k9)]) (n := 5) (Nat.le_of_ble_eq_true rfl)
  rw [lg_entry_eq]
  generalize (lg_sl ([.ref (z 0), .int (nI s9), .int (nI k9)]) ++ List.replicate (5 - (lg_sl ([.ref (z 0), .int (nI s9), .int (nI k9)])).length) Slot.unset).toArray = ls at hl ⊢
  have hl : lv_has ls 5 [(0, .ref (z 0)), (1, .int (nI s9)), (2, .int (nI k9))] := hl
  refine lv_aload_n hx hb d_MO_beginOf_0 rfl (lv_at hl 0 rfl) ?_
  refine va_get (D := (dC, dI)) (ci := 7) (v := .ref (z 9)) (C := R_MO) (T := F_MO) (N := 23) hx hb hts in_MO hown hK hP 0 rfl rfl 16 (by decide) (hts _ m_588) (fun _ h9 => h9) rfl d_MO_beginOf_1 ?_
  refine lv_iload_n hx hb d_MO_beginOf_4 rfl (lv_at hl 1 rfl) ?_
  refine ix_ialdN (i := s9) hx hb hK hP 3 0 rfl rfl (by omega) (by decide) d_MO_beginOf_5 ?_
  refine lv_istore_n (lv' := [(3, .int (nI (sl s9))), (0, .ref (z 0)), (1, .int (nI s9)), (2, .int (nI k9))]) hx hb d_MO_beginOf_6 rfl hl (by decide) rfl (fun ls hl => ?_)
  refine lv_iconst (v := nI 0) hx hb d_MO_beginOf_7 (by decide +kernel) ?_
  refine lv_istore (lv' := [(4, .int (nI 0)), (3, .int (nI (sl s9))), (0, .ref (z 0)), (1, .int (nI s9)), (2, .int (nI k9))]) hx hb d_MO_beginOf_8 hl (by decide) rfl (fun ls hl => ?_)
  have lp : ∀ (n_lp : Nat) (i9 : Nat) (a9 : Nat), (k9 + 1 ≤ i9 + n_lp) → (i9 ≤ k9) → (a9 = sl s9 + bgm ww nu (sf s9) i9) → ∀ (H : Heap) (locs : List Loc) (ls : Array Slot), va_P (dC, dI) vwCl [(z 0, .inr (7, [.int (nI (g 0)), .int (nI (g 1)), .int (nI (g 2)), .int (nI (g 3)), .int (nI (g 4)), .int (nI (g 5)), .int (nI (g 6)), .ref (z 1), .ref (z 2), .ref (z 3), .ref (z 4), .int (nI (g 7)), .ref (z 5), .ref (z 6), .ref (z 7), .ref (z 8), .ref (z 9), .ref (z 10), .int (nI (g 8)), .ref (z 11), .ref (z 12), .ref (z 13), .ref (z 14)])), (z 1, .inl (cI, 5, .inl (aN ww))), (z 8, .inl (cI, 9, .inl (aN sf))), (z 9, .inl (cI, 9, .inl (aN sl))), (z 10, .inl (cI, 45, .inl (aN ss)))] H → va_S ro_no s.heap H locs → lv_has ls 5 [(0, .ref (z 0)), (1, .int (nI s9)), (2, .int (nI k9)), (3, .int (nI a9)), (4, .int (nI i9))] → W p l e (headSpec w_MO_beginOf { frames := 1, cells := 0, slots := 0, locals := 24 }).room s m [.ref (z 0), .int (nI s9), .int (nI k9)].toArray below meth c H locs 0 0 (MQ below (ro_Qi (fun r => r = nI (sl s9 + bgm ww nu (sf s9) k9))) [.ref (z 0), .int (nI s9), .int (nI k9)].toArray s 0 0 ro_no) (F0 m 10 ls []) := by
    intro n_lp
    induction n_lp with
    | zero =>
      intro i9 a9 hm hi ha9
      exact absurd hm (by omega)
    | succ n_lp ih_lp =>
      intro i9 a9 hm hi ha9 H locs ls hP hS hl
      refine lv_iload hx hb d_MO_beginOf_10 (lv_at hl 4 rfl) ?_
      refine lv_iload_n hx hb d_MO_beginOf_12 rfl (lv_at hl 2 rfl) ?_
      refine ix_icmp_ge (tgt := 44) hx hb (nI_tI (n := i9) (by omega)) (nI_tI (n := k9) (by omega)) d_MO_beginOf_13 (by decide) (fun c_13 => ?_) (fun c_13 => ?_)
      · refine lv_iload_n hx hb d_MO_beginOf_44 rfl (lv_at hl 3 rfl) ?_
        exact W.iret (v := nI a9) hx hb hr (fun t ht hW => ⟨⟨nI a9, (), rfl, by rw [ha9, show i9 = k9 by omega], trivial⟩, hS.F ht⟩) hS.2.2 d_MO_beginOf_45
      refine lv_iload_n hx hb d_MO_beginOf_16 rfl (lv_at hl 3 rfl) ?_
      refine lv_aload_n hx hb d_MO_beginOf_17 rfl (lv_at hl 0 rfl) ?_
      refine va_get (D := (dC, dI)) (ci := 7) (v := .ref (z 1)) (C := R_MO) (T := F_MO) (N := 23) hx hb hts in_MO hown hK hP 0 rfl rfl 7 (by decide) (hts _ m_579) (fun _ h9 => h9) rfl d_MO_beginOf_18 ?_
      refine lv_aload_n hx hb d_MO_beginOf_21 rfl (lv_at hl 0 rfl) ?_
      refine lv_iload_n hx hb d_MO_beginOf_22 rfl (lv_at hl 1 rfl) ?_
      refine lv_iload hx hb d_MO_beginOf_23 (lv_at hl 4 rfl) ?_
      have hPc := hP.sub (ws' := [(z 0, .inr (7, [.int (nI (g 0)), .int (nI (g 1)), .int (nI (g 2)), .int (nI (g 3)), .int (nI (g 4)), .int (nI (g 5)), .int (nI (g 6)), .ref (z 1), .ref (z 2), .ref (z 3), .ref (z 4), .int (nI (g 7)), .ref (z 5), .ref (z 6), .ref (z 7), .ref (z 8), .ref (z 9), .ref (z 10), .int (nI (g 8)), .ref (z 11), .ref (z 12), .ref (z 13), .ref (z 14)])), (z 10, .inl (cI, 45, .inl (aN ss)))]) [0, 4] rfl
      refine ro_calli (va_runV (As := [.int (nI s9), .int (nI i9)]) (rest := [.ref (z 1), .int (nI a9)]) ⟨hx, hb, hml, hown, hts⟩ (c_MO_wantOf l dC dI z g cI ss nu s9 i9 hs9 hW9 (by omega) hb9 (by omega)) (cwV 2 hts (gw_V m_706 m_708 s_23 m_8 m_709) rfl rfl rfl (by decide +kernel) ⟨Nat.le_of_ble_eq_true rfl, Nat.le_of_ble_eq_true rfl⟩) ⟨ro_blind, va_recv hK hPc (ci := 7) (q0 := 0) rfl rfl, fun U hU hW => ⟨rfl, by rw [hU]; exact hPc, va_K.moved hW.alike hK⟩⟩ rfl rfl hl.1 rfl (lv_room (Nat.le_of_ble_eq_true rfl)) d_MO_beginOf_25 ⟨Nat.le_of_ble_eq_true rfl, Nat.le_of_ble_eq_true rfl⟩) hS hP (fun r H locs er hP hS => ?_)
      subst er
      refine ix_ialdN (i := nu i9) hx hb hK hP 1 0 rfl rfl (by exact (hW9 i9 (by omega)).2.2) (by decide) d_MO_beginOf_28 ?_
      refine lv_aload_n hx hb d_MO_beginOf_29 rfl (lv_at hl 0 rfl) ?_
      refine va_get (D := (dC, dI)) (ci := 7) (v := .ref (z 8)) (C := R_MO) (T := F_MO) (N := 23) hx hb hts in_MO hown hK hP 0 rfl rfl 15 (by decide) (hts _ m_587) (fun _ h9 => h9) rfl d_MO_beginOf_30 ?_
      refine lv_iload_n hx hb d_MO_beginOf_33 rfl (lv_at hl 1 rfl) ?_
      refine ix_ialdN (i := s9) hx hb hK hP 2 0 rfl rfl (by omega) (by decide) d_MO_beginOf_34 ?_
      refine lv_iadd hx hb d_MO_beginOf_35 ?_
      refine lv_topr (show _ = nI ((ww (nu i9)) + (sf s9)) from nn_add _ _) ?_
      refine lv_iadd hx hb d_MO_beginOf_36 ?_
      refine lv_topr (show _ = nI (a9 + ((ww (nu i9)) + (sf s9))) from nn_add _ _) ?_
      refine lv_istore_n (lv' := [(3, .int (nI (a9 + ((ww (nu i9)) + (sf s9))))), (0, .ref (z 0)), (1, .int (nI s9)), (2, .int (nI k9)), (4, .int (nI i9))]) hx hb d_MO_beginOf_37 rfl hl (by decide) rfl (fun ls hl => ?_)
      refine lv_iinc (v := nI (i9 + 1)) (lv' := [(4, .int (nI (i9 + 1))), (3, .int (nI (a9 + ((ww (nu i9)) + (sf s9))))), (0, .ref (z 0)), (1, .int (nI s9)), (2, .int (nI k9))]) hx hb d_MO_beginOf_38 hl (k := 4) rfl (n_incN i9 1) (by decide) rfl (fun ls hl => ?_)
      refine lv_goto (tgt := 10) hx hb d_MO_beginOf_41 (by decide) ?_
      exact ih_lp (i9 + 1) (a9 + ((ww (nu i9)) + (sf s9))) (by omega) (by omega) (by rw [ha9]; show _ = sl s9 + (bgm ww nu (sf s9) i9 + (ww (nu i9) + sf s9)); omega) _ _ _ hP hS (lv_sub hl [2, 3, 4, 1, 0] rfl)
  exact lp (k9 + 1) 0 (sl s9) (by omega) (by omega) rfl _ _ _ hP hS (lv_sub hl [2, 3, 4, 1, 0] rfl)
set_option maxHeartbeats 4000000 in
set_option maxRecDepth 100000 in
/-- endOf(s, k) -/
theorem c_MO_endOf (l : Launch) (dC : Nat → ClassId) (dI : Nat → Nat → Nat) (z g : Nat → Nat) (cI : ClassId) (ww sf sl ss nu : Nat → Nat) (s9 k9 : Nat) (hs9 : s9 < 9) (hW9 : HW (fun w => ss (5 * s9 + w)) nu) (hk9 : k9 < sumN (fun w => ss (5 * s9 + w)) 5) (hb9 : ∀ w, w < 5 → ss (5 * s9 + w) ≤ 1000) (hk8 : k9 < 1000000) : Met l y_MO_endOf w_MO_endOf { frames := 2, cells := 0, slots := 0, locals := 48 } (ro_Pc (dC, dI) vwCl [(cI, .int)] [.ref (z 0), .int (nI s9), .int (nI k9)] [(z 0, .inr (7, [.int (nI (g 0)), .int (nI (g 1)), .int (nI (g 2)), .int (nI (g 3)), .int (nI (g 4)), .int (nI (g 5)), .int (nI (g 6)), .ref (z 1), .ref (z 2), .ref (z 3), .ref (z 4), .int (nI (g 7)), .ref (z 5), .ref (z 6), .ref (z 7), .ref (z 8), .ref (z 9), .ref (z 10), .int (nI (g 8)), .ref (z 11), .ref (z 12), .ref (z 13), .ref (z 14)])), (z 1, .inl (cI, 5, .inl (aN ww))), (z 8, .inl (cI, 9, .inl (aN sf))), (z 9, .inl (cI, 9, .inl (aN sl))), (z 10, .inl (cI, 45, .inl (aN ss)))]) (ro_Qi (fun r => r = nI (sl s9 + bgm ww nu (sf s9) k9 + ww (nu k9)))) 0 0 ro_no := by
  refine Met.ofW (cc := b_MO_endOf) (maxL := 3) (ret := (some .int)) (by decide) rfl ?_
  intro p e s m args below meth c s₁ B hml hv
  obtain ⟨rfl, hP, hK⟩ := hv
  have hx := B.exec
  have hb := B.bytes
  have hr := B.returns
  have hts := gw_h (atoms_spec (ws := w_MO_endOf) B.pre)
  have hown : s.vm.findClass R_MO = some m.cls := findClass_of_methodNamed B.named
  have hlocks := B.notSynchronized
  have hS : va_S ro_no s.heap s.heap [] := va_S.rf
  have hP : va_P (dC, dI) vwCl [(z 0, .inr (7, [.int (nI (g 0)), .int (nI (g 1)), .int (nI (g 2)), .int (nI (g 3)), .int (nI (g 4)), .int (nI (g 5)), .int (nI (g 6)), .ref (z 1), .ref (z 2), .ref (z 3), .ref (z 4), .int (nI (g 7)), .ref (z 5), .ref (z 6), .ref (z 7), .ref (z 8), .ref (z 9), .ref (z 10), .int (nI (g 8)), .ref (z 11), .ref (z 12), .ref (z 13), .ref (z 14)])), (z 1, .inl (cI, 5, .inl (aN ww))), (z 8, .inl (cI, 9, .inl (aN sf))), (z 9, .inl (cI, 9, .inl (aN sl))), (z 10, .inl (cI, 45, .inl (aN ss)))] s.heap := hP
  have hl := lv_entry ([.ref (z 0), .int (nI s9), .int (nI k9)]) (n := 3) (Nat.le_of_ble_eq_true rfl)
  rw [lg_entry_eq]
  generalize (lg_sl ([.ref (z 0), .int (nI s9), .int (nI k9)]) ++ List.replicate (3 - (lg_sl ([.ref (z 0), .int (nI s9), .int (nI k9)])).length) Slot.unset).toArray = ls at hl ⊢
  have hl : lv_has ls 3 [(0, .ref (z 0)), (1, .int (nI s9)), (2, .int (nI k9))] := hl
  refine lv_aload_n hx hb d_MO_endOf_0 rfl (lv_at hl 0 rfl) ?_
  refine lv_iload_n hx hb d_MO_endOf_1 rfl (lv_at hl 1 rfl) ?_
  refine lv_iload_n hx hb d_MO_endOf_2 rfl (lv_at hl 2 rfl) ?_
  have hPc := hP.sub (ws' := [(z 0, .inr (7, [.int (nI (g 0)), .int (nI (g 1)), .int (nI (g 2)), .int (nI (g 3)), .int (nI (g 4)), .int (nI (g 5)), .int (nI (g 6)), .ref (z 1), .ref (z 2), .ref (z 3), .ref (z 4), .int (nI (g 7)), .ref (z 5), .ref (z 6), .ref (z 7), .ref (z 8), .ref (z 9), .ref (z 10), .int (nI (g 8)), .ref (z 11), .ref (z 12), .ref (z 13), .ref (z 14)])), (z 1, .inl (cI, 5, .inl (aN ww))), (z 8, .inl (cI, 9, .inl (aN sf))), (z 9, .inl (cI, 9, .inl (aN sl))), (z 10, .inl (cI, 45, .inl (aN ss)))]) [0, 1, 2, 3, 4] rfl
  refine ro_calli (va_runV (As := [.int (nI s9), .int (nI k9)]) (rest := []) ⟨hx, hb, hml, hown, hts⟩ (c_MO_beginOf l dC dI z g cI ww sf sl ss nu s9 k9 hs9 hW9 (by omega) hb9 hk8) (cwV 2 hts (gw_V m_710 m_712 s_24 m_8 m_713) rfl rfl rfl (by decide +kernel) ⟨Nat.le_of_ble_eq_true rfl, Nat.le_of_ble_eq_true rfl⟩) ⟨ro_blind, va_recv hK hPc (ci := 7) (q0 := 0) rfl rfl, fun U hU hW => ⟨rfl, by rw [hU]; exact hPc, va_K.moved hW.alike hK⟩⟩ rfl rfl hl.1 rfl (lv_room (Nat.le_of_ble_eq_true rfl)) d_MO_endOf_3 ⟨Nat.le_of_ble_eq_true rfl, Nat.le_of_ble_eq_true rfl⟩) hS hP (fun r H locs er hP hS => ?_)
  subst er
  refine lv_aload_n hx hb d_MO_endOf_6 rfl (lv_at hl 0 rfl) ?_
  refine va_get (D := (dC, dI)) (ci := 7) (v := .ref (z 1)) (C := R_MO) (T := F_MO) (N := 23) hx hb hts in_MO hown hK hP 0 rfl rfl 7 (by decide) (hts _ m_579) (fun _ h9 => h9) rfl d_MO_endOf_7 ?_
  refine lv_aload_n hx hb d_MO_endOf_10 rfl (lv_at hl 0 rfl) ?_
  refine lv_iload_n hx hb d_MO_endOf_11 rfl (lv_at hl 1 rfl) ?_
  refine lv_iload_n hx hb d_MO_endOf_12 rfl (lv_at hl 2 rfl) ?_
  have hPc := hP.sub (ws' := [(z 0, .inr (7, [.int (nI (g 0)), .int (nI (g 1)), .int (nI (g 2)), .int (nI (g 3)), .int (nI (g 4)), .int (nI (g 5)), .int (nI (g 6)), .ref (z 1), .ref (z 2), .ref (z 3), .ref (z 4), .int (nI (g 7)), .ref (z 5), .ref (z 6), .ref (z 7), .ref (z 8), .ref (z 9), .ref (z 10), .int (nI (g 8)), .ref (z 11), .ref (z 12), .ref (z 13), .ref (z 14)])), (z 10, .inl (cI, 45, .inl (aN ss)))]) [0, 4] rfl
  refine ro_calli (va_runV (As := [.int (nI s9), .int (nI k9)]) (rest := [.ref (z 1), .int (nI (sl s9 + bgm ww nu (sf s9) k9))]) ⟨hx, hb, hml, hown, hts⟩ (c_MO_wantOf l dC dI z g cI ss nu s9 k9 hs9 hW9 hk9 hb9 hk8) (cwV 2 hts (gw_V m_706 m_708 s_23 m_8 m_709) rfl rfl rfl (by decide +kernel) ⟨Nat.le_of_ble_eq_true rfl, Nat.le_of_ble_eq_true rfl⟩) ⟨ro_blind, va_recv hK hPc (ci := 7) (q0 := 0) rfl rfl, fun U hU hW => ⟨rfl, by rw [hU]; exact hPc, va_K.moved hW.alike hK⟩⟩ rfl rfl hl.1 rfl (lv_room (Nat.le_of_ble_eq_true rfl)) d_MO_endOf_13 ⟨Nat.le_of_ble_eq_true rfl, Nat.le_of_ble_eq_true rfl⟩) hS hP (fun r H locs er hP hS => ?_)
  subst er
  refine ix_ialdN (i := nu k9) hx hb hK hP 1 0 rfl rfl (by exact (hW9 k9 hk9).2.2) (by decide) d_MO_endOf_16 ?_
  refine lv_iadd hx hb d_MO_endOf_17 ?_
  refine lv_topr (show _ = nI ((sl s9 + bgm ww nu (sf s9) k9) + (ww (nu k9))) from nn_add _ _) ?_
  exact W.iret (v := nI ((sl s9 + bgm ww nu (sf s9) k9) + (ww (nu k9)))) hx hb hr (fun t ht hW => ⟨⟨nI ((sl s9 + bgm ww nu (sf s9) k9) + (ww (nu k9))), (), rfl, rfl, trivial⟩, hS.F ht⟩) hS.2.2 d_MO_endOf_18
end
section
section IXL
variable {p : Program} {l : Launch} {e : Env} {R : Room} {s : State} {m : MethodId} {args : Array Value} {below : List Frame} {meth : Method} {c : Code} {H : Heap} {locs : List Loc} {cells slots : Nat} {Q : State → Prop} {cc : ByteArray} {pc : Nat} {ls : Array Slot} {rest : List Value}
theorem lv_toplr {x y : Int64} (h : x = y) (k : W p l e R s m args below meth c H locs cells slots Q (F0 m pc ls (.long y :: rest))) : W p l e R s m args below meth c H locs cells slots Q (F0 m pc ls (.long x :: rest)) := by
  subst h
  exact k
theorem ix_ldiv (hexec : p.tables.exec = Jvm.exec) (hb : c.code = cc) {x d : Nat} (hx : x < 9223372036854775808) (h0 : 0 < d) (hd : d < 9223372036854775808) (hdg : decode cc pc = .ok (.ldiv, 1))
    (k : W p l e R s m args below meth c H locs cells slots Q (F0 m (pc + 1) ls (.long (lN (x / d)) :: rest))) : W p l e R s m args below meth c H locs cells slots Q (F0 m pc ls (.long (lN d) :: .long (lN x) :: rest)) := by
  refine lv_ldiv hexec hb hdg ?_ ?_
  · intro h
    have : lN d = lN 0 := h
    rw [pk_lEQ (by omega) (by decide)] at this
    omega
  · rw [pk_lDiv (by omega) h0 (by omega)]
    exact k
end IXL
/-- is x the begin or the end of one of the first n strips -/
def hkB (B E : Nat → Nat) (x : Nat) : Nat → Bool
  | 0 => false
  | n + 1 => (hkB B E x n || B n == x) || E n == x
theorem hkB_iff {B E : Nat → Nat} {x : Nat} : ∀ {n : Nat}, hkB B E x n = true ↔ ∃ k, k < n ∧ (B k = x ∨ E k = x)
  | 0 => by simp [hkB]
  | n + 1 => by
    rw [hkB, Bool.or_eq_true, Bool.or_eq_true, hkB_iff (n := n), beq_iff_eq, beq_iff_eq]
    constructor
    · rintro ((⟨k, h1, h2⟩ | h) | h)
      · exact ⟨k, by omega, h2⟩
      · exact ⟨n, by omega, Or.inl h⟩
      · exact ⟨n, by omega, Or.inr h⟩
    · rintro ⟨k, h1, h2⟩
      by_cases e : k = n
      · subst e
        rcases h2 with h2 | h2
        · exact Or.inl (Or.inr h2)
        · exact Or.inr h2
      · exact Or.inl (Or.inl ⟨k, by omega, h2⟩)
theorem hkB_S {B E : Nat → Nat} {x n v : Nat} (hv : v = b01 (hkB B E x n = true)) (w : Nat) (hw : w ≤ 1) (h : w = 1 ↔ (v = 1 ∨ B n = x ∨ E n = x)) : w = b01 (hkB B E x (n + 1) = true) := by
  have h1 : (hkB B E x (n + 1) = true) ↔ (v = 1 ∨ B n = x ∨ E n = x) := by
    rw [hv, b01_1, hkB, Bool.or_eq_true, Bool.or_eq_true, beq_iff_eq, beq_iff_eq, or_assoc]
  by_cases g : w = 1
  · rw [b01_t (h1.mpr (h.mp g)), g]
  · rw [b01_f (fun q => g (h.mpr (h1.mp q)))]
    omega
/-- the moves to strips (B, E), H: which places the other one has -/
def mvF (B E : Nat → Nat) (H : Nat → Bool) : Nat → Nat
  | 0 => 0
  | k + 1 => mvF B E H k + (if joiB B E k = true ∨ H (B k) = true then 0 else 1) + (if H (E k) = true then 0 else 1)
theorem mvF_le (B E : Nat → Nat) (H : Nat → Bool) : ∀ k, mvF B E H k ≤ 2 * k
  | 0 => Nat.le_refl _
  | k + 1 => by
    have := mvF_le B E H k
    rw [mvF]
    split <;> split <;> omega
theorem mvF_S {B E : Nat → Nat} {H : Nat → Bool} {k n a b : Nat} (hn : n = mvF B E H k) (ha : a = if joiB B E k = true ∨ H (B k) = true then 0 else 1) (hb : b = if H (E k) = true then 0 else 1) : n + a + b = mvF B E H (k + 1) := by
  rw [hn, ha, hb]
  rfl
/-- where the strips of a set-up begin and end -/
def Bm (ww nu : Nat → Nat) (kf lf : Nat) : Nat → Nat := fun k => lf + bgm ww nu kf k
def Em (ww nu : Nat → Nat) (kf lf : Nat) : Nat → Nat := fun k => lf + bgm ww nu kf k + ww (nu k)
end
section
set_option maxHeartbeats 4000000 in
set_option maxRecDepth 100000 in
/-- weightOf(s, k) -/
theorem c_MO_weightOf (l : Launch) (dC : Nat → ClassId) (dI : Nat → Nat → Nat) (z g : Nat → Nat) (cI : ClassId) (sw sk : Nat → Nat) (ww sf sl ss : Nat → Nat) (nu : Nat → Nat) (s9 k9 : Nat) (hs9s9 : s9 < 9) (hW9s9 : HW (fun w => ss (5 * s9 + w)) nu) (hb9s9 : ∀ w, w < 5 → ss (5 * s9 + w) ≤ 6) (hp9s9 : ∀ k, k < sumN (fun w => ss (5 * s9 + w)) 5 → Em ww nu (sf s9) (sl s9) k < 1000000) (hk9 : k9 < sumN (fun w => ss (5 * s9 + w)) 5) (h1 : 1 ≤ sw s9) (h2 : sw s9 < 2147483648) (h3 : sk s9 ≤ 50000) : Met l y_MO_weightOf w_MO_weightOf { frames := 3, cells := 0, slots := 0, locals := 70 } (ro_Pc (dC, dI) vwCl [(cI, .int)] [.ref (z 0), .int (nI s9), .int (nI k9)] [(z 0, .inr (7, [.int (nI (g 0)), .int (nI (g 1)), .int (nI (g 2)), .int (nI (g 3)), .int (nI (g 4)), .int (nI (g 5)), .int (nI (g 6)), .ref (z 1), .ref (z 2), .ref (z 3), .ref (z 4), .int (nI (g 7)), .ref (z 5), .ref (z 6), .ref (z 7), .ref (z 8), .ref (z 9), .ref (z 10), .int (nI (g 8)), .ref (z 11), .ref (z 12), .ref (z 13), .ref (z 14)])), (z 1, .inl (cI, 5, .inl (aN ww))), (z 5, .inl (cI, 9, .inl (aN sw))), (z 6, .inl (cI, 9, .inl (aN sk))), (z 8, .inl (cI, 9, .inl (aN sf))), (z 9, .inl (cI, 9, .inl (aN sl))), (z 10, .inl (cI, 45, .inl (aN ss)))]) (ro_Qi (fun r => r = nI (sk s9 * Em ww nu (sf s9) (sl s9) k9 / sw s9 - sk s9 * Bm ww nu (sf s9) (sl s9) k9 / sw s9))) 0 0 ro_no := by
  refine Met.ofW (cc := b_MO_weightOf) (maxL := 7) (ret := (some .int)) (by decide) rfl ?_
  intro p e s m args below meth c s₁ B hml hv
  obtain ⟨rfl, hP, hK⟩ := hv
  have hx := B.exec
  have hb := B.bytes
  have hr := B.returns
  have hts := gw_h (atoms_spec (ws := w_MO_weightOf) B.pre)
  have hown : s.vm.findClass R_MO = some m.cls := findClass_of_methodNamed B.named
  have hlocks := B.notSynchronized
  have hS : va_S ro_no s.heap s.heap [] := va_S.rf
  have hP : va_P (dC, dI) vwCl [(z 0, .inr (7, [.int (nI (g 0)), .int (nI (g 1)), .int (nI (g 2)), .int (nI (g 3)), .int (nI (g 4)), .int (nI (g 5)), .int (nI (g 6)), .ref (z 1), .ref (z 2), .ref (z 3), .ref (z 4), .int (nI (g 7)), .ref (z 5), .ref (z 6), .ref (z 7), .ref (z 8), .ref (z 9), .ref (z 10), .int (nI (g 8)), .ref (z 11), .ref (z 12), .ref (z 13), .ref (z 14)])), (z 1, .inl (cI, 5, .inl (aN ww))), (z 5, .inl (cI, 9, .inl (aN sw))), (z 6, .inl (cI, 9, .inl (aN sk))), (z 8, .inl (cI, 9, .inl (aN sf))), (z 9, .inl (cI, 9, .inl (aN sl))), (z 10, .inl (cI, 45, .inl (aN ss)))] s.heap := hP
  have hl := lv_entry ([.ref (z 0), .int (nI s9), .int (nI k9)]) (n := 7) (Nat.le_of_ble_eq_true rfl)
  rw [lg_entry_eq]
  generalize (lg_sl ([.ref (z 0), .int (nI s9), .int (nI k9)]) ++ List.replicate (7 - (lg_sl ([.ref (z 0), .int (nI s9), .int (nI k9)])).length) Slot.unset).toArray = ls at hl ⊢
  have hl : lv_has ls 7 [(0, .ref (z 0)), (1, .int (nI s9)), (2, .int (nI k9))] := hl
  have h30s9 : sumN (fun w => ss (5 * s9 + w)) 5 ≤ 30 := by have h0 := hb9s9 0 (by omega); have h1 := hb9s9 1 (by omega); have h2 := hb9s9 2 (by omega); have h3 := hb9s9 3 (by omega); have h4 := hb9s9 4 (by omega); simp only [sumN]; omega
  have hbbs9 : ∀ w, w < 5 → ss (5 * s9 + w) ≤ 1000 := fun w hw => Nat.le_trans (hb9s9 w hw) (by decide)
  have hE := hp9s9 k9 hk9
  have hBE : Bm ww nu (sf s9) (sl s9) k9 ≤ Em ww nu (sf s9) (sl s9) k9 := Nat.le_add_right _ _
  have hm1 : sk s9 * Em ww nu (sf s9) (sl s9) k9 ≤ 50000 * 1000000 := Nat.mul_le_mul h3 (by omega)
  have hm2 : sk s9 * Bm ww nu (sf s9) (sl s9) k9 ≤ 50000 * 1000000 := Nat.mul_le_mul h3 (by omega)
  refine lv_aload_n hx hb d_MO_weightOf_0 rfl (lv_at hl 0 rfl) ?_
  refine va_get (D := (dC, dI)) (ci := 7) (v := .ref (z 6)) (C := R_MO) (T := F_MO) (N := 23) hx hb hts in_MO hown hK hP 0 rfl rfl 13 (by decide) (hts _ m_585) (fun _ h9 => h9) rfl d_MO_weightOf_1 ?_
  refine lv_iload_n hx hb d_MO_weightOf_4 rfl (lv_at hl 1 rfl) ?_
  refine ix_ialdN (i := s9) hx hb hK hP 3 0 rfl rfl (by omega) (by decide) d_MO_weightOf_5 ?_
  refine lv_i2l (v := lN (sk s9)) hx hb d_MO_weightOf_6 (nI_l (by omega)) ?_
  refine lv_aload_n hx hb d_MO_weightOf_7 rfl (lv_at hl 0 rfl) ?_
  refine lv_iload_n hx hb d_MO_weightOf_8 rfl (lv_at hl 1 rfl) ?_
  refine lv_iload_n hx hb d_MO_weightOf_9 rfl (lv_at hl 2 rfl) ?_
  have hPc := hP.sub (ws' := [(z 0, .inr (7, [.int (nI (g 0)), .int (nI (g 1)), .int (nI (g 2)), .int (nI (g 3)), .int (nI (g 4)), .int (nI (g 5)), .int (nI (g 6)), .ref (z 1), .ref (z 2), .ref (z 3), .ref (z 4), .int (nI (g 7)), .ref (z 5), .ref (z 6), .ref (z 7), .ref (z 8), .ref (z 9), .ref (z 10), .int (nI (g 8)), .ref (z 11), .ref (z 12), .ref (z 13), .ref (z 14)])), (z 1, .inl (cI, 5, .inl (aN ww))), (z 8, .inl (cI, 9, .inl (aN sf))), (z 9, .inl (cI, 9, .inl (aN sl))), (z 10, .inl (cI, 45, .inl (aN ss)))]) [0, 1, 4, 5, 6] rfl
  refine ro_calli (va_runV (As := [.int (nI s9), .int (nI k9)]) (rest := [.long (lN (sk s9))]) ⟨hx, hb, hml, hown, hts⟩ (c_MO_endOf l dC dI z g cI ww sf sl ss nu s9 k9 hs9s9 hW9s9 (by omega) hbbs9 (by omega)) (cwV 2 hts (gw_V m_714 m_716 s_25 m_8 m_717) rfl rfl rfl (by decide +kernel) ⟨Nat.le_of_ble_eq_true rfl, Nat.le_of_ble_eq_true rfl⟩) ⟨ro_blind, va_recv hK hPc (ci := 7) (q0 := 0) rfl rfl, fun U hU hW => ⟨rfl, by rw [hU]; exact hPc, va_K.moved hW.alike hK⟩⟩ rfl rfl hl.1 rfl (lv_room (Nat.le_of_ble_eq_true rfl)) d_MO_weightOf_10 ⟨Nat.le_of_ble_eq_true rfl, Nat.le_of_ble_eq_true rfl⟩) hS hP (fun r H locs er hP hS => ?_)
  subst er
  refine lv_i2l (v := lN (Em ww nu (sf s9) (sl s9) k9)) hx hb d_MO_weightOf_13 (nI_l (by show Em ww nu (sf s9) (sl s9) k9 < 2 ^ 31; omega)) ?_
  refine lv_lmul hx hb d_MO_weightOf_14 ?_
  refine lv_toplr (show _ = lN ((sk s9) * (Em ww nu (sf s9) (sl s9) k9)) from lN_mul _ _) ?_
  refine lv_aload_n hx hb d_MO_weightOf_15 rfl (lv_at hl 0 rfl) ?_
  refine va_get (D := (dC, dI)) (ci := 7) (v := .ref (z 5)) (C := R_MO) (T := F_MO) (N := 23) hx hb hts in_MO hown hK hP 0 rfl rfl 12 (by decide) (hts _ m_584) (fun _ h9 => h9) rfl d_MO_weightOf_16 ?_
  refine lv_iload_n hx hb d_MO_weightOf_19 rfl (lv_at hl 1 rfl) ?_
  refine ix_ialdN (i := s9) hx hb hK hP 2 0 rfl rfl (by omega) (by decide) d_MO_weightOf_20 ?_
  refine lv_i2l (v := lN (sw s9)) hx hb d_MO_weightOf_21 (nI_l (by omega)) ?_
  refine ix_ldiv hx hb (x := (sk s9) * (Em ww nu (sf s9) (sl s9) k9)) (d := sw s9) (by omega) (by omega) (by omega) d_MO_weightOf_22 ?_
  refine lv_lstore_n (lv' := [(3, .long (lN (((sk s9) * (Em ww nu (sf s9) (sl s9) k9)) / (sw s9)))), (0, .ref (z 0)), (1, .int (nI s9)), (2, .int (nI k9))]) hx hb d_MO_weightOf_23 rfl hl (by decide) rfl (fun ls hl => ?_)
  refine lv_aload_n hx hb d_MO_weightOf_24 rfl (lv_at hl 1 rfl) ?_
  refine va_get (D := (dC, dI)) (ci := 7) (v := .ref (z 6)) (C := R_MO) (T := F_MO) (N := 23) hx hb hts in_MO hown hK hP 0 rfl rfl 13 (by decide) (hts _ m_585) (fun _ h9 => h9) rfl d_MO_weightOf_25 ?_
  refine lv_iload_n hx hb d_MO_weightOf_28 rfl (lv_at hl 2 rfl) ?_
  refine ix_ialdN (i := s9) hx hb hK hP 3 0 rfl rfl (by omega) (by decide) d_MO_weightOf_29 ?_
  refine lv_i2l (v := lN (sk s9)) hx hb d_MO_weightOf_30 (nI_l (by omega)) ?_
  refine lv_aload_n hx hb d_MO_weightOf_31 rfl (lv_at hl 1 rfl) ?_
  refine lv_iload_n hx hb d_MO_weightOf_32 rfl (lv_at hl 2 rfl) ?_
  refine lv_iload_n hx hb d_MO_weightOf_33 rfl (lv_at hl 3 rfl) ?_
  have hPc := hP.sub (ws' := [(z 0, .inr (7, [.int (nI (g 0)), .int (nI (g 1)), .int (nI (g 2)), .int (nI (g 3)), .int (nI (g 4)), .int (nI (g 5)), .int (nI (g 6)), .ref (z 1), .ref (z 2), .ref (z 3), .ref (z 4), .int (nI (g 7)), .ref (z 5), .ref (z 6), .ref (z 7), .ref (z 8), .ref (z 9), .ref (z 10), .int (nI (g 8)), .ref (z 11), .ref (z 12), .ref (z 13), .ref (z 14)])), (z 1, .inl (cI, 5, .inl (aN ww))), (z 8, .inl (cI, 9, .inl (aN sf))), (z 9, .inl (cI, 9, .inl (aN sl))), (z 10, .inl (cI, 45, .inl (aN ss)))]) [0, 1, 4, 5, 6] rfl
  refine ro_calli (va_runV (As := [.int (nI s9), .int (nI k9)]) (rest := [.long (lN (sk s9))]) ⟨hx, hb, hml, hown, hts⟩ (c_MO_beginOf l dC dI z g cI ww sf sl ss nu s9 k9 hs9s9 hW9s9 (by omega) hbbs9 (by omega)) (cwV 2 hts (gw_V m_710 m_712 s_24 m_8 m_713) rfl rfl rfl (by decide +kernel) ⟨Nat.le_of_ble_eq_true rfl, Nat.le_of_ble_eq_true rfl⟩) ⟨ro_blind, va_recv hK hPc (ci := 7) (q0 := 0) rfl rfl, fun U hU hW => ⟨rfl, by rw [hU]; exact hPc, va_K.moved hW.alike hK⟩⟩ rfl rfl hl.1 rfl (lv_room (Nat.le_of_ble_eq_true rfl)) d_MO_weightOf_34 ⟨Nat.le_of_ble_eq_true rfl, Nat.le_of_ble_eq_true rfl⟩) hS hP (fun r H locs er hP hS => ?_)
  subst er
  refine lv_i2l (v := lN (Bm ww nu (sf s9) (sl s9) k9)) hx hb d_MO_weightOf_37 (nI_l (by show Bm ww nu (sf s9) (sl s9) k9 < 2 ^ 31; omega)) ?_
  refine lv_lmul hx hb d_MO_weightOf_38 ?_
  refine lv_toplr (show _ = lN ((sk s9) * (Bm ww nu (sf s9) (sl s9) k9)) from lN_mul _ _) ?_
  refine lv_aload_n hx hb d_MO_weightOf_39 rfl (lv_at hl 1 rfl) ?_
  refine va_get (D := (dC, dI)) (ci := 7) (v := .ref (z 5)) (C := R_MO) (T := F_MO) (N := 23) hx hb hts in_MO hown hK hP 0 rfl rfl 12 (by decide) (hts _ m_584) (fun _ h9 => h9) rfl d_MO_weightOf_40 ?_
  refine lv_iload_n hx hb d_MO_weightOf_43 rfl (lv_at hl 2 rfl) ?_
  refine ix_ialdN (i := s9) hx hb hK hP 2 0 rfl rfl (by omega) (by decide) d_MO_weightOf_44 ?_
  refine lv_i2l (v := lN (sw s9)) hx hb d_MO_weightOf_45 (nI_l (by omega)) ?_
  refine ix_ldiv hx hb (x := (sk s9) * (Bm ww nu (sf s9) (sl s9) k9)) (d := sw s9) (by omega) (by omega) (by omega) d_MO_weightOf_46 ?_
  refine lv_lstore (lv' := [(5, .long (lN (((sk s9) * (Bm ww nu (sf s9) (sl s9) k9)) / (sw s9)))), (3, .long (lN (((sk s9) * (Em ww nu (sf s9) (sl s9) k9)) / (sw s9)))), (0, .ref (z 0)), (1, .int (nI s9)), (2, .int (nI k9))]) hx hb d_MO_weightOf_47 hl (by decide) rfl (fun ls hl => ?_)
  refine lv_lload_n hx hb d_MO_weightOf_49 rfl (lv_at hl 1 rfl) ?_
  refine lv_lload hx hb d_MO_weightOf_50 (lv_at hl 0 rfl) ?_
  refine lv_lsub hx hb d_MO_weightOf_52 ?_
  refine lv_toplr (show _ = lN ((((sk s9) * (Em ww nu (sf s9) (sl s9) k9)) / (sw s9)) - (((sk s9) * (Bm ww nu (sf s9) (sl s9) k9)) / (sw s9))) from lN_sub (by exact Nat.div_le_div_right (Nat.mul_le_mul_left _ hBE))) ?_
  refine lv_l2i (v := nI ((((sk s9) * (Em ww nu (sf s9) (sl s9) k9)) / (sw s9)) - (((sk s9) * (Bm ww nu (sf s9) (sl s9) k9)) / (sw s9)))) hx hb d_MO_weightOf_53 (lN_i _) ?_
  exact W.iret (v := nI ((((sk s9) * (Em ww nu (sf s9) (sl s9) k9)) / (sw s9)) - (((sk s9) * (Bm ww nu (sf s9) (sl s9) k9)) / (sw s9)))) hx hb hr (fun t ht hW => ⟨⟨nI ((((sk s9) * (Em ww nu (sf s9) (sl s9) k9)) / (sw s9)) - (((sk s9) * (Bm ww nu (sf s9) (sl s9) k9)) / (sw s9))), (), rfl, rfl, trivial⟩, hS.F ht⟩) hS.2.2 d_MO_weightOf_54
set_option maxHeartbeats 4000000 in
set_option maxRecDepth 100000 in
/-- hasKnife(s, place) -/
theorem c_MO_hasKnife (l : Launch) (dC : Nat → ClassId) (dI : Nat → Nat → Nat) (z g : Nat → Nat) (cI : ClassId) (ww sf sl ss : Nat → Nat) (nu : Nat → Nat) (s9 x9 : Nat) (hx9 : x9 < 2147483648) (hs9s9 : s9 < 9) (hW9s9 : HW (fun w => ss (5 * s9 + w)) nu) (hb9s9 : ∀ w, w < 5 → ss (5 * s9 + w) ≤ 6) (hp9s9 : ∀ k, k < sumN (fun w => ss (5 * s9 + w)) 5 → Em ww nu (sf s9) (sl s9) k < 1000000) : Met l y_MO_hasKnife w_MO_hasKnife { frames := 3, cells := 0, slots := 0, locals := 70 } (ro_Pc (dC, dI) vwCl [(cI, .int)] [.ref (z 0), .int (nI s9), .int (nI x9)] [(z 0, .inr (7, [.int (nI (g 0)), .int (nI (g 1)), .int (nI (g 2)), .int (nI (g 3)), .int (nI (g 4)), .int (nI (g 5)), .int (nI (g 6)), .ref (z 1), .ref (z 2), .ref (z 3), .ref (z 4), .int (nI (g 7)), .ref (z 5), .ref (z 6), .ref (z 7), .ref (z 8), .ref (z 9), .ref (z 10), .int (nI (g 8)), .ref (z 11), .ref (z 12), .ref (z 13), .ref (z 14)])), (z 1, .inl (cI, 5, .inl (aN ww))), (z 8, .inl (cI, 9, .inl (aN sf))), (z 9, .inl (cI, 9, .inl (aN sl))), (z 10, .inl (cI, 45, .inl (aN ss)))]) (ro_Qi (fun r => r = nI (b01 (hkB (Bm ww nu (sf s9) (sl s9)) (Em ww nu (sf s9) (sl s9)) x9 (sumN (fun w => ss (5 * s9 + w)) 5) = true)))) 0 0 ro_no := by
  refine Met.ofW (cc := b_MO_hasKnife) (maxL := 5) (ret := (some .boolean)) (by decide) rfl ?_
  intro p e s m args below meth c s₁ B hml hv
  obtain ⟨rfl, hP, hK⟩ := hv
  have hx := B.exec
  have hb := B.bytes
  have hr := B.returns
  have hts := gw_h (atoms_spec (ws := w_MO_hasKnife) B.pre)
  have hown : s.vm.findClass R_MO = some m.cls := findClass_of_methodNamed B.named
  have hlocks := B.notSynchronized
  have hS : va_S ro_no s.heap s.heap [] := va_S.rf
  have hP : va_P (dC, dI) vwCl [(z 0, .inr (7, [.int (nI (g 0)), .int (nI (g 1)), .int (nI (g 2)), .int (nI (g 3)), .int (nI (g 4)), .int (nI (g 5)), .int (nI (g 6)), .ref (z 1), .ref (z 2), .ref (z 3), .ref (z 4), .int (nI (g 7)), .ref (z 5), .ref (z 6), .ref (z 7), .ref (z 8), .ref (z 9), .ref (z 10), .int (nI (g 8)), .ref (z 11), .ref (z 12), .ref (z 13), .ref (z 14)])), (z 1, .inl (cI, 5, .inl (aN ww))), (z 8, .inl (cI, 9, .inl (aN sf))), (z 9, .inl (cI, 9, .inl (aN sl))), (z 10, .inl (cI, 45, .inl (aN ss)))] s.heap := hP
  have hl := lv_entry ([.ref (z 0), .int (nI s9), .int (nI x9)]) (n := 5) (Nat.le_of_ble_eq_true rfl)
  rw [lg_entry_eq]
  generalize (lg_sl ([.ref (z 0), .int (nI s9), .int (nI x9)]) ++ List.replicate (5 - (lg_sl ([.ref (z 0), .int (nI s9), .int (nI x9)])).length) Slot.unset).toArray = ls at hl ⊢
  have hl : lv_has ls 5 [(0, .ref (z 0)), (1, .int (nI s9)), (2, .int (nI x9))] := hl
  have h30s9 : sumN (fun w => ss (5 * s9 + w)) 5 ≤ 30 := by have h0 := hb9s9 0 (by omega); have h1 := hb9s9 1 (by omega); have h2 := hb9s9 2 (by omega); have h3 := hb9s9 3 (by omega); have h4 := hb9s9 4 (by omega); simp only [sumN]; omega
  have hbbs9 : ∀ w, w < 5 → ss (5 * s9 + w) ≤ 1000 := fun w hw => Nat.le_trans (hb9s9 w hw) (by decide)
  refine lv_iconst (v := nI 0) hx hb d_MO_hasKnife_0 (by decide +kernel) ?_
  refine lv_istore_n (lv' := [(3, .int (nI 0)), (0, .ref (z 0)), (1, .int (nI s9)), (2, .int (nI x9))]) hx hb d_MO_hasKnife_1 rfl hl (by decide) rfl (fun ls hl => ?_)
  refine lv_iconst (v := nI 0) hx hb d_MO_hasKnife_2 (by decide +kernel) ?_
  refine lv_istore (lv' := [(4, .int (nI 0)), (3, .int (nI 0)), (0, .ref (z 0)), (1, .int (nI s9)), (2, .int (nI x9))]) hx hb d_MO_hasKnife_3 hl (by decide) rfl (fun ls hl => ?_)
  have lp : ∀ (n_lp : Nat) (k9 : Nat) (v9 : Nat), (sumN (fun w => ss (5 * s9 + w)) 5 + 1 ≤ k9 + n_lp) → (k9 ≤ sumN (fun w => ss (5 * s9 + w)) 5) → (v9 ≤ 1) → (v9 = b01 (hkB (Bm ww nu (sf s9) (sl s9)) (Em ww nu (sf s9) (sl s9)) x9 k9 = true)) → ∀ (H : Heap) (locs : List Loc) (ls : Array Slot), va_P (dC, dI) vwCl [(z 0, .inr (7, [.int (nI (g 0)), .int (nI (g 1)), .int (nI (g 2)), .int (nI (g 3)), .int (nI (g 4)), .int (nI (g 5)), .int (nI (g 6)), .ref (z 1), .ref (z 2), .ref (z 3), .ref (z 4), .int (nI (g 7)), .ref (z 5), .ref (z 6), .ref (z 7), .ref (z 8), .ref (z 9), .ref (z 10), .int (nI (g 8)), .ref (z 11), .ref (z 12), .ref (z 13), .ref (z 14)])), (z 1, .inl (cI, 5, .inl (aN ww))), (z 8, .inl (cI, 9, .inl (aN sf))), (z 9, .inl (cI, 9, .inl (aN sl))), (z 10, .inl (cI, 45, .inl (aN ss)))] H → va_S ro_no s.heap H locs → lv_has ls 5 [(0, .ref (z 0)), (1, .int (nI s9)), (2, .int (nI x9)), (3, .int (nI v9)), (4, .int (nI k9))] → W p l e (headSpec w_MO_hasKnife { frames := 3, cells := 0, slots := 0, locals := 70 }).room s m [.ref (z 0), .int (nI s9), .int (nI x9)].toArray below meth c H locs 0 0 (MQ below (ro_Qi (fun r => r = nI (b01 (hkB (Bm ww nu (sf s9) (sl s9)) (Em ww nu (sf s9) (sl s9)) x9 (sumN (fun w => ss (5 * s9 + w)) 5) = true)))) [.ref (z 0), .int (nI s9), .int (nI x9)].toArray s 0 0 ro_no) (F0 m 5 ls []) := by
    intro n_lp
    induction n_lp with
    | zero =>
      intro k9 v9 hm hk hv1 hv
      exact absurd hm (by omega)
    | succ n_lp ih_lp =>
      intro k9 v9 hm hk hv1 hv H locs ls hP hS hl
      refine lv_iload hx hb d_MO_hasKnife_5 (lv_at hl 4 rfl) ?_
      refine lv_aload_n hx hb d_MO_hasKnife_7 rfl (lv_at hl 0 rfl) ?_
      refine lv_iload_n hx hb d_MO_hasKnife_8 rfl (lv_at hl 1 rfl) ?_
      have hPc := hP.sub (ws' := [(z 0, .inr (7, [.int (nI (g 0)), .int (nI (g 1)), .int (nI (g 2)), .int (nI (g 3)), .int (nI (g 4)), .int (nI (g 5)), .int (nI (g 6)), .ref (z 1), .ref (z 2), .ref (z 3), .ref (z 4), .int (nI (g 7)), .ref (z 5), .ref (z 6), .ref (z 7), .ref (z 8), .ref (z 9), .ref (z 10), .int (nI (g 8)), .ref (z 11), .ref (z 12), .ref (z 13), .ref (z 14)])), (z 10, .inl (cI, 45, .inl (aN ss)))]) [0, 4] rfl
      refine ro_calli (va_runV (As := [.int (nI s9)]) (rest := [.int (nI k9)]) ⟨hx, hb, hml, hown, hts⟩ (c_MO_many l dC dI z g cI ss s9 hs9s9) (cwV 1 hts (gw_V m_702 m_704 s_22 m_8 m_705) rfl rfl rfl (by decide +kernel) ⟨Nat.le_of_ble_eq_true rfl, Nat.le_of_ble_eq_true rfl⟩) ⟨ro_blind, va_recv hK hPc (ci := 7) (q0 := 0) rfl rfl, fun U hU hW => ⟨rfl, by rw [hU]; exact hPc, va_K.moved hW.alike hK⟩⟩ rfl rfl hl.1 rfl (lv_room (Nat.le_of_ble_eq_true rfl)) d_MO_hasKnife_9 ⟨Nat.le_of_ble_eq_true rfl, Nat.le_of_ble_eq_true rfl⟩) hS hP (fun r H locs er hP hS => ?_)
      subst er
      refine ix_icmp_ge (tgt := 53) hx hb (nI_tI (n := k9) (by omega)) (nI_tI (n := sumN (fun w => ss (5 * s9 + w)) 5) (by omega)) d_MO_hasKnife_12 (by decide) (fun c_12 => ?_) (fun c_12 => ?_)
      · refine lv_iload_n hx hb d_MO_hasKnife_53 rfl (lv_at hl 3 rfl) ?_
        rcases (show v9 = 0 ∨ v9 = 1 by omega) with h | h
        · rw [h]
          exact W.zret (v := nI 0) (ty := .boolean) hx hb hr (by decide +kernel) (fun t ht hW => ⟨⟨nI 0, (), rfl, by rw [← h, hv, show k9 = sumN (fun w => ss (5 * s9 + w)) 5 by omega], trivial⟩, hS.F ht⟩) hS.2.2 d_MO_hasKnife_54
        · rw [h]
          exact W.zret (v := nI 1) (ty := .boolean) hx hb hr (by decide +kernel) (fun t ht hW => ⟨⟨nI 1, (), rfl, by rw [← h, hv, show k9 = sumN (fun w => ss (5 * s9 + w)) 5 by omega], trivial⟩, hS.F ht⟩) hS.2.2 d_MO_hasKnife_54
      have hE := hp9s9 k9 (by omega)
      have hBE : Bm ww nu (sf s9) (sl s9) k9 ≤ Em ww nu (sf s9) (sl s9) k9 := Nat.le_add_right _ _
      refine lv_iload_n hx hb d_MO_hasKnife_15 rfl (lv_at hl 3 rfl) ?_
      refine ix_if_ne (tgt := 41) hx hb (nI_tI (n := v9) (by omega)) d_MO_hasKnife_16 (by decide) (fun c_16 => ?_) (fun c_16 => ?_)
      · refine lv_iconst (v := nI 1) hx hb d_MO_hasKnife_41 (by decide +kernel) ?_
        refine lv_goto (tgt := 46) hx hb d_MO_hasKnife_42 (by decide) ?_
        refine lv_istore_n (lv' := [(3, .int (nI 1)), (0, .ref (z 0)), (1, .int (nI s9)), (2, .int (nI x9)), (4, .int (nI k9))]) hx hb d_MO_hasKnife_46 rfl hl (by decide) rfl (fun ls hl => ?_)
        refine lv_iinc (v := nI (k9 + 1)) (lv' := [(4, .int (nI (k9 + 1))), (3, .int (nI 1)), (0, .ref (z 0)), (1, .int (nI s9)), (2, .int (nI x9))]) hx hb d_MO_hasKnife_47 hl (k := 4) rfl (n_incN k9 1) (by decide) rfl (fun ls hl => ?_)
        refine lv_goto (tgt := 5) hx hb d_MO_hasKnife_50 (by decide) ?_
        exact ih_lp (k9 + 1) 1 (by omega) (by omega) (by omega) (hkB_S hv _ (by omega) (by omega)) _ _ _ hP hS (lv_sub hl [2, 3, 4, 1, 0] rfl)
      refine lv_aload_n hx hb d_MO_hasKnife_19 rfl (lv_at hl 0 rfl) ?_
      refine lv_iload_n hx hb d_MO_hasKnife_20 rfl (lv_at hl 1 rfl) ?_
      refine lv_iload hx hb d_MO_hasKnife_21 (lv_at hl 4 rfl) ?_
      have hPc := hP.sub (ws' := [(z 0, .inr (7, [.int (nI (g 0)), .int (nI (g 1)), .int (nI (g 2)), .int (nI (g 3)), .int (nI (g 4)), .int (nI (g 5)), .int (nI (g 6)), .ref (z 1), .ref (z 2), .ref (z 3), .ref (z 4), .int (nI (g 7)), .ref (z 5), .ref (z 6), .ref (z 7), .ref (z 8), .ref (z 9), .ref (z 10), .int (nI (g 8)), .ref (z 11), .ref (z 12), .ref (z 13), .ref (z 14)])), (z 1, .inl (cI, 5, .inl (aN ww))), (z 8, .inl (cI, 9, .inl (aN sf))), (z 9, .inl (cI, 9, .inl (aN sl))), (z 10, .inl (cI, 45, .inl (aN ss)))]) [0, 1, 2, 3, 4] rfl
      refine ro_calli (va_runV (As := [.int (nI s9), .int (nI k9)]) (rest := []) ⟨hx, hb, hml, hown, hts⟩ (c_MO_beginOf l dC dI z g cI ww sf sl ss nu s9 k9 hs9s9 hW9s9 (by omega) hbbs9 (by omega)) (cwV 2 hts (gw_V m_710 m_712 s_24 m_8 m_713) rfl rfl rfl (by decide +kernel) ⟨Nat.le_of_ble_eq_true rfl, Nat.le_of_ble_eq_true rfl⟩) ⟨ro_blind, va_recv hK hPc (ci := 7) (q0 := 0) rfl rfl, fun U hU hW => ⟨rfl, by rw [hU]; exact hPc, va_K.moved hW.alike hK⟩⟩ rfl rfl hl.1 rfl (lv_room (Nat.le_of_ble_eq_true rfl)) d_MO_hasKnife_23 ⟨Nat.le_of_ble_eq_true rfl, Nat.le_of_ble_eq_true rfl⟩) hS hP (fun r H locs er hP hS => ?_)
      subst er
      refine lv_iload_n hx hb d_MO_hasKnife_26 rfl (lv_at hl 2 rfl) ?_
      refine ix_icmp_eq (tgt := 41) hx hb (nI_tI (n := Bm ww nu (sf s9) (sl s9) k9) (by omega)) (nI_tI (n := x9) (by omega)) d_MO_hasKnife_27 (by decide) (fun c_27 => ?_) (fun c_27 => ?_)
      · refine lv_iconst (v := nI 1) hx hb d_MO_hasKnife_41 (by decide +kernel) ?_
        refine lv_goto (tgt := 46) hx hb d_MO_hasKnife_42 (by decide) ?_
        refine lv_istore_n (lv' := [(3, .int (nI 1)), (0, .ref (z 0)), (1, .int (nI s9)), (2, .int (nI x9)), (4, .int (nI k9))]) hx hb d_MO_hasKnife_46 rfl hl (by decide) rfl (fun ls hl => ?_)
        refine lv_iinc (v := nI (k9 + 1)) (lv' := [(4, .int (nI (k9 + 1))), (3, .int (nI 1)), (0, .ref (z 0)), (1, .int (nI s9)), (2, .int (nI x9))]) hx hb d_MO_hasKnife_47 hl (k := 4) rfl (n_incN k9 1) (by decide) rfl (fun ls hl => ?_)
        refine lv_goto (tgt := 5) hx hb d_MO_hasKnife_50 (by decide) ?_
        exact ih_lp (k9 + 1) 1 (by omega) (by omega) (by omega) (hkB_S hv _ (by omega) (by omega)) _ _ _ hP hS (lv_sub hl [2, 3, 4, 1, 0] rfl)
      refine lv_aload_n hx hb d_MO_hasKnife_30 rfl (lv_at hl 0 rfl) ?_
      refine lv_iload_n hx hb d_MO_hasKnife_31 rfl (lv_at hl 1 rfl) ?_
      refine lv_iload hx hb d_MO_hasKnife_32 (lv_at hl 4 rfl) ?_
      have hPc := hP.sub (ws' := [(z 0, .inr (7, [.int (nI (g 0)), .int (nI (g 1)), .int (nI (g 2)), .int (nI (g 3)), .int (nI (g 4)), .int (nI (g 5)), .int (nI (g 6)), .ref (z 1), .ref (z 2), .ref (z 3), .ref (z 4), .int (nI (g 7)), .ref (z 5), .ref (z 6), .ref (z 7), .ref (z 8), .ref (z 9), .ref (z 10), .int (nI (g 8)), .ref (z 11), .ref (z 12), .ref (z 13), .ref (z 14)])), (z 1, .inl (cI, 5, .inl (aN ww))), (z 8, .inl (cI, 9, .inl (aN sf))), (z 9, .inl (cI, 9, .inl (aN sl))), (z 10, .inl (cI, 45, .inl (aN ss)))]) [0, 1, 2, 3, 4] rfl
      refine ro_calli (va_runV (As := [.int (nI s9), .int (nI k9)]) (rest := []) ⟨hx, hb, hml, hown, hts⟩ (c_MO_endOf l dC dI z g cI ww sf sl ss nu s9 k9 hs9s9 hW9s9 (by omega) hbbs9 (by omega)) (cwV 2 hts (gw_V m_714 m_716 s_25 m_8 m_717) rfl rfl rfl (by decide +kernel) ⟨Nat.le_of_ble_eq_true rfl, Nat.le_of_ble_eq_true rfl⟩) ⟨ro_blind, va_recv hK hPc (ci := 7) (q0 := 0) rfl rfl, fun U hU hW => ⟨rfl, by rw [hU]; exact hPc, va_K.moved hW.alike hK⟩⟩ rfl rfl hl.1 rfl (lv_room (Nat.le_of_ble_eq_true rfl)) d_MO_hasKnife_34 ⟨Nat.le_of_ble_eq_true rfl, Nat.le_of_ble_eq_true rfl⟩) hS hP (fun r H locs er hP hS => ?_)
      subst er
      refine lv_iload_n hx hb d_MO_hasKnife_37 rfl (lv_at hl 2 rfl) ?_
      refine ix_icmp_ne (tgt := 45) hx hb (nI_tI (n := Em ww nu (sf s9) (sl s9) k9) (by omega)) (nI_tI (n := x9) (by omega)) d_MO_hasKnife_38 (by decide) (fun c_38 => ?_) (fun c_38 => ?_)
      · refine lv_iconst (v := nI 0) hx hb d_MO_hasKnife_45 (by decide +kernel) ?_
        refine lv_istore_n (lv' := [(3, .int (nI 0)), (0, .ref (z 0)), (1, .int (nI s9)), (2, .int (nI x9)), (4, .int (nI k9))]) hx hb d_MO_hasKnife_46 rfl hl (by decide) rfl (fun ls hl => ?_)
        refine lv_iinc (v := nI (k9 + 1)) (lv' := [(4, .int (nI (k9 + 1))), (3, .int (nI 0)), (0, .ref (z 0)), (1, .int (nI s9)), (2, .int (nI x9))]) hx hb d_MO_hasKnife_47 hl (k := 4) rfl (n_incN k9 1) (by decide) rfl (fun ls hl => ?_)
        refine lv_goto (tgt := 5) hx hb d_MO_hasKnife_50 (by decide) ?_
        exact ih_lp (k9 + 1) 0 (by omega) (by omega) (by omega) (hkB_S hv _ (by omega) (by omega)) _ _ _ hP hS (lv_sub hl [2, 3, 4, 1, 0] rfl)
      refine lv_iconst (v := nI 1) hx hb d_MO_hasKnife_41 (by decide +kernel) ?_
      refine lv_goto (tgt := 46) hx hb d_MO_hasKnife_42 (by decide) ?_
      refine lv_istore_n (lv' := [(3, .int (nI 1)), (0, .ref (z 0)), (1, .int (nI s9)), (2, .int (nI x9)), (4, .int (nI k9))]) hx hb d_MO_hasKnife_46 rfl hl (by decide) rfl (fun ls hl => ?_)
      refine lv_iinc (v := nI (k9 + 1)) (lv' := [(4, .int (nI (k9 + 1))), (3, .int (nI 1)), (0, .ref (z 0)), (1, .int (nI s9)), (2, .int (nI x9))]) hx hb d_MO_hasKnife_47 hl (k := 4) rfl (n_incN k9 1) (by decide) rfl (fun ls hl => ?_)
      refine lv_goto (tgt := 5) hx hb d_MO_hasKnife_50 (by decide) ?_
      exact ih_lp (k9 + 1) 1 (by omega) (by omega) (by omega) (hkB_S hv _ (by omega) (by omega)) _ _ _ hP hS (lv_sub hl [2, 3, 4, 1, 0] rfl)
  exact lp (sumN (fun w => ss (5 * s9 + w)) 5 + 1) 0 0 (by omega) (by omega) (by omega) rfl _ _ _ hP hS (lv_sub hl [2, 3, 4, 1, 0] rfl)
set_option maxHeartbeats 4000000 in
set_option maxRecDepth 100000 in
/-- movesFrom(from, to) -/
theorem c_MO_movesFrom (l : Launch) (dC : Nat → ClassId) (dI : Nat → Nat → Nat) (z g : Nat → Nat) (cI : ClassId) (ww sf sl ss : Nat → Nat) (nuF nuT : Nat → Nat) (f9 t9 : Nat) (hs9f9 : f9 < 9) (hW9f9 : HW (fun w => ss (5 * f9 + w)) nuF) (hb9f9 : ∀ w, w < 5 → ss (5 * f9 + w) ≤ 6) (hp9f9 : ∀ k, k < sumN (fun w => ss (5 * f9 + w)) 5 → Em ww nuF (sf f9) (sl f9) k < 1000000) (hs9t9 : t9 < 9) (hW9t9 : HW (fun w => ss (5 * t9 + w)) nuT) (hb9t9 : ∀ w, w < 5 → ss (5 * t9 + w) ≤ 6) (hp9t9 : ∀ k, k < sumN (fun w => ss (5 * t9 + w)) 5 → Em ww nuT (sf t9) (sl t9) k < 1000000) : Met l y_MO_movesFrom w_MO_movesFrom { frames := 4, cells := 0, slots := 0, locals := 94 } (ro_Pc (dC, dI) vwCl [(cI, .int)] [.ref (z 0), .int (nI f9), .int (nI t9)] [(z 0, .inr (7, [.int (nI (g 0)), .int (nI (g 1)), .int (nI (g 2)), .int (nI (g 3)), .int (nI (g 4)), .int (nI (g 5)), .int (nI (g 6)), .ref (z 1), .ref (z 2), .ref (z 3), .ref (z 4), .int (nI (g 7)), .ref (z 5), .ref (z 6), .ref (z 7), .ref (z 8), .ref (z 9), .ref (z 10), .int (nI (g 8)), .ref (z 11), .ref (z 12), .ref (z 13), .ref (z 14)])), (z 1, .inl (cI, 5, .inl (aN ww))), (z 8, .inl (cI, 9, .inl (aN sf))), (z 9, .inl (cI, 9, .inl (aN sl))), (z 10, .inl (cI, 45, .inl (aN ss)))]) (ro_Qi (fun r => r = nI (mvF (Bm ww nuT (sf t9) (sl t9)) (Em ww nuT (sf t9) (sl t9)) (fun x => hkB (Bm ww nuF (sf f9) (sl f9)) (Em ww nuF (sf f9) (sl f9)) x (sumN (fun w => ss (5 * f9 + w)) 5)) (sumN (fun w => ss (5 * t9 + w)) 5)))) 0 0 ro_no := by
  refine Met.ofW (cc := b_MO_movesFrom) (maxL := 6) (ret := (some .int)) (by decide) rfl ?_
  intro p e s m args below meth c s₁ B hml hv
  obtain ⟨rfl, hP, hK⟩ := hv
  have hx := B.exec
  have hb := B.bytes
  have hr := B.returns
  have hts := gw_h (atoms_spec (ws := w_MO_movesFrom) B.pre)
  have hown : s.vm.findClass R_MO = some m.cls := findClass_of_methodNamed B.named
  have hlocks := B.notSynchronized
  have hS : va_S ro_no s.heap s.heap [] := va_S.rf
  have hP : va_P (dC, dI) vwCl [(z 0, .inr (7, [.int (nI (g 0)), .int (nI (g 1)), .int (nI (g 2)), .int (nI (g 3)), .int (nI (g 4)), .int (nI (g 5)), .int (nI (g 6)), .ref (z 1), .ref (z 2), .ref (z 3), .ref (z 4), .int (nI (g 7)), .ref (z 5), .ref (z 6), .ref (z 7), .ref (z 8), .ref (z 9), .ref (z 10), .int (nI (g 8)), .ref (z 11), .ref (z 12), .ref (z 13), .ref (z 14)])), (z 1, .inl (cI, 5, .inl (aN ww))), (z 8, .inl (cI, 9, .inl (aN sf))), (z 9, .inl (cI, 9, .inl (aN sl))), (z 10, .inl (cI, 45, .inl (aN ss)))] s.heap := hP
  have hl := lv_entry ([.ref (z 0), .int (nI f9), .int (nI t9)]) (n := 6) (Nat.le_of_ble_eq_true rfl)
  rw [lg_entry_eq]
  generalize (lg_sl ([.ref (z 0), .int (nI f9), .int (nI t9)]) ++ List.replicate (6 - (lg_sl ([.ref (z 0), .int (nI f9), .int (nI t9)])).length) Slot.unset).toArray = ls at hl ⊢
  have hl : lv_has ls 6 [(0, .ref (z 0)), (1, .int (nI f9)), (2, .int (nI t9))] := hl
  have h30f9 : sumN (fun w => ss (5 * f9 + w)) 5 ≤ 30 := by have h0 := hb9f9 0 (by omega); have h1 := hb9f9 1 (by omega); have h2 := hb9f9 2 (by omega); have h3 := hb9f9 3 (by omega); have h4 := hb9f9 4 (by omega); simp only [sumN]; omega
  have hbbf9 : ∀ w, w < 5 → ss (5 * f9 + w) ≤ 1000 := fun w hw => Nat.le_trans (hb9f9 w hw) (by decide)
  have h30t9 : sumN (fun w => ss (5 * t9 + w)) 5 ≤ 30 := by have h0 := hb9t9 0 (by omega); have h1 := hb9t9 1 (by omega); have h2 := hb9t9 2 (by omega); have h3 := hb9t9 3 (by omega); have h4 := hb9t9 4 (by omega); simp only [sumN]; omega
  have hbbt9 : ∀ w, w < 5 → ss (5 * t9 + w) ≤ 1000 := fun w hw => Nat.le_trans (hb9t9 w hw) (by decide)
  refine lv_iconst (v := nI 0) hx hb d_MO_movesFrom_0 (by decide +kernel) ?_
  refine lv_istore_n (lv' := [(3, .int (nI 0)), (0, .ref (z 0)), (1, .int (nI f9)), (2, .int (nI t9))]) hx hb d_MO_movesFrom_1 rfl hl (by decide) rfl (fun ls hl => ?_)
  refine lv_iconst (v := nI 0) hx hb d_MO_movesFrom_2 (by decide +kernel) ?_
  refine lv_istore (lv' := [(4, .int (nI 0)), (3, .int (nI 0)), (0, .ref (z 0)), (1, .int (nI f9)), (2, .int (nI t9))]) hx hb d_MO_movesFrom_3 hl (by decide) rfl (fun ls hl => ?_)
  have lp : ∀ (n_lp : Nat) (k9 : Nat) (n9 : Nat), (sumN (fun w => ss (5 * t9 + w)) 5 + 1 ≤ k9 + n_lp) → (k9 ≤ sumN (fun w => ss (5 * t9 + w)) 5) → (n9 = mvF (Bm ww nuT (sf t9) (sl t9)) (Em ww nuT (sf t9) (sl t9)) (fun x => hkB (Bm ww nuF (sf f9) (sl f9)) (Em ww nuF (sf f9) (sl f9)) x (sumN (fun w => ss (5 * f9 + w)) 5)) k9) → ∀ (H : Heap) (locs : List Loc) (ls : Array Slot), va_P (dC, dI) vwCl [(z 0, .inr (7, [.int (nI (g 0)), .int (nI (g 1)), .int (nI (g 2)), .int (nI (g 3)), .int (nI (g 4)), .int (nI (g 5)), .int (nI (g 6)), .ref (z 1), .ref (z 2), .ref (z 3), .ref (z 4), .int (nI (g 7)), .ref (z 5), .ref (z 6), .ref (z 7), .ref (z 8), .ref (z 9), .ref (z 10), .int (nI (g 8)), .ref (z 11), .ref (z 12), .ref (z 13), .ref (z 14)])), (z 1, .inl (cI, 5, .inl (aN ww))), (z 8, .inl (cI, 9, .inl (aN sf))), (z 9, .inl (cI, 9, .inl (aN sl))), (z 10, .inl (cI, 45, .inl (aN ss)))] H → va_S ro_no s.heap H locs → lv_has ls 6 [(0, .ref (z 0)), (1, .int (nI f9)), (2, .int (nI t9)), (3, .int (nI n9)), (4, .int (nI k9))] → W p l e (headSpec w_MO_movesFrom { frames := 4, cells := 0, slots := 0, locals := 94 }).room s m [.ref (z 0), .int (nI f9), .int (nI t9)].toArray below meth c H locs 0 0 (MQ below (ro_Qi (fun r => r = nI (mvF (Bm ww nuT (sf t9) (sl t9)) (Em ww nuT (sf t9) (sl t9)) (fun x => hkB (Bm ww nuF (sf f9) (sl f9)) (Em ww nuF (sf f9) (sl f9)) x (sumN (fun w => ss (5 * f9 + w)) 5)) (sumN (fun w => ss (5 * t9 + w)) 5)))) [.ref (z 0), .int (nI f9), .int (nI t9)].toArray s 0 0 ro_no) (F0 m 5 ls []) := by
    intro n_lp
    induction n_lp with
    | zero =>
      intro k9 n9 hm hk hn
      exact absurd hm (by omega)
    | succ n_lp ih_lp =>
      intro k9 n9 hm hk hn H locs ls hP hS hl
      refine lv_iload hx hb d_MO_movesFrom_5 (lv_at hl 4 rfl) ?_
      refine lv_aload_n hx hb d_MO_movesFrom_7 rfl (lv_at hl 0 rfl) ?_
      refine lv_iload_n hx hb d_MO_movesFrom_8 rfl (lv_at hl 2 rfl) ?_
      have hPc := hP.sub (ws' := [(z 0, .inr (7, [.int (nI (g 0)), .int (nI (g 1)), .int (nI (g 2)), .int (nI (g 3)), .int (nI (g 4)), .int (nI (g 5)), .int (nI (g 6)), .ref (z 1), .ref (z 2), .ref (z 3), .ref (z 4), .int (nI (g 7)), .ref (z 5), .ref (z 6), .ref (z 7), .ref (z 8), .ref (z 9), .ref (z 10), .int (nI (g 8)), .ref (z 11), .ref (z 12), .ref (z 13), .ref (z 14)])), (z 10, .inl (cI, 45, .inl (aN ss)))]) [0, 4] rfl
      refine ro_calli (va_runV (As := [.int (nI t9)]) (rest := [.int (nI k9)]) ⟨hx, hb, hml, hown, hts⟩ (c_MO_many l dC dI z g cI ss t9 hs9t9) (cwV 1 hts (gw_V m_702 m_704 s_22 m_8 m_705) rfl rfl rfl (by decide +kernel) ⟨Nat.le_of_ble_eq_true rfl, Nat.le_of_ble_eq_true rfl⟩) ⟨ro_blind, va_recv hK hPc (ci := 7) (q0 := 0) rfl rfl, fun U hU hW => ⟨rfl, by rw [hU]; exact hPc, va_K.moved hW.alike hK⟩⟩ rfl rfl hl.1 rfl (lv_room (Nat.le_of_ble_eq_true rfl)) d_MO_movesFrom_9 ⟨Nat.le_of_ble_eq_true rfl, Nat.le_of_ble_eq_true rfl⟩) hS hP (fun r H locs er hP hS => ?_)
      subst er
      refine ix_icmp_ge (tgt := 103) hx hb (nI_tI (n := k9) (by omega)) (nI_tI (n := sumN (fun w => ss (5 * t9 + w)) 5) (by omega)) d_MO_movesFrom_12 (by decide) (fun c_12 => ?_) (fun c_12 => ?_)
      · refine lv_iload_n hx hb d_MO_movesFrom_103 rfl (lv_at hl 3 rfl) ?_
        exact W.iret (v := nI n9) hx hb hr (fun t ht hW => ⟨⟨nI n9, (), rfl, by rw [hn, show k9 = sumN (fun w => ss (5 * t9 + w)) 5 by omega], trivial⟩, hS.F ht⟩) hS.2.2 d_MO_movesFrom_104
      have hE := hp9t9 k9 (by omega)
      have hBE : Bm ww nuT (sf t9) (sl t9) k9 ≤ Em ww nuT (sf t9) (sl t9) k9 := Nat.le_add_right _ _
      have hjo := @joiB_iff (Bm ww nuT (sf t9) (sl t9)) (Em ww nuT (sf t9) (sl t9)) k9
      unfold joi at hjo
      refine lv_iload hx hb d_MO_movesFrom_15 (lv_at hl 4 rfl) ?_
      refine ix_if_le (tgt := 43) hx hb (nI_tI (n := k9) (by omega)) d_MO_movesFrom_17 (by decide) (fun c_17 => ?_) (fun c_17 => ?_)
      · refine lv_iconst (v := nI 0) hx hb d_MO_movesFrom_43 (by decide +kernel) ?_
        refine lv_istore (lv' := [(5, .int (nI 0)), (0, .ref (z 0)), (1, .int (nI f9)), (2, .int (nI t9)), (3, .int (nI n9)), (4, .int (nI k9))]) hx hb d_MO_movesFrom_44 hl (by decide) rfl (fun ls hl => ?_)
        refine lv_iload_n hx hb d_MO_movesFrom_46 rfl (lv_at hl 4 rfl) ?_
        refine lv_iload hx hb d_MO_movesFrom_47 (lv_at hl 0 rfl) ?_
        have hj9 : joiB (Bm ww nuT (sf t9) (sl t9)) (Em ww nuT (sf t9) (sl t9)) k9 = false := by rw [← Bool.not_eq_true]; exact fun q => by have := hjo.mp q; omega
        refine ix_if_ne (tgt := 67) hx hb (nI_tI (n := 0) (by omega)) d_MO_movesFrom_49 (by decide) (fun c_49 => absurd c_49 (by omega)) (fun c_49 => ?_)
        refine lv_aload_n hx hb d_MO_movesFrom_52 rfl (lv_at hl 1 rfl) ?_
        refine lv_iload_n hx hb d_MO_movesFrom_53 rfl (lv_at hl 2 rfl) ?_
        refine lv_aload_n hx hb d_MO_movesFrom_54 rfl (lv_at hl 1 rfl) ?_
        refine lv_iload_n hx hb d_MO_movesFrom_55 rfl (lv_at hl 3 rfl) ?_
        refine lv_iload hx hb d_MO_movesFrom_56 (lv_at hl 5 rfl) ?_
        have hPc := hP.sub (ws' := [(z 0, .inr (7, [.int (nI (g 0)), .int (nI (g 1)), .int (nI (g 2)), .int (nI (g 3)), .int (nI (g 4)), .int (nI (g 5)), .int (nI (g 6)), .ref (z 1), .ref (z 2), .ref (z 3), .ref (z 4), .int (nI (g 7)), .ref (z 5), .ref (z 6), .ref (z 7), .ref (z 8), .ref (z 9), .ref (z 10), .int (nI (g 8)), .ref (z 11), .ref (z 12), .ref (z 13), .ref (z 14)])), (z 1, .inl (cI, 5, .inl (aN ww))), (z 8, .inl (cI, 9, .inl (aN sf))), (z 9, .inl (cI, 9, .inl (aN sl))), (z 10, .inl (cI, 45, .inl (aN ss)))]) [0, 1, 2, 3, 4] rfl
        refine ro_calli (va_runV (As := [.int (nI t9), .int (nI k9)]) (rest := [.int (nI f9), .ref (z 0), .int (nI n9)]) ⟨hx, hb, hml, hown, hts⟩ (c_MO_beginOf l dC dI z g cI ww sf sl ss nuT t9 k9 hs9t9 hW9t9 (by omega) hbbt9 (by omega)) (cwV 2 hts (gw_V m_710 m_712 s_24 m_8 m_713) rfl rfl rfl (by decide +kernel) ⟨Nat.le_of_ble_eq_true rfl, Nat.le_of_ble_eq_true rfl⟩) ⟨ro_blind, va_recv hK hPc (ci := 7) (q0 := 0) rfl rfl, fun U hU hW => ⟨rfl, by rw [hU]; exact hPc, va_K.moved hW.alike hK⟩⟩ rfl rfl hl.1 rfl (lv_room (Nat.le_of_ble_eq_true rfl)) d_MO_movesFrom_58 ⟨Nat.le_of_ble_eq_true rfl, Nat.le_of_ble_eq_true rfl⟩) hS hP (fun r H locs er hP hS => ?_)
        subst er
        have hPc := hP.sub (ws' := [(z 0, .inr (7, [.int (nI (g 0)), .int (nI (g 1)), .int (nI (g 2)), .int (nI (g 3)), .int (nI (g 4)), .int (nI (g 5)), .int (nI (g 6)), .ref (z 1), .ref (z 2), .ref (z 3), .ref (z 4), .int (nI (g 7)), .ref (z 5), .ref (z 6), .ref (z 7), .ref (z 8), .ref (z 9), .ref (z 10), .int (nI (g 8)), .ref (z 11), .ref (z 12), .ref (z 13), .ref (z 14)])), (z 1, .inl (cI, 5, .inl (aN ww))), (z 8, .inl (cI, 9, .inl (aN sf))), (z 9, .inl (cI, 9, .inl (aN sl))), (z 10, .inl (cI, 45, .inl (aN ss)))]) [0, 1, 2, 3, 4] rfl
        refine ro_calli (va_runV (As := [.int (nI f9), .int (nI (Bm ww nuT (sf t9) (sl t9) k9))]) (rest := [.int (nI n9)]) ⟨hx, hb, hml, hown, hts⟩ (c_MO_hasKnife l dC dI z g cI ww sf sl ss nuF f9 (Bm ww nuT (sf t9) (sl t9) k9) (by omega) hs9f9 hW9f9 hb9f9 hp9f9) (cwV 2 hts (gw_V m_734 m_736 s_28 m_8 m_737) rfl rfl rfl (by decide +kernel) ⟨Nat.le_of_ble_eq_true rfl, Nat.le_of_ble_eq_true rfl⟩) ⟨ro_blind, va_recv hK hPc (ci := 7) (q0 := 0) rfl rfl, fun U hU hW => ⟨rfl, by rw [hU]; exact hPc, va_K.moved hW.alike hK⟩⟩ rfl rfl hl.1 rfl (lv_room (Nat.le_of_ble_eq_true rfl)) d_MO_movesFrom_61 ⟨Nat.le_of_ble_eq_true rfl, Nat.le_of_ble_eq_true rfl⟩) hS hP (fun r H locs er hP hS => ?_)
        subst er
        have hb161 := @b01_1 ((fun x => hkB (Bm ww nuF (sf f9) (sl f9)) (Em ww nuF (sf f9) (sl f9)) x (sumN (fun w => ss (5 * f9 + w)) 5)) (Bm ww nuT (sf t9) (sl t9) k9) = true) _
        have hb061 := @b01_le ((fun x => hkB (Bm ww nuF (sf f9) (sl f9)) (Em ww nuF (sf f9) (sl f9)) x (sumN (fun w => ss (5 * f9 + w)) 5)) (Bm ww nuT (sf t9) (sl t9) k9) = true) _
        refine ix_if_eq (tgt := 71) hx hb (nI_tI (n := b01 ((fun x => hkB (Bm ww nuF (sf f9) (sl f9)) (Em ww nuF (sf f9) (sl f9)) x (sumN (fun w => ss (5 * f9 + w)) 5)) (Bm ww nuT (sf t9) (sl t9) k9) = true)) (by omega)) d_MO_movesFrom_64 (by decide) (fun c_64 => ?_) (fun c_64 => ?_)
        · refine lv_iconst (v := nI 1) hx hb d_MO_movesFrom_71 (by decide +kernel) ?_
          refine lv_iadd hx hb d_MO_movesFrom_72 ?_
          refine lv_topr (show _ = nI (n9 + 1) from nn_add _ _) ?_
          refine lv_istore_n (lv' := [(3, .int (nI (n9 + 1))), (5, .int (nI 0)), (0, .ref (z 0)), (1, .int (nI f9)), (2, .int (nI t9)), (4, .int (nI k9))]) hx hb d_MO_movesFrom_73 rfl hl (by decide) rfl (fun ls hl => ?_)
          refine lv_iload_n hx hb d_MO_movesFrom_74 rfl (lv_at hl 0 rfl) ?_
          refine lv_aload_n hx hb d_MO_movesFrom_75 rfl (lv_at hl 2 rfl) ?_
          refine lv_iload_n hx hb d_MO_movesFrom_76 rfl (lv_at hl 3 rfl) ?_
          refine lv_aload_n hx hb d_MO_movesFrom_77 rfl (lv_at hl 2 rfl) ?_
          refine lv_iload_n hx hb d_MO_movesFrom_78 rfl (lv_at hl 4 rfl) ?_
          refine lv_iload hx hb d_MO_movesFrom_79 (lv_at hl 5 rfl) ?_
          have hPc := hP.sub (ws' := [(z 0, .inr (7, [.int (nI (g 0)), .int (nI (g 1)), .int (nI (g 2)), .int (nI (g 3)), .int (nI (g 4)), .int (nI (g 5)), .int (nI (g 6)), .ref (z 1), .ref (z 2), .ref (z 3), .ref (z 4), .int (nI (g 7)), .ref (z 5), .ref (z 6), .ref (z 7), .ref (z 8), .ref (z 9), .ref (z 10), .int (nI (g 8)), .ref (z 11), .ref (z 12), .ref (z 13), .ref (z 14)])), (z 1, .inl (cI, 5, .inl (aN ww))), (z 8, .inl (cI, 9, .inl (aN sf))), (z 9, .inl (cI, 9, .inl (aN sl))), (z 10, .inl (cI, 45, .inl (aN ss)))]) [0, 1, 2, 3, 4] rfl
          refine ro_calli (va_runV (As := [.int (nI t9), .int (nI k9)]) (rest := [.int (nI f9), .ref (z 0), .int (nI (n9 + 1))]) ⟨hx, hb, hml, hown, hts⟩ (c_MO_endOf l dC dI z g cI ww sf sl ss nuT t9 k9 hs9t9 hW9t9 (by omega) hbbt9 (by omega)) (cwV 2 hts (gw_V m_714 m_716 s_25 m_8 m_717) rfl rfl rfl (by decide +kernel) ⟨Nat.le_of_ble_eq_true rfl, Nat.le_of_ble_eq_true rfl⟩) ⟨ro_blind, va_recv hK hPc (ci := 7) (q0 := 0) rfl rfl, fun U hU hW => ⟨rfl, by rw [hU]; exact hPc, va_K.moved hW.alike hK⟩⟩ rfl rfl hl.1 rfl (lv_room (Nat.le_of_ble_eq_true rfl)) d_MO_movesFrom_81 ⟨Nat.le_of_ble_eq_true rfl, Nat.le_of_ble_eq_true rfl⟩) hS hP (fun r H locs er hP hS => ?_)
          subst er
          have hPc := hP.sub (ws' := [(z 0, .inr (7, [.int (nI (g 0)), .int (nI (g 1)), .int (nI (g 2)), .int (nI (g 3)), .int (nI (g 4)), .int (nI (g 5)), .int (nI (g 6)), .ref (z 1), .ref (z 2), .ref (z 3), .ref (z 4), .int (nI (g 7)), .ref (z 5), .ref (z 6), .ref (z 7), .ref (z 8), .ref (z 9), .ref (z 10), .int (nI (g 8)), .ref (z 11), .ref (z 12), .ref (z 13), .ref (z 14)])), (z 1, .inl (cI, 5, .inl (aN ww))), (z 8, .inl (cI, 9, .inl (aN sf))), (z 9, .inl (cI, 9, .inl (aN sl))), (z 10, .inl (cI, 45, .inl (aN ss)))]) [0, 1, 2, 3, 4] rfl
          refine ro_calli (va_runV (As := [.int (nI f9), .int (nI (Em ww nuT (sf t9) (sl t9) k9))]) (rest := [.int (nI (n9 + 1))]) ⟨hx, hb, hml, hown, hts⟩ (c_MO_hasKnife l dC dI z g cI ww sf sl ss nuF f9 (Em ww nuT (sf t9) (sl t9) k9) (by omega) hs9f9 hW9f9 hb9f9 hp9f9) (cwV 2 hts (gw_V m_734 m_736 s_28 m_8 m_737) rfl rfl rfl (by decide +kernel) ⟨Nat.le_of_ble_eq_true rfl, Nat.le_of_ble_eq_true rfl⟩) ⟨ro_blind, va_recv hK hPc (ci := 7) (q0 := 0) rfl rfl, fun U hU hW => ⟨rfl, by rw [hU]; exact hPc, va_K.moved hW.alike hK⟩⟩ rfl rfl hl.1 rfl (lv_room (Nat.le_of_ble_eq_true rfl)) d_MO_movesFrom_84 ⟨Nat.le_of_ble_eq_true rfl, Nat.le_of_ble_eq_true rfl⟩) hS hP (fun r H locs er hP hS => ?_)
          subst er
          have hb184 := @b01_1 ((fun x => hkB (Bm ww nuF (sf f9) (sl f9)) (Em ww nuF (sf f9) (sl f9)) x (sumN (fun w => ss (5 * f9 + w)) 5)) (Em ww nuT (sf t9) (sl t9) k9) = true) _
          have hb084 := @b01_le ((fun x => hkB (Bm ww nuF (sf f9) (sl f9)) (Em ww nuF (sf f9) (sl f9)) x (sumN (fun w => ss (5 * f9 + w)) 5)) (Em ww nuT (sf t9) (sl t9) k9) = true) _
          refine ix_if_eq (tgt := 94) hx hb (nI_tI (n := b01 ((fun x => hkB (Bm ww nuF (sf f9) (sl f9)) (Em ww nuF (sf f9) (sl f9)) x (sumN (fun w => ss (5 * f9 + w)) 5)) (Em ww nuT (sf t9) (sl t9) k9) = true)) (by omega)) d_MO_movesFrom_87 (by decide) (fun c_87 => ?_) (fun c_87 => ?_)
          · refine lv_iconst (v := nI 1) hx hb d_MO_movesFrom_94 (by decide +kernel) ?_
            refine lv_iadd hx hb d_MO_movesFrom_95 ?_
            refine lv_topr (show _ = nI ((n9 + 1) + 1) from nn_add _ _) ?_
            refine lv_istore_n (lv' := [(3, .int (nI ((n9 + 1) + 1))), (5, .int (nI 0)), (0, .ref (z 0)), (1, .int (nI f9)), (2, .int (nI t9)), (4, .int (nI k9))]) hx hb d_MO_movesFrom_96 rfl hl (by decide) rfl (fun ls hl => ?_)
            refine lv_iinc (v := nI (k9 + 1)) (lv' := [(4, .int (nI (k9 + 1))), (3, .int (nI ((n9 + 1) + 1))), (5, .int (nI 0)), (0, .ref (z 0)), (1, .int (nI f9)), (2, .int (nI t9))]) hx hb d_MO_movesFrom_97 hl (k := 5) rfl (n_incN k9 1) (by decide) rfl (fun ls hl => ?_)
            refine lv_goto (tgt := 5) hx hb d_MO_movesFrom_100 (by decide) ?_
            exact ih_lp (k9 + 1) ((n9 + 1) + 1) (by omega) (by omega) (mvF_S hn (by rw [if_neg (fun q => q.elim (fun q => by rw [hj9] at q; exact Bool.noConfusion q) (fun q => by have := hb161.mpr q; omega))]) (by rw [if_neg (fun q => by have := hb184.mpr q; omega)])) _ _ _ hP hS (lv_sub hl [3, 4, 5, 1, 0] rfl)
          refine lv_iconst (v := nI 0) hx hb d_MO_movesFrom_90 (by decide +kernel) ?_
          refine lv_goto (tgt := 95) hx hb d_MO_movesFrom_91 (by decide) ?_
          refine lv_iadd hx hb d_MO_movesFrom_95 ?_
          refine lv_topr (show _ = nI ((n9 + 1) + 0) from nn_add _ _) ?_
          refine lv_istore_n (lv' := [(3, .int (nI ((n9 + 1) + 0))), (5, .int (nI 0)), (0, .ref (z 0)), (1, .int (nI f9)), (2, .int (nI t9)), (4, .int (nI k9))]) hx hb d_MO_movesFrom_96 rfl hl (by decide) rfl (fun ls hl => ?_)
          refine lv_iinc (v := nI (k9 + 1)) (lv' := [(4, .int (nI (k9 + 1))), (3, .int (nI ((n9 + 1) + 0))), (5, .int (nI 0)), (0, .ref (z 0)), (1, .int (nI f9)), (2, .int (nI t9))]) hx hb d_MO_movesFrom_97 hl (k := 5) rfl (n_incN k9 1) (by decide) rfl (fun ls hl => ?_)
          refine lv_goto (tgt := 5) hx hb d_MO_movesFrom_100 (by decide) ?_
          exact ih_lp (k9 + 1) ((n9 + 1) + 0) (by omega) (by omega) (mvF_S hn (by rw [if_neg (fun q => q.elim (fun q => by rw [hj9] at q; exact Bool.noConfusion q) (fun q => by have := hb161.mpr q; omega))]) (by rw [if_pos (hb184.mp (by omega))])) _ _ _ hP hS (lv_sub hl [3, 4, 5, 1, 0] rfl)
        refine lv_iconst (v := nI 0) hx hb d_MO_movesFrom_67 (by decide +kernel) ?_
        refine lv_goto (tgt := 72) hx hb d_MO_movesFrom_68 (by decide) ?_
        refine lv_iadd hx hb d_MO_movesFrom_72 ?_
        refine lv_topr (show _ = nI (n9 + 0) from nn_add _ _) ?_
        refine lv_istore_n (lv' := [(3, .int (nI (n9 + 0))), (5, .int (nI 0)), (0, .ref (z 0)), (1, .int (nI f9)), (2, .int (nI t9)), (4, .int (nI k9))]) hx hb d_MO_movesFrom_73 rfl hl (by decide) rfl (fun ls hl => ?_)
        refine lv_iload_n hx hb d_MO_movesFrom_74 rfl (lv_at hl 0 rfl) ?_
        refine lv_aload_n hx hb d_MO_movesFrom_75 rfl (lv_at hl 2 rfl) ?_
        refine lv_iload_n hx hb d_MO_movesFrom_76 rfl (lv_at hl 3 rfl) ?_
        refine lv_aload_n hx hb d_MO_movesFrom_77 rfl (lv_at hl 2 rfl) ?_
        refine lv_iload_n hx hb d_MO_movesFrom_78 rfl (lv_at hl 4 rfl) ?_
        refine lv_iload hx hb d_MO_movesFrom_79 (lv_at hl 5 rfl) ?_
        have hPc := hP.sub (ws' := [(z 0, .inr (7, [.int (nI (g 0)), .int (nI (g 1)), .int (nI (g 2)), .int (nI (g 3)), .int (nI (g 4)), .int (nI (g 5)), .int (nI (g 6)), .ref (z 1), .ref (z 2), .ref (z 3), .ref (z 4), .int (nI (g 7)), .ref (z 5), .ref (z 6), .ref (z 7), .ref (z 8), .ref (z 9), .ref (z 10), .int (nI (g 8)), .ref (z 11), .ref (z 12), .ref (z 13), .ref (z 14)])), (z 1, .inl (cI, 5, .inl (aN ww))), (z 8, .inl (cI, 9, .inl (aN sf))), (z 9, .inl (cI, 9, .inl (aN sl))), (z 10, .inl (cI, 45, .inl (aN ss)))]) [0, 1, 2, 3, 4] rfl
        refine ro_calli (va_runV (As := [.int (nI t9), .int (nI k9)]) (rest := [.int (nI f9), .ref (z 0), .int (nI (n9 + 0))]) ⟨hx, hb, hml, hown, hts⟩ (c_MO_endOf l dC dI z g cI ww sf sl ss nuT t9 k9 hs9t9 hW9t9 (by omega) hbbt9 (by omega)) (cwV 2 hts (gw_V m_714 m_716 s_25 m_8 m_717) rfl rfl rfl (by decide +kernel) ⟨Nat.le_of_ble_eq_true rfl, Nat.le_of_ble_eq_true rfl⟩) ⟨ro_blind, va_recv hK hPc (ci := 7) (q0 := 0) rfl rfl, fun U hU hW => ⟨rfl, by rw [hU]; exact hPc, va_K.moved hW.alike hK⟩⟩ rfl rfl hl.1 rfl (lv_room (Nat.le_of_ble_eq_true rfl)) d_MO_movesFrom_81 ⟨Nat.le_of_ble_eq_true rfl, Nat.le_of_ble_eq_true rfl⟩) hS hP (fun r H locs er hP hS => ?_)
        subst er
        have hPc := hP.sub (ws' := [(z 0, .inr (7, [.int (nI (g 0)), .int (nI (g 1)), .int (nI (g 2)), .int (nI (g 3)), .int (nI (g 4)), .int (nI (g 5)), .int (nI (g 6)), .ref (z 1), .ref (z 2), .ref (z 3), .ref (z 4), .int (nI (g 7)), .ref (z 5), .ref (z 6), .ref (z 7), .ref (z 8), .ref (z 9), .ref (z 10), .int (nI (g 8)), .ref (z 11), .ref (z 12), .ref (z 13), .ref (z 14)])), (z 1, .inl (cI, 5, .inl (aN ww))), (z 8, .inl (cI, 9, .inl (aN sf))), (z 9, .inl (cI, 9, .inl (aN sl))), (z 10, .inl (cI, 45, .inl (aN ss)))]) [0, 1, 2, 3, 4] rfl
        refine ro_calli (va_runV (As := [.int (nI f9), .int (nI (Em ww nuT (sf t9) (sl t9) k9))]) (rest := [.int (nI (n9 + 0))]) ⟨hx, hb, hml, hown, hts⟩ (c_MO_hasKnife l dC dI z g cI ww sf sl ss nuF f9 (Em ww nuT (sf t9) (sl t9) k9) (by omega) hs9f9 hW9f9 hb9f9 hp9f9) (cwV 2 hts (gw_V m_734 m_736 s_28 m_8 m_737) rfl rfl rfl (by decide +kernel) ⟨Nat.le_of_ble_eq_true rfl, Nat.le_of_ble_eq_true rfl⟩) ⟨ro_blind, va_recv hK hPc (ci := 7) (q0 := 0) rfl rfl, fun U hU hW => ⟨rfl, by rw [hU]; exact hPc, va_K.moved hW.alike hK⟩⟩ rfl rfl hl.1 rfl (lv_room (Nat.le_of_ble_eq_true rfl)) d_MO_movesFrom_84 ⟨Nat.le_of_ble_eq_true rfl, Nat.le_of_ble_eq_true rfl⟩) hS hP (fun r H locs er hP hS => ?_)
        subst er
        have hb184 := @b01_1 ((fun x => hkB (Bm ww nuF (sf f9) (sl f9)) (Em ww nuF (sf f9) (sl f9)) x (sumN (fun w => ss (5 * f9 + w)) 5)) (Em ww nuT (sf t9) (sl t9) k9) = true) _
        have hb084 := @b01_le ((fun x => hkB (Bm ww nuF (sf f9) (sl f9)) (Em ww nuF (sf f9) (sl f9)) x (sumN (fun w => ss (5 * f9 + w)) 5)) (Em ww nuT (sf t9) (sl t9) k9) = true) _
        refine ix_if_eq (tgt := 94) hx hb (nI_tI (n := b01 ((fun x => hkB (Bm ww nuF (sf f9) (sl f9)) (Em ww nuF (sf f9) (sl f9)) x (sumN (fun w => ss (5 * f9 + w)) 5)) (Em ww nuT (sf t9) (sl t9) k9) = true)) (by omega)) d_MO_movesFrom_87 (by decide) (fun c_87 => ?_) (fun c_87 => ?_)
        · refine lv_iconst (v := nI 1) hx hb d_MO_movesFrom_94 (by decide +kernel) ?_
          refine lv_iadd hx hb d_MO_movesFrom_95 ?_
          refine lv_topr (show _ = nI ((n9 + 0) + 1) from nn_add _ _) ?_
          refine lv_istore_n (lv' := [(3, .int (nI ((n9 + 0) + 1))), (5, .int (nI 0)), (0, .ref (z 0)), (1, .int (nI f9)), (2, .int (nI t9)), (4, .int (nI k9))]) hx hb d_MO_movesFrom_96 rfl hl (by decide) rfl (fun ls hl => ?_)
          refine lv_iinc (v := nI (k9 + 1)) (lv' := [(4, .int (nI (k9 + 1))), (3, .int (nI ((n9 + 0) + 1))), (5, .int (nI 0)), (0, .ref (z 0)), (1, .int (nI f9)), (2, .int (nI t9))]) hx hb d_MO_movesFrom_97 hl (k := 5) rfl (n_incN k9 1) (by decide) rfl (fun ls hl => ?_)
          refine lv_goto (tgt := 5) hx hb d_MO_movesFrom_100 (by decide) ?_
          exact ih_lp (k9 + 1) ((n9 + 0) + 1) (by omega) (by omega) (mvF_S hn (by rw [if_pos (Or.inr (hb161.mp (by omega)))]) (by rw [if_neg (fun q => by have := hb184.mpr q; omega)])) _ _ _ hP hS (lv_sub hl [3, 4, 5, 1, 0] rfl)
        refine lv_iconst (v := nI 0) hx hb d_MO_movesFrom_90 (by decide +kernel) ?_
        refine lv_goto (tgt := 95) hx hb d_MO_movesFrom_91 (by decide) ?_
        refine lv_iadd hx hb d_MO_movesFrom_95 ?_
        refine lv_topr (show _ = nI ((n9 + 0) + 0) from nn_add _ _) ?_
        refine lv_istore_n (lv' := [(3, .int (nI ((n9 + 0) + 0))), (5, .int (nI 0)), (0, .ref (z 0)), (1, .int (nI f9)), (2, .int (nI t9)), (4, .int (nI k9))]) hx hb d_MO_movesFrom_96 rfl hl (by decide) rfl (fun ls hl => ?_)
        refine lv_iinc (v := nI (k9 + 1)) (lv' := [(4, .int (nI (k9 + 1))), (3, .int (nI ((n9 + 0) + 0))), (5, .int (nI 0)), (0, .ref (z 0)), (1, .int (nI f9)), (2, .int (nI t9))]) hx hb d_MO_movesFrom_97 hl (k := 5) rfl (n_incN k9 1) (by decide) rfl (fun ls hl => ?_)
        refine lv_goto (tgt := 5) hx hb d_MO_movesFrom_100 (by decide) ?_
        exact ih_lp (k9 + 1) ((n9 + 0) + 0) (by omega) (by omega) (mvF_S hn (by rw [if_pos (Or.inr (hb161.mp (by omega)))]) (by rw [if_pos (hb184.mp (by omega))])) _ _ _ hP hS (lv_sub hl [3, 4, 5, 1, 0] rfl)
      have hE1 := hp9t9 (k9 - 1) (by omega)
      refine lv_aload_n hx hb d_MO_movesFrom_20 rfl (lv_at hl 0 rfl) ?_
      refine lv_iload_n hx hb d_MO_movesFrom_21 rfl (lv_at hl 2 rfl) ?_
      refine lv_iload hx hb d_MO_movesFrom_22 (lv_at hl 4 rfl) ?_
      refine lv_iconst (v := nI 1) hx hb d_MO_movesFrom_24 (by decide +kernel) ?_
      refine lv_isub hx hb d_MO_movesFrom_25 ?_
      refine lv_topr (show _ = nI (k9 - 1) from nn_subN (by omega)) ?_
      have hPc := hP.sub (ws' := [(z 0, .inr (7, [.int (nI (g 0)), .int (nI (g 1)), .int (nI (g 2)), .int (nI (g 3)), .int (nI (g 4)), .int (nI (g 5)), .int (nI (g 6)), .ref (z 1), .ref (z 2), .ref (z 3), .ref (z 4), .int (nI (g 7)), .ref (z 5), .ref (z 6), .ref (z 7), .ref (z 8), .ref (z 9), .ref (z 10), .int (nI (g 8)), .ref (z 11), .ref (z 12), .ref (z 13), .ref (z 14)])), (z 1, .inl (cI, 5, .inl (aN ww))), (z 8, .inl (cI, 9, .inl (aN sf))), (z 9, .inl (cI, 9, .inl (aN sl))), (z 10, .inl (cI, 45, .inl (aN ss)))]) [0, 1, 2, 3, 4] rfl
      refine ro_calli (va_runV (As := [.int (nI t9), .int (nI (k9 - 1))]) (rest := []) ⟨hx, hb, hml, hown, hts⟩ (c_MO_endOf l dC dI z g cI ww sf sl ss nuT t9 (k9 - 1) hs9t9 hW9t9 (by omega) hbbt9 (by omega)) (cwV 2 hts (gw_V m_714 m_716 s_25 m_8 m_717) rfl rfl rfl (by decide +kernel) ⟨Nat.le_of_ble_eq_true rfl, Nat.le_of_ble_eq_true rfl⟩) ⟨ro_blind, va_recv hK hPc (ci := 7) (q0 := 0) rfl rfl, fun U hU hW => ⟨rfl, by rw [hU]; exact hPc, va_K.moved hW.alike hK⟩⟩ rfl rfl hl.1 rfl (lv_room (Nat.le_of_ble_eq_true rfl)) d_MO_movesFrom_26 ⟨Nat.le_of_ble_eq_true rfl, Nat.le_of_ble_eq_true rfl⟩) hS hP (fun r H locs er hP hS => ?_)
      subst er
      refine lv_aload_n hx hb d_MO_movesFrom_29 rfl (lv_at hl 0 rfl) ?_
      refine lv_iload_n hx hb d_MO_movesFrom_30 rfl (lv_at hl 2 rfl) ?_
      refine lv_iload hx hb d_MO_movesFrom_31 (lv_at hl 4 rfl) ?_
      have hPc := hP.sub (ws' := [(z 0, .inr (7, [.int (nI (g 0)), .int (nI (g 1)), .int (nI (g 2)), .int (nI (g 3)), .int (nI (g 4)), .int (nI (g 5)), .int (nI (g 6)), .ref (z 1), .ref (z 2), .ref (z 3), .ref (z 4), .int (nI (g 7)), .ref (z 5), .ref (z 6), .ref (z 7), .ref (z 8), .ref (z 9), .ref (z 10), .int (nI (g 8)), .ref (z 11), .ref (z 12), .ref (z 13), .ref (z 14)])), (z 1, .inl (cI, 5, .inl (aN ww))), (z 8, .inl (cI, 9, .inl (aN sf))), (z 9, .inl (cI, 9, .inl (aN sl))), (z 10, .inl (cI, 45, .inl (aN ss)))]) [0, 1, 2, 3, 4] rfl
      refine ro_calli (va_runV (As := [.int (nI t9), .int (nI k9)]) (rest := [.int (nI (Em ww nuT (sf t9) (sl t9) (k9 - 1)))]) ⟨hx, hb, hml, hown, hts⟩ (c_MO_beginOf l dC dI z g cI ww sf sl ss nuT t9 k9 hs9t9 hW9t9 (by omega) hbbt9 (by omega)) (cwV 2 hts (gw_V m_710 m_712 s_24 m_8 m_713) rfl rfl rfl (by decide +kernel) ⟨Nat.le_of_ble_eq_true rfl, Nat.le_of_ble_eq_true rfl⟩) ⟨ro_blind, va_recv hK hPc (ci := 7) (q0 := 0) rfl rfl, fun U hU hW => ⟨rfl, by rw [hU]; exact hPc, va_K.moved hW.alike hK⟩⟩ rfl rfl hl.1 rfl (lv_room (Nat.le_of_ble_eq_true rfl)) d_MO_movesFrom_33 ⟨Nat.le_of_ble_eq_true rfl, Nat.le_of_ble_eq_true rfl⟩) hS hP (fun r H locs er hP hS => ?_)
      subst er
      refine ix_icmp_ne (tgt := 43) hx hb (nI_tI (n := Em ww nuT (sf t9) (sl t9) (k9 - 1)) (by omega)) (nI_tI (n := Bm ww nuT (sf t9) (sl t9) k9) (by omega)) d_MO_movesFrom_36 (by decide) (fun c_36 => ?_) (fun c_36 => ?_)
      · refine lv_iconst (v := nI 0) hx hb d_MO_movesFrom_43 (by decide +kernel) ?_
        refine lv_istore (lv' := [(5, .int (nI 0)), (0, .ref (z 0)), (1, .int (nI f9)), (2, .int (nI t9)), (3, .int (nI n9)), (4, .int (nI k9))]) hx hb d_MO_movesFrom_44 hl (by decide) rfl (fun ls hl => ?_)
        refine lv_iload_n hx hb d_MO_movesFrom_46 rfl (lv_at hl 4 rfl) ?_
        refine lv_iload hx hb d_MO_movesFrom_47 (lv_at hl 0 rfl) ?_
        have hj9 : joiB (Bm ww nuT (sf t9) (sl t9)) (Em ww nuT (sf t9) (sl t9)) k9 = false := by rw [← Bool.not_eq_true]; exact fun q => by have := hjo.mp q; omega
        refine ix_if_ne (tgt := 67) hx hb (nI_tI (n := 0) (by omega)) d_MO_movesFrom_49 (by decide) (fun c_49 => absurd c_49 (by omega)) (fun c_49 => ?_)
        refine lv_aload_n hx hb d_MO_movesFrom_52 rfl (lv_at hl 1 rfl) ?_
        refine lv_iload_n hx hb d_MO_movesFrom_53 rfl (lv_at hl 2 rfl) ?_
        refine lv_aload_n hx hb d_MO_movesFrom_54 rfl (lv_at hl 1 rfl) ?_
        refine lv_iload_n hx hb d_MO_movesFrom_55 rfl (lv_at hl 3 rfl) ?_
        refine lv_iload hx hb d_MO_movesFrom_56 (lv_at hl 5 rfl) ?_
        have hPc := hP.sub (ws' := [(z 0, .inr (7, [.int (nI (g 0)), .int (nI (g 1)), .int (nI (g 2)), .int (nI (g 3)), .int (nI (g 4)), .int (nI (g 5)), .int (nI (g 6)), .ref (z 1), .ref (z 2), .ref (z 3), .ref (z 4), .int (nI (g 7)), .ref (z 5), .ref (z 6), .ref (z 7), .ref (z 8), .ref (z 9), .ref (z 10), .int (nI (g 8)), .ref (z 11), .ref (z 12), .ref (z 13), .ref (z 14)])), (z 1, .inl (cI, 5, .inl (aN ww))), (z 8, .inl (cI, 9, .inl (aN sf))), (z 9, .inl (cI, 9, .inl (aN sl))), (z 10, .inl (cI, 45, .inl (aN ss)))]) [0, 1, 2, 3, 4] rfl
        refine ro_calli (va_runV (As := [.int (nI t9), .int (nI k9)]) (rest := [.int (nI f9), .ref (z 0), .int (nI n9)]) ⟨hx, hb, hml, hown, hts⟩ (c_MO_beginOf l dC dI z g cI ww sf sl ss nuT t9 k9 hs9t9 hW9t9 (by omega) hbbt9 (by omega)) (cwV 2 hts (gw_V m_710 m_712 s_24 m_8 m_713) rfl rfl rfl (by decide +kernel) ⟨Nat.le_of_ble_eq_true rfl, Nat.le_of_ble_eq_true rfl⟩) ⟨ro_blind, va_recv hK hPc (ci := 7) (q0 := 0) rfl rfl, fun U hU hW => ⟨rfl, by rw [hU]; exact hPc, va_K.moved hW.alike hK⟩⟩ rfl rfl hl.1 rfl (lv_room (Nat.le_of_ble_eq_true rfl)) d_MO_movesFrom_58 ⟨Nat.le_of_ble_eq_true rfl, Nat.le_of_ble_eq_true rfl⟩) hS hP (fun r H locs er hP hS => ?_)
        subst er
        have hPc := hP.sub (ws' := [(z 0, .inr (7, [.int (nI (g 0)), .int (nI (g 1)), .int (nI (g 2)), .int (nI (g 3)), .int (nI (g 4)), .int (nI (g 5)), .int (nI (g 6)), .ref (z 1), .ref (z 2), .ref (z 3), .ref (z 4), .int (nI (g 7)), .ref (z 5), .ref (z 6), .ref (z 7), .ref (z 8), .ref (z 9), .ref (z 10), .int (nI (g 8)), .ref (z 11), .ref (z 12), .ref (z 13), .ref (z 14)])), (z 1, .inl (cI, 5, .inl (aN ww))), (z 8, .inl (cI, 9, .inl (aN sf))), (z 9, .inl (cI, 9, .inl (aN sl))), (z 10, .inl (cI, 45, .inl (aN ss)))]) [0, 1, 2, 3, 4] rfl
        refine ro_calli (va_runV (As := [.int (nI f9), .int (nI (Bm ww nuT (sf t9) (sl t9) k9))]) (rest := [.int (nI n9)]) ⟨hx, hb, hml, hown, hts⟩ (c_MO_hasKnife l dC dI z g cI ww sf sl ss nuF f9 (Bm ww nuT (sf t9) (sl t9) k9) (by omega) hs9f9 hW9f9 hb9f9 hp9f9) (cwV 2 hts (gw_V m_734 m_736 s_28 m_8 m_737) rfl rfl rfl (by decide +kernel) ⟨Nat.le_of_ble_eq_true rfl, Nat.le_of_ble_eq_true rfl⟩) ⟨ro_blind, va_recv hK hPc (ci := 7) (q0 := 0) rfl rfl, fun U hU hW => ⟨rfl, by rw [hU]; exact hPc, va_K.moved hW.alike hK⟩⟩ rfl rfl hl.1 rfl (lv_room (Nat.le_of_ble_eq_true rfl)) d_MO_movesFrom_61 ⟨Nat.le_of_ble_eq_true rfl, Nat.le_of_ble_eq_true rfl⟩) hS hP (fun r H locs er hP hS => ?_)
        subst er
        have hb161 := @b01_1 ((fun x => hkB (Bm ww nuF (sf f9) (sl f9)) (Em ww nuF (sf f9) (sl f9)) x (sumN (fun w => ss (5 * f9 + w)) 5)) (Bm ww nuT (sf t9) (sl t9) k9) = true) _
        have hb061 := @b01_le ((fun x => hkB (Bm ww nuF (sf f9) (sl f9)) (Em ww nuF (sf f9) (sl f9)) x (sumN (fun w => ss (5 * f9 + w)) 5)) (Bm ww nuT (sf t9) (sl t9) k9) = true) _
        refine ix_if_eq (tgt := 71) hx hb (nI_tI (n := b01 ((fun x => hkB (Bm ww nuF (sf f9) (sl f9)) (Em ww nuF (sf f9) (sl f9)) x (sumN (fun w => ss (5 * f9 + w)) 5)) (Bm ww nuT (sf t9) (sl t9) k9) = true)) (by omega)) d_MO_movesFrom_64 (by decide) (fun c_64 => ?_) (fun c_64 => ?_)
        · refine lv_iconst (v := nI 1) hx hb d_MO_movesFrom_71 (by decide +kernel) ?_
          refine lv_iadd hx hb d_MO_movesFrom_72 ?_
          refine lv_topr (show _ = nI (n9 + 1) from nn_add _ _) ?_
          refine lv_istore_n (lv' := [(3, .int (nI (n9 + 1))), (5, .int (nI 0)), (0, .ref (z 0)), (1, .int (nI f9)), (2, .int (nI t9)), (4, .int (nI k9))]) hx hb d_MO_movesFrom_73 rfl hl (by decide) rfl (fun ls hl => ?_)
          refine lv_iload_n hx hb d_MO_movesFrom_74 rfl (lv_at hl 0 rfl) ?_
          refine lv_aload_n hx hb d_MO_movesFrom_75 rfl (lv_at hl 2 rfl) ?_
          refine lv_iload_n hx hb d_MO_movesFrom_76 rfl (lv_at hl 3 rfl) ?_
          refine lv_aload_n hx hb d_MO_movesFrom_77 rfl (lv_at hl 2 rfl) ?_
          refine lv_iload_n hx hb d_MO_movesFrom_78 rfl (lv_at hl 4 rfl) ?_
          refine lv_iload hx hb d_MO_movesFrom_79 (lv_at hl 5 rfl) ?_
          have hPc := hP.sub (ws' := [(z 0, .inr (7, [.int (nI (g 0)), .int (nI (g 1)), .int (nI (g 2)), .int (nI (g 3)), .int (nI (g 4)), .int (nI (g 5)), .int (nI (g 6)), .ref (z 1), .ref (z 2), .ref (z 3), .ref (z 4), .int (nI (g 7)), .ref (z 5), .ref (z 6), .ref (z 7), .ref (z 8), .ref (z 9), .ref (z 10), .int (nI (g 8)), .ref (z 11), .ref (z 12), .ref (z 13), .ref (z 14)])), (z 1, .inl (cI, 5, .inl (aN ww))), (z 8, .inl (cI, 9, .inl (aN sf))), (z 9, .inl (cI, 9, .inl (aN sl))), (z 10, .inl (cI, 45, .inl (aN ss)))]) [0, 1, 2, 3, 4] rfl
          refine ro_calli (va_runV (As := [.int (nI t9), .int (nI k9)]) (rest := [.int (nI f9), .ref (z 0), .int (nI (n9 + 1))]) ⟨hx, hb, hml, hown, hts⟩ (c_MO_endOf l dC dI z g cI ww sf sl ss nuT t9 k9 hs9t9 hW9t9 (by omega) hbbt9 (by omega)) (cwV 2 hts (gw_V m_714 m_716 s_25 m_8 m_717) rfl rfl rfl (by decide +kernel) ⟨Nat.le_of_ble_eq_true rfl, Nat.le_of_ble_eq_true rfl⟩) ⟨ro_blind, va_recv hK hPc (ci := 7) (q0 := 0) rfl rfl, fun U hU hW => ⟨rfl, by rw [hU]; exact hPc, va_K.moved hW.alike hK⟩⟩ rfl rfl hl.1 rfl (lv_room (Nat.le_of_ble_eq_true rfl)) d_MO_movesFrom_81 ⟨Nat.le_of_ble_eq_true rfl, Nat.le_of_ble_eq_true rfl⟩) hS hP (fun r H locs er hP hS => ?_)
          subst er
          have hPc := hP.sub (ws' := [(z 0, .inr (7, [.int (nI (g 0)), .int (nI (g 1)), .int (nI (g 2)), .int (nI (g 3)), .int (nI (g 4)), .int (nI (g 5)), .int (nI (g 6)), .ref (z 1), .ref (z 2), .ref (z 3), .ref (z 4), .int (nI (g 7)), .ref (z 5), .ref (z 6), .ref (z 7), .ref (z 8), .ref (z 9), .ref (z 10), .int (nI (g 8)), .ref (z 11), .ref (z 12), .ref (z 13), .ref (z 14)])), (z 1, .inl (cI, 5, .inl (aN ww))), (z 8, .inl (cI, 9, .inl (aN sf))), (z 9, .inl (cI, 9, .inl (aN sl))), (z 10, .inl (cI, 45, .inl (aN ss)))]) [0, 1, 2, 3, 4] rfl
          refine ro_calli (va_runV (As := [.int (nI f9), .int (nI (Em ww nuT (sf t9) (sl t9) k9))]) (rest := [.int (nI (n9 + 1))]) ⟨hx, hb, hml, hown, hts⟩ (c_MO_hasKnife l dC dI z g cI ww sf sl ss nuF f9 (Em ww nuT (sf t9) (sl t9) k9) (by omega) hs9f9 hW9f9 hb9f9 hp9f9) (cwV 2 hts (gw_V m_734 m_736 s_28 m_8 m_737) rfl rfl rfl (by decide +kernel) ⟨Nat.le_of_ble_eq_true rfl, Nat.le_of_ble_eq_true rfl⟩) ⟨ro_blind, va_recv hK hPc (ci := 7) (q0 := 0) rfl rfl, fun U hU hW => ⟨rfl, by rw [hU]; exact hPc, va_K.moved hW.alike hK⟩⟩ rfl rfl hl.1 rfl (lv_room (Nat.le_of_ble_eq_true rfl)) d_MO_movesFrom_84 ⟨Nat.le_of_ble_eq_true rfl, Nat.le_of_ble_eq_true rfl⟩) hS hP (fun r H locs er hP hS => ?_)
          subst er
          have hb184 := @b01_1 ((fun x => hkB (Bm ww nuF (sf f9) (sl f9)) (Em ww nuF (sf f9) (sl f9)) x (sumN (fun w => ss (5 * f9 + w)) 5)) (Em ww nuT (sf t9) (sl t9) k9) = true) _
          have hb084 := @b01_le ((fun x => hkB (Bm ww nuF (sf f9) (sl f9)) (Em ww nuF (sf f9) (sl f9)) x (sumN (fun w => ss (5 * f9 + w)) 5)) (Em ww nuT (sf t9) (sl t9) k9) = true) _
          refine ix_if_eq (tgt := 94) hx hb (nI_tI (n := b01 ((fun x => hkB (Bm ww nuF (sf f9) (sl f9)) (Em ww nuF (sf f9) (sl f9)) x (sumN (fun w => ss (5 * f9 + w)) 5)) (Em ww nuT (sf t9) (sl t9) k9) = true)) (by omega)) d_MO_movesFrom_87 (by decide) (fun c_87 => ?_) (fun c_87 => ?_)
          · refine lv_iconst (v := nI 1) hx hb d_MO_movesFrom_94 (by decide +kernel) ?_
            refine lv_iadd hx hb d_MO_movesFrom_95 ?_
            refine lv_topr (show _ = nI ((n9 + 1) + 1) from nn_add _ _) ?_
            refine lv_istore_n (lv' := [(3, .int (nI ((n9 + 1) + 1))), (5, .int (nI 0)), (0, .ref (z 0)), (1, .int (nI f9)), (2, .int (nI t9)), (4, .int (nI k9))]) hx hb d_MO_movesFrom_96 rfl hl (by decide) rfl (fun ls hl => ?_)
            refine lv_iinc (v := nI (k9 + 1)) (lv' := [(4, .int (nI (k9 + 1))), (3, .int (nI ((n9 + 1) + 1))), (5, .int (nI 0)), (0, .ref (z 0)), (1, .int (nI f9)), (2, .int (nI t9))]) hx hb d_MO_movesFrom_97 hl (k := 5) rfl (n_incN k9 1) (by decide) rfl (fun ls hl => ?_)
            refine lv_goto (tgt := 5) hx hb d_MO_movesFrom_100 (by decide) ?_
            exact ih_lp (k9 + 1) ((n9 + 1) + 1) (by omega) (by omega) (mvF_S hn (by rw [if_neg (fun q => q.elim (fun q => by rw [hj9] at q; exact Bool.noConfusion q) (fun q => by have := hb161.mpr q; omega))]) (by rw [if_neg (fun q => by have := hb184.mpr q; omega)])) _ _ _ hP hS (lv_sub hl [3, 4, 5, 1, 0] rfl)
          refine lv_iconst (v := nI 0) hx hb d_MO_movesFrom_90 (by decide +kernel) ?_
          refine lv_goto (tgt := 95) hx hb d_MO_movesFrom_91 (by decide) ?_
          refine lv_iadd hx hb d_MO_movesFrom_95 ?_
          refine lv_topr (show _ = nI ((n9 + 1) + 0) from nn_add _ _) ?_
          refine lv_istore_n (lv' := [(3, .int (nI ((n9 + 1) + 0))), (5, .int (nI 0)), (0, .ref (z 0)), (1, .int (nI f9)), (2, .int (nI t9)), (4, .int (nI k9))]) hx hb d_MO_movesFrom_96 rfl hl (by decide) rfl (fun ls hl => ?_)
          refine lv_iinc (v := nI (k9 + 1)) (lv' := [(4, .int (nI (k9 + 1))), (3, .int (nI ((n9 + 1) + 0))), (5, .int (nI 0)), (0, .ref (z 0)), (1, .int (nI f9)), (2, .int (nI t9))]) hx hb d_MO_movesFrom_97 hl (k := 5) rfl (n_incN k9 1) (by decide) rfl (fun ls hl => ?_)
          refine lv_goto (tgt := 5) hx hb d_MO_movesFrom_100 (by decide) ?_
          exact ih_lp (k9 + 1) ((n9 + 1) + 0) (by omega) (by omega) (mvF_S hn (by rw [if_neg (fun q => q.elim (fun q => by rw [hj9] at q; exact Bool.noConfusion q) (fun q => by have := hb161.mpr q; omega))]) (by rw [if_pos (hb184.mp (by omega))])) _ _ _ hP hS (lv_sub hl [3, 4, 5, 1, 0] rfl)
        refine lv_iconst (v := nI 0) hx hb d_MO_movesFrom_67 (by decide +kernel) ?_
        refine lv_goto (tgt := 72) hx hb d_MO_movesFrom_68 (by decide) ?_
        refine lv_iadd hx hb d_MO_movesFrom_72 ?_
        refine lv_topr (show _ = nI (n9 + 0) from nn_add _ _) ?_
        refine lv_istore_n (lv' := [(3, .int (nI (n9 + 0))), (5, .int (nI 0)), (0, .ref (z 0)), (1, .int (nI f9)), (2, .int (nI t9)), (4, .int (nI k9))]) hx hb d_MO_movesFrom_73 rfl hl (by decide) rfl (fun ls hl => ?_)
        refine lv_iload_n hx hb d_MO_movesFrom_74 rfl (lv_at hl 0 rfl) ?_
        refine lv_aload_n hx hb d_MO_movesFrom_75 rfl (lv_at hl 2 rfl) ?_
        refine lv_iload_n hx hb d_MO_movesFrom_76 rfl (lv_at hl 3 rfl) ?_
        refine lv_aload_n hx hb d_MO_movesFrom_77 rfl (lv_at hl 2 rfl) ?_
        refine lv_iload_n hx hb d_MO_movesFrom_78 rfl (lv_at hl 4 rfl) ?_
        refine lv_iload hx hb d_MO_movesFrom_79 (lv_at hl 5 rfl) ?_
        have hPc := hP.sub (ws' := [(z 0, .inr (7, [.int (nI (g 0)), .int (nI (g 1)), .int (nI (g 2)), .int (nI (g 3)), .int (nI (g 4)), .int (nI (g 5)), .int (nI (g 6)), .ref (z 1), .ref (z 2), .ref (z 3), .ref (z 4), .int (nI (g 7)), .ref (z 5), .ref (z 6), .ref (z 7), .ref (z 8), .ref (z 9), .ref (z 10), .int (nI (g 8)), .ref (z 11), .ref (z 12), .ref (z 13), .ref (z 14)])), (z 1, .inl (cI, 5, .inl (aN ww))), (z 8, .inl (cI, 9, .inl (aN sf))), (z 9, .inl (cI, 9, .inl (aN sl))), (z 10, .inl (cI, 45, .inl (aN ss)))]) [0, 1, 2, 3, 4] rfl
        refine ro_calli (va_runV (As := [.int (nI t9), .int (nI k9)]) (rest := [.int (nI f9), .ref (z 0), .int (nI (n9 + 0))]) ⟨hx, hb, hml, hown, hts⟩ (c_MO_endOf l dC dI z g cI ww sf sl ss nuT t9 k9 hs9t9 hW9t9 (by omega) hbbt9 (by omega)) (cwV 2 hts (gw_V m_714 m_716 s_25 m_8 m_717) rfl rfl rfl (by decide +kernel) ⟨Nat.le_of_ble_eq_true rfl, Nat.le_of_ble_eq_true rfl⟩) ⟨ro_blind, va_recv hK hPc (ci := 7) (q0 := 0) rfl rfl, fun U hU hW => ⟨rfl, by rw [hU]; exact hPc, va_K.moved hW.alike hK⟩⟩ rfl rfl hl.1 rfl (lv_room (Nat.le_of_ble_eq_true rfl)) d_MO_movesFrom_81 ⟨Nat.le_of_ble_eq_true rfl, Nat.le_of_ble_eq_true rfl⟩) hS hP (fun r H locs er hP hS => ?_)
        subst er
        have hPc := hP.sub (ws' := [(z 0, .inr (7, [.int (nI (g 0)), .int (nI (g 1)), .int (nI (g 2)), .int (nI (g 3)), .int (nI (g 4)), .int (nI (g 5)), .int (nI (g 6)), .ref (z 1), .ref (z 2), .ref (z 3), .ref (z 4), .int (nI (g 7)), .ref (z 5), .ref (z 6), .ref (z 7), .ref (z 8), .ref (z 9), .ref (z 10), .int (nI (g 8)), .ref (z 11), .ref (z 12), .ref (z 13), .ref (z 14)])), (z 1, .inl (cI, 5, .inl (aN ww))), (z 8, .inl (cI, 9, .inl (aN sf))), (z 9, .inl (cI, 9, .inl (aN sl))), (z 10, .inl (cI, 45, .inl (aN ss)))]) [0, 1, 2, 3, 4] rfl
        refine ro_calli (va_runV (As := [.int (nI f9), .int (nI (Em ww nuT (sf t9) (sl t9) k9))]) (rest := [.int (nI (n9 + 0))]) ⟨hx, hb, hml, hown, hts⟩ (c_MO_hasKnife l dC dI z g cI ww sf sl ss nuF f9 (Em ww nuT (sf t9) (sl t9) k9) (by omega) hs9f9 hW9f9 hb9f9 hp9f9) (cwV 2 hts (gw_V m_734 m_736 s_28 m_8 m_737) rfl rfl rfl (by decide +kernel) ⟨Nat.le_of_ble_eq_true rfl, Nat.le_of_ble_eq_true rfl⟩) ⟨ro_blind, va_recv hK hPc (ci := 7) (q0 := 0) rfl rfl, fun U hU hW => ⟨rfl, by rw [hU]; exact hPc, va_K.moved hW.alike hK⟩⟩ rfl rfl hl.1 rfl (lv_room (Nat.le_of_ble_eq_true rfl)) d_MO_movesFrom_84 ⟨Nat.le_of_ble_eq_true rfl, Nat.le_of_ble_eq_true rfl⟩) hS hP (fun r H locs er hP hS => ?_)
        subst er
        have hb184 := @b01_1 ((fun x => hkB (Bm ww nuF (sf f9) (sl f9)) (Em ww nuF (sf f9) (sl f9)) x (sumN (fun w => ss (5 * f9 + w)) 5)) (Em ww nuT (sf t9) (sl t9) k9) = true) _
        have hb084 := @b01_le ((fun x => hkB (Bm ww nuF (sf f9) (sl f9)) (Em ww nuF (sf f9) (sl f9)) x (sumN (fun w => ss (5 * f9 + w)) 5)) (Em ww nuT (sf t9) (sl t9) k9) = true) _
        refine ix_if_eq (tgt := 94) hx hb (nI_tI (n := b01 ((fun x => hkB (Bm ww nuF (sf f9) (sl f9)) (Em ww nuF (sf f9) (sl f9)) x (sumN (fun w => ss (5 * f9 + w)) 5)) (Em ww nuT (sf t9) (sl t9) k9) = true)) (by omega)) d_MO_movesFrom_87 (by decide) (fun c_87 => ?_) (fun c_87 => ?_)
        · refine lv_iconst (v := nI 1) hx hb d_MO_movesFrom_94 (by decide +kernel) ?_
          refine lv_iadd hx hb d_MO_movesFrom_95 ?_
          refine lv_topr (show _ = nI ((n9 + 0) + 1) from nn_add _ _) ?_
          refine lv_istore_n (lv' := [(3, .int (nI ((n9 + 0) + 1))), (5, .int (nI 0)), (0, .ref (z 0)), (1, .int (nI f9)), (2, .int (nI t9)), (4, .int (nI k9))]) hx hb d_MO_movesFrom_96 rfl hl (by decide) rfl (fun ls hl => ?_)
          refine lv_iinc (v := nI (k9 + 1)) (lv' := [(4, .int (nI (k9 + 1))), (3, .int (nI ((n9 + 0) + 1))), (5, .int (nI 0)), (0, .ref (z 0)), (1, .int (nI f9)), (2, .int (nI t9))]) hx hb d_MO_movesFrom_97 hl (k := 5) rfl (n_incN k9 1) (by decide) rfl (fun ls hl => ?_)
          refine lv_goto (tgt := 5) hx hb d_MO_movesFrom_100 (by decide) ?_
          exact ih_lp (k9 + 1) ((n9 + 0) + 1) (by omega) (by omega) (mvF_S hn (by rw [if_pos (Or.inr (hb161.mp (by omega)))]) (by rw [if_neg (fun q => by have := hb184.mpr q; omega)])) _ _ _ hP hS (lv_sub hl [3, 4, 5, 1, 0] rfl)
        refine lv_iconst (v := nI 0) hx hb d_MO_movesFrom_90 (by decide +kernel) ?_
        refine lv_goto (tgt := 95) hx hb d_MO_movesFrom_91 (by decide) ?_
        refine lv_iadd hx hb d_MO_movesFrom_95 ?_
        refine lv_topr (show _ = nI ((n9 + 0) + 0) from nn_add _ _) ?_
        refine lv_istore_n (lv' := [(3, .int (nI ((n9 + 0) + 0))), (5, .int (nI 0)), (0, .ref (z 0)), (1, .int (nI f9)), (2, .int (nI t9)), (4, .int (nI k9))]) hx hb d_MO_movesFrom_96 rfl hl (by decide) rfl (fun ls hl => ?_)
        refine lv_iinc (v := nI (k9 + 1)) (lv' := [(4, .int (nI (k9 + 1))), (3, .int (nI ((n9 + 0) + 0))), (5, .int (nI 0)), (0, .ref (z 0)), (1, .int (nI f9)), (2, .int (nI t9))]) hx hb d_MO_movesFrom_97 hl (k := 5) rfl (n_incN k9 1) (by decide) rfl (fun ls hl => ?_)
        refine lv_goto (tgt := 5) hx hb d_MO_movesFrom_100 (by decide) ?_
        exact ih_lp (k9 + 1) ((n9 + 0) + 0) (by omega) (by omega) (mvF_S hn (by rw [if_pos (Or.inr (hb161.mp (by omega)))]) (by rw [if_pos (hb184.mp (by omega))])) _ _ _ hP hS (lv_sub hl [3, 4, 5, 1, 0] rfl)
      refine lv_iconst (v := nI 1) hx hb d_MO_movesFrom_39 (by decide +kernel) ?_
      refine lv_goto (tgt := 44) hx hb d_MO_movesFrom_40 (by decide) ?_
      refine lv_istore (lv' := [(5, .int (nI 1)), (0, .ref (z 0)), (1, .int (nI f9)), (2, .int (nI t9)), (3, .int (nI n9)), (4, .int (nI k9))]) hx hb d_MO_movesFrom_44 hl (by decide) rfl (fun ls hl => ?_)
      refine lv_iload_n hx hb d_MO_movesFrom_46 rfl (lv_at hl 4 rfl) ?_
      refine lv_iload hx hb d_MO_movesFrom_47 (lv_at hl 0 rfl) ?_
      have hj9 : joiB (Bm ww nuT (sf t9) (sl t9)) (Em ww nuT (sf t9) (sl t9)) k9 = true := by exact hjo.mpr (by omega)
      refine ix_if_ne (tgt := 67) hx hb (nI_tI (n := 1) (by omega)) d_MO_movesFrom_49 (by decide) (fun c_49 => ?_) (fun c_49 => absurd c_49 (by omega))
      refine lv_iconst (v := nI 0) hx hb d_MO_movesFrom_67 (by decide +kernel) ?_
      refine lv_goto (tgt := 72) hx hb d_MO_movesFrom_68 (by decide) ?_
      refine lv_iadd hx hb d_MO_movesFrom_72 ?_
      refine lv_topr (show _ = nI (n9 + 0) from nn_add _ _) ?_
      refine lv_istore_n (lv' := [(3, .int (nI (n9 + 0))), (5, .int (nI 1)), (0, .ref (z 0)), (1, .int (nI f9)), (2, .int (nI t9)), (4, .int (nI k9))]) hx hb d_MO_movesFrom_73 rfl hl (by decide) rfl (fun ls hl => ?_)
      refine lv_iload_n hx hb d_MO_movesFrom_74 rfl (lv_at hl 0 rfl) ?_
      refine lv_aload_n hx hb d_MO_movesFrom_75 rfl (lv_at hl 2 rfl) ?_
      refine lv_iload_n hx hb d_MO_movesFrom_76 rfl (lv_at hl 3 rfl) ?_
      refine lv_aload_n hx hb d_MO_movesFrom_77 rfl (lv_at hl 2 rfl) ?_
      refine lv_iload_n hx hb d_MO_movesFrom_78 rfl (lv_at hl 4 rfl) ?_
      refine lv_iload hx hb d_MO_movesFrom_79 (lv_at hl 5 rfl) ?_
      have hPc := hP.sub (ws' := [(z 0, .inr (7, [.int (nI (g 0)), .int (nI (g 1)), .int (nI (g 2)), .int (nI (g 3)), .int (nI (g 4)), .int (nI (g 5)), .int (nI (g 6)), .ref (z 1), .ref (z 2), .ref (z 3), .ref (z 4), .int (nI (g 7)), .ref (z 5), .ref (z 6), .ref (z 7), .ref (z 8), .ref (z 9), .ref (z 10), .int (nI (g 8)), .ref (z 11), .ref (z 12), .ref (z 13), .ref (z 14)])), (z 1, .inl (cI, 5, .inl (aN ww))), (z 8, .inl (cI, 9, .inl (aN sf))), (z 9, .inl (cI, 9, .inl (aN sl))), (z 10, .inl (cI, 45, .inl (aN ss)))]) [0, 1, 2, 3, 4] rfl
      refine ro_calli (va_runV (As := [.int (nI t9), .int (nI k9)]) (rest := [.int (nI f9), .ref (z 0), .int (nI (n9 + 0))]) ⟨hx, hb, hml, hown, hts⟩ (c_MO_endOf l dC dI z g cI ww sf sl ss nuT t9 k9 hs9t9 hW9t9 (by omega) hbbt9 (by omega)) (cwV 2 hts (gw_V m_714 m_716 s_25 m_8 m_717) rfl rfl rfl (by decide +kernel) ⟨Nat.le_of_ble_eq_true rfl, Nat.le_of_ble_eq_true rfl⟩) ⟨ro_blind, va_recv hK hPc (ci := 7) (q0 := 0) rfl rfl, fun U hU hW => ⟨rfl, by rw [hU]; exact hPc, va_K.moved hW.alike hK⟩⟩ rfl rfl hl.1 rfl (lv_room (Nat.le_of_ble_eq_true rfl)) d_MO_movesFrom_81 ⟨Nat.le_of_ble_eq_true rfl, Nat.le_of_ble_eq_true rfl⟩) hS hP (fun r H locs er hP hS => ?_)
      subst er
      have hPc := hP.sub (ws' := [(z 0, .inr (7, [.int (nI (g 0)), .int (nI (g 1)), .int (nI (g 2)), .int (nI (g 3)), .int (nI (g 4)), .int (nI (g 5)), .int (nI (g 6)), .ref (z 1), .ref (z 2), .ref (z 3), .ref (z 4), .int (nI (g 7)), .ref (z 5), .ref (z 6), .ref (z 7), .ref (z 8), .ref (z 9), .ref (z 10), .int (nI (g 8)), .ref (z 11), .ref (z 12), .ref (z 13), .ref (z 14)])), (z 1, .inl (cI, 5, .inl (aN ww))), (z 8, .inl (cI, 9, .inl (aN sf))), (z 9, .inl (cI, 9, .inl (aN sl))), (z 10, .inl (cI, 45, .inl (aN ss)))]) [0, 1, 2, 3, 4] rfl
      refine ro_calli (va_runV (As := [.int (nI f9), .int (nI (Em ww nuT (sf t9) (sl t9) k9))]) (rest := [.int (nI (n9 + 0))]) ⟨hx, hb, hml, hown, hts⟩ (c_MO_hasKnife l dC dI z g cI ww sf sl ss nuF f9 (Em ww nuT (sf t9) (sl t9) k9) (by omega) hs9f9 hW9f9 hb9f9 hp9f9) (cwV 2 hts (gw_V m_734 m_736 s_28 m_8 m_737) rfl rfl rfl (by decide +kernel) ⟨Nat.le_of_ble_eq_true rfl, Nat.le_of_ble_eq_true rfl⟩) ⟨ro_blind, va_recv hK hPc (ci := 7) (q0 := 0) rfl rfl, fun U hU hW => ⟨rfl, by rw [hU]; exact hPc, va_K.moved hW.alike hK⟩⟩ rfl rfl hl.1 rfl (lv_room (Nat.le_of_ble_eq_true rfl)) d_MO_movesFrom_84 ⟨Nat.le_of_ble_eq_true rfl, Nat.le_of_ble_eq_true rfl⟩) hS hP (fun r H locs er hP hS => ?_)
      subst er
      have hb184 := @b01_1 ((fun x => hkB (Bm ww nuF (sf f9) (sl f9)) (Em ww nuF (sf f9) (sl f9)) x (sumN (fun w => ss (5 * f9 + w)) 5)) (Em ww nuT (sf t9) (sl t9) k9) = true) _
      have hb084 := @b01_le ((fun x => hkB (Bm ww nuF (sf f9) (sl f9)) (Em ww nuF (sf f9) (sl f9)) x (sumN (fun w => ss (5 * f9 + w)) 5)) (Em ww nuT (sf t9) (sl t9) k9) = true) _
      refine ix_if_eq (tgt := 94) hx hb (nI_tI (n := b01 ((fun x => hkB (Bm ww nuF (sf f9) (sl f9)) (Em ww nuF (sf f9) (sl f9)) x (sumN (fun w => ss (5 * f9 + w)) 5)) (Em ww nuT (sf t9) (sl t9) k9) = true)) (by omega)) d_MO_movesFrom_87 (by decide) (fun c_87 => ?_) (fun c_87 => ?_)
      · refine lv_iconst (v := nI 1) hx hb d_MO_movesFrom_94 (by decide +kernel) ?_
        refine lv_iadd hx hb d_MO_movesFrom_95 ?_
        refine lv_topr (show _ = nI ((n9 + 0) + 1) from nn_add _ _) ?_
        refine lv_istore_n (lv' := [(3, .int (nI ((n9 + 0) + 1))), (5, .int (nI 1)), (0, .ref (z 0)), (1, .int (nI f9)), (2, .int (nI t9)), (4, .int (nI k9))]) hx hb d_MO_movesFrom_96 rfl hl (by decide) rfl (fun ls hl => ?_)
        refine lv_iinc (v := nI (k9 + 1)) (lv' := [(4, .int (nI (k9 + 1))), (3, .int (nI ((n9 + 0) + 1))), (5, .int (nI 1)), (0, .ref (z 0)), (1, .int (nI f9)), (2, .int (nI t9))]) hx hb d_MO_movesFrom_97 hl (k := 5) rfl (n_incN k9 1) (by decide) rfl (fun ls hl => ?_)
        refine lv_goto (tgt := 5) hx hb d_MO_movesFrom_100 (by decide) ?_
        exact ih_lp (k9 + 1) ((n9 + 0) + 1) (by omega) (by omega) (mvF_S hn (by rw [if_pos (Or.inl hj9)]) (by rw [if_neg (fun q => by have := hb184.mpr q; omega)])) _ _ _ hP hS (lv_sub hl [3, 4, 5, 1, 0] rfl)
      refine lv_iconst (v := nI 0) hx hb d_MO_movesFrom_90 (by decide +kernel) ?_
      refine lv_goto (tgt := 95) hx hb d_MO_movesFrom_91 (by decide) ?_
      refine lv_iadd hx hb d_MO_movesFrom_95 ?_
      refine lv_topr (show _ = nI ((n9 + 0) + 0) from nn_add _ _) ?_
      refine lv_istore_n (lv' := [(3, .int (nI ((n9 + 0) + 0))), (5, .int (nI 1)), (0, .ref (z 0)), (1, .int (nI f9)), (2, .int (nI t9)), (4, .int (nI k9))]) hx hb d_MO_movesFrom_96 rfl hl (by decide) rfl (fun ls hl => ?_)
      refine lv_iinc (v := nI (k9 + 1)) (lv' := [(4, .int (nI (k9 + 1))), (3, .int (nI ((n9 + 0) + 0))), (5, .int (nI 1)), (0, .ref (z 0)), (1, .int (nI f9)), (2, .int (nI t9))]) hx hb d_MO_movesFrom_97 hl (k := 5) rfl (n_incN k9 1) (by decide) rfl (fun ls hl => ?_)
      refine lv_goto (tgt := 5) hx hb d_MO_movesFrom_100 (by decide) ?_
      exact ih_lp (k9 + 1) ((n9 + 0) + 0) (by omega) (by omega) (mvF_S hn (by rw [if_pos (Or.inl hj9)]) (by rw [if_pos (hb184.mp (by omega))])) _ _ _ hP hS (lv_sub hl [3, 4, 5, 1, 0] rfl)
  exact lp (sumN (fun w => ss (5 * t9 + w)) 5 + 1) 0 0 (by omega) (by omega) rfl _ _ _ hP hS (lv_sub hl [2, 3, 4, 1, 0] rfl)
end
